section
-- ===== PART A: goes FIRST, ahead of the names: the tables' words, and 'selects' of the private methods out of them =====
/-- a private method of a class that the tables say can be made, by its rows of tables_1 -/
def lw_okq (q : MethodName × Nat) : Prop := (q.1.cls ≠ "java/lang/invoke/MethodHandle" ∧ q.1.cls ≠ "java/lang/invoke/VarHandle") ∧ Cond.instantiable q.1.cls q.2 ∈ tables_1 ∧ Cond.privateMethod q.1 ∈ tables_1 ∧ Cond.instanceMethod q.1 ∈ tables_1
theorem lw_p0 : lw_okq (⟨"AgedAssets", "eventOf", "(I)LAgedAssets$Event;"⟩, 7) := ⟨⟨by decide +kernel, by decide +kernel⟩, List.mem_of_getElem? (i := 14) (by decide +kernel), List.mem_of_getElem? (i := 138) (by decide +kernel), List.mem_of_getElem? (i := 139) (by decide +kernel)⟩
theorem lw_p1 : lw_okq (⟨"AgedAssets", "partOf", "(I)LAgedAssets$Part;"⟩, 7) := ⟨⟨by decide +kernel, by decide +kernel⟩, List.mem_of_getElem? (i := 14) (by decide +kernel), List.mem_of_getElem? (i := 142) (by decide +kernel), List.mem_of_getElem? (i := 143) (by decide +kernel)⟩
theorem lw_p2 : lw_okq (⟨"AgedAssets", "hasBreach", "(LAgedAssets$Part;)Z"⟩, 7) := ⟨⟨by decide +kernel, by decide +kernel⟩, List.mem_of_getElem? (i := 14) (by decide +kernel), List.mem_of_getElem? (i := 146) (by decide +kernel), List.mem_of_getElem? (i := 147) (by decide +kernel)⟩
theorem lw_p3 : lw_okq (⟨"AgedAssets", "follow", "(LAgedAssets$Part;I)V"⟩, 7) := ⟨⟨by decide +kernel, by decide +kernel⟩, List.mem_of_getElem? (i := 14) (by decide +kernel), List.mem_of_getElem? (i := 150) (by decide +kernel), List.mem_of_getElem? (i := 151) (by decide +kernel)⟩
theorem lw_p4 : lw_okq (⟨"AgedAssets$Course", "beginStretch", "()V"⟩, 15) := ⟨⟨by decide +kernel, by decide +kernel⟩, List.mem_of_getElem? (i := 26) (by decide +kernel), List.mem_of_getElem? (i := 158) (by decide +kernel), List.mem_of_getElem? (i := 159) (by decide +kernel)⟩
theorem lw_p5 : lw_okq (⟨"AgedAssets$Course", "isBreach", "(LAgedAssets$Event;J)Z"⟩, 15) := ⟨⟨by decide +kernel, by decide +kernel⟩, List.mem_of_getElem? (i := 26) (by decide +kernel), List.mem_of_getElem? (i := 182) (by decide +kernel), List.mem_of_getElem? (i := 183) (by decide +kernel)⟩
theorem lw_p6 : lw_okq (⟨"AgedAssets$Course", "apply", "(LAgedAssets$Event;)V"⟩, 15) := ⟨⟨by decide +kernel, by decide +kernel⟩, List.mem_of_getElem? (i := 26) (by decide +kernel), List.mem_of_getElem? (i := 186) (by decide +kernel), List.mem_of_getElem? (i := 187) (by decide +kernel)⟩
theorem lw_p7 : lw_okq (⟨"AgedAssets$Course", "revalue", "(J)V"⟩, 15) := ⟨⟨by decide +kernel, by decide +kernel⟩, List.mem_of_getElem? (i := 26) (by decide +kernel), List.mem_of_getElem? (i := 190) (by decide +kernel), List.mem_of_getElem? (i := 191) (by decide +kernel)⟩
theorem lw_p8 : lw_okq (⟨"AgedAssets$Course", "lose", "(J)V"⟩, 15) := ⟨⟨by decide +kernel, by decide +kernel⟩, List.mem_of_getElem? (i := 26) (by decide +kernel), List.mem_of_getElem? (i := 194) (by decide +kernel), List.mem_of_getElem? (i := 195) (by decide +kernel)⟩
theorem lw_p9 : lw_okq (⟨"AgedAssets$Course", "impair", "(J)V"⟩, 15) := ⟨⟨by decide +kernel, by decide +kernel⟩, List.mem_of_getElem? (i := 26) (by decide +kernel), List.mem_of_getElem? (i := 201) (by decide +kernel), List.mem_of_getElem? (i := 202) (by decide +kernel)⟩
theorem lw_p10 : lw_okq (⟨"AgedAssets$Course", "restore", "(J)V"⟩, 15) := ⟨⟨by decide +kernel, by decide +kernel⟩, List.mem_of_getElem? (i := 26) (by decide +kernel), List.mem_of_getElem? (i := 205) (by decide +kernel), List.mem_of_getElem? (i := 206) (by decide +kernel)⟩
theorem lw_p11 : lw_okq (⟨"AgedAssets$Course", "sell", "(I)V"⟩, 15) := ⟨⟨by decide +kernel, by decide +kernel⟩, List.mem_of_getElem? (i := 26) (by decide +kernel), List.mem_of_getElem? (i := 209) (by decide +kernel), List.mem_of_getElem? (i := 210) (by decide +kernel)⟩
theorem lw_p12 : lw_okq (⟨"AgedAssets$Course", "decliningCharge", "()J"⟩, 15) := ⟨⟨by decide +kernel, by decide +kernel⟩, List.mem_of_getElem? (i := 26) (by decide +kernel), List.mem_of_getElem? (i := 224) (by decide +kernel), List.mem_of_getElem? (i := 225) (by decide +kernel)⟩
theorem lw_p13 : lw_okq (⟨"AgedAssets$Stretch", "chargesTogether", "(I)J"⟩, 6) := ⟨⟨by decide +kernel, by decide +kernel⟩, List.mem_of_getElem? (i := 32) (by decide +kernel), List.mem_of_getElem? (i := 232) (by decide +kernel), List.mem_of_getElem? (i := 233) (by decide +kernel)⟩
theorem lw_p14 : lw_okq (⟨"java/lang/Throwable", "fillInStackTrace", "(I)Ljava/lang/Throwable;"⟩, 6) := ⟨⟨by decide +kernel, by decide +kernel⟩, List.mem_of_getElem? (i := 312) (by decide +kernel), List.mem_of_getElem? (i := 310) (by decide +kernel), List.mem_of_getElem? (i := 311) (by decide +kernel)⟩
theorem lw_p15 : lw_okq (⟨"AgedAssetsModel", "isPart", "(I)Z"⟩, 37) := ⟨⟨by decide +kernel, by decide +kernel⟩, List.mem_of_getElem? (i := 507) (by decide +kernel), List.mem_of_getElem? (i := 647) (by decide +kernel), List.mem_of_getElem? (i := 648) (by decide +kernel)⟩
def lw_privs_1 : List (MethodName × Nat) := [(⟨"AgedAssets", "eventOf", "(I)LAgedAssets$Event;"⟩, 7), (⟨"AgedAssets", "partOf", "(I)LAgedAssets$Part;"⟩, 7), (⟨"AgedAssets", "hasBreach", "(LAgedAssets$Part;)Z"⟩, 7), (⟨"AgedAssets", "follow", "(LAgedAssets$Part;I)V"⟩, 7), (⟨"AgedAssets$Course", "beginStretch", "()V"⟩, 15), (⟨"AgedAssets$Course", "isBreach", "(LAgedAssets$Event;J)Z"⟩, 15), (⟨"AgedAssets$Course", "apply", "(LAgedAssets$Event;)V"⟩, 15), (⟨"AgedAssets$Course", "revalue", "(J)V"⟩, 15), (⟨"AgedAssets$Course", "lose", "(J)V"⟩, 15), (⟨"AgedAssets$Course", "impair", "(J)V"⟩, 15), (⟨"AgedAssets$Course", "restore", "(J)V"⟩, 15), (⟨"AgedAssets$Course", "sell", "(I)V"⟩, 15), (⟨"AgedAssets$Course", "decliningCharge", "()J"⟩, 15), (⟨"AgedAssets$Stretch", "chargesTogether", "(I)J"⟩, 6), (⟨"java/lang/Throwable", "fillInStackTrace", "(I)Ljava/lang/Throwable;"⟩, 6), (⟨"AgedAssetsModel", "isPart", "(I)Z"⟩, 37)]
theorem lw_r1 : ∀ q ∈ lw_privs_1, lw_okq q := List.forall_mem_cons.mpr ⟨lw_p0, List.forall_mem_cons.mpr ⟨lw_p1, List.forall_mem_cons.mpr ⟨lw_p2, List.forall_mem_cons.mpr ⟨lw_p3, List.forall_mem_cons.mpr ⟨lw_p4, List.forall_mem_cons.mpr ⟨lw_p5, List.forall_mem_cons.mpr ⟨lw_p6, List.forall_mem_cons.mpr ⟨lw_p7, List.forall_mem_cons.mpr ⟨lw_p8, List.forall_mem_cons.mpr ⟨lw_p9, List.forall_mem_cons.mpr ⟨lw_p10, List.forall_mem_cons.mpr ⟨lw_p11, List.forall_mem_cons.mpr ⟨lw_p12, List.forall_mem_cons.mpr ⟨lw_p13, List.forall_mem_cons.mpr ⟨lw_p14, List.forall_mem_cons.mpr ⟨lw_p15, fun _ h => absurd h List.not_mem_nil⟩⟩⟩⟩⟩⟩⟩⟩⟩⟩⟩⟩⟩⟩⟩⟩
theorem lw_p16 : lw_okq (⟨"AgedAssetsModel", "reckon", "(II)Z"⟩, 37) := ⟨⟨by decide +kernel, by decide +kernel⟩, List.mem_of_getElem? (i := 507) (by decide +kernel), List.mem_of_getElem? (i := 651) (by decide +kernel), List.mem_of_getElem? (i := 652) (by decide +kernel)⟩
theorem lw_p17 : lw_okq (⟨"AgedAssetsModel", "go", "(IIZ)I"⟩, 37) := ⟨⟨by decide +kernel, by decide +kernel⟩, List.mem_of_getElem? (i := 507) (by decide +kernel), List.mem_of_getElem? (i := 655) (by decide +kernel), List.mem_of_getElem? (i := 656) (by decide +kernel)⟩
theorem lw_p18 : lw_okq (⟨"AgedAssetsModel", "clear", "()V"⟩, 37) := ⟨⟨by decide +kernel, by decide +kernel⟩, List.mem_of_getElem? (i := 507) (by decide +kernel), List.mem_of_getElem? (i := 659) (by decide +kernel), List.mem_of_getElem? (i := 660) (by decide +kernel)⟩
theorem lw_p19 : lw_okq (⟨"AgedAssetsModel", "stretch", "(I)V"⟩, 37) := ⟨⟨by decide +kernel, by decide +kernel⟩, List.mem_of_getElem? (i := 507) (by decide +kernel), List.mem_of_getElem? (i := 663) (by decide +kernel), List.mem_of_getElem? (i := 664) (by decide +kernel)⟩
theorem lw_p20 : lw_okq (⟨"AgedAssetsModel", "book", "()J"⟩, 37) := ⟨⟨by decide +kernel, by decide +kernel⟩, List.mem_of_getElem? (i := 507) (by decide +kernel), List.mem_of_getElem? (i := 667) (by decide +kernel), List.mem_of_getElem? (i := 668) (by decide +kernel)⟩
theorem lw_p21 : lw_okq (⟨"AgedAssetsModel", "eventIn", "(II)I"⟩, 37) := ⟨⟨by decide +kernel, by decide +kernel⟩, List.mem_of_getElem? (i := 507) (by decide +kernel), List.mem_of_getElem? (i := 671) (by decide +kernel), List.mem_of_getElem? (i := 672) (by decide +kernel)⟩
theorem lw_p22 : lw_okq (⟨"AgedAssetsModel", "happens", "(II)Z"⟩, 37) := ⟨⟨by decide +kernel, by decide +kernel⟩, List.mem_of_getElem? (i := 507) (by decide +kernel), List.mem_of_getElem? (i := 675) (by decide +kernel), List.mem_of_getElem? (i := 676) (by decide +kernel)⟩
theorem lw_p23 : lw_okq (⟨"AgedAssetsModel", "values", "(J)V"⟩, 37) := ⟨⟨by decide +kernel, by decide +kernel⟩, List.mem_of_getElem? (i := 507) (by decide +kernel), List.mem_of_getElem? (i := 679) (by decide +kernel), List.mem_of_getElem? (i := 680) (by decide +kernel)⟩
theorem lw_p24 : lw_okq (⟨"AgedAssetsModel", "fall", "(J)V"⟩, 37) := ⟨⟨by decide +kernel, by decide +kernel⟩, List.mem_of_getElem? (i := 507) (by decide +kernel), List.mem_of_getElem? (i := 683) (by decide +kernel), List.mem_of_getElem? (i := 684) (by decide +kernel)⟩
theorem lw_p25 : lw_okq (⟨"AgedAssetsModel", "impairs", "(J)Z"⟩, 37) := ⟨⟨by decide +kernel, by decide +kernel⟩, List.mem_of_getElem? (i := 507) (by decide +kernel), List.mem_of_getElem? (i := 687) (by decide +kernel), List.mem_of_getElem? (i := 688) (by decide +kernel)⟩
theorem lw_p26 : lw_okq (⟨"AgedAssetsModel", "restores", "(JI)Z"⟩, 37) := ⟨⟨by decide +kernel, by decide +kernel⟩, List.mem_of_getElem? (i := 507) (by decide +kernel), List.mem_of_getElem? (i := 691) (by decide +kernel), List.mem_of_getElem? (i := 692) (by decide +kernel)⟩
theorem lw_p27 : lw_okq (⟨"AgedAssetsModel", "sells", "(I)V"⟩, 37) := ⟨⟨by decide +kernel, by decide +kernel⟩, List.mem_of_getElem? (i := 507) (by decide +kernel), List.mem_of_getElem? (i := 695) (by decide +kernel), List.mem_of_getElem? (i := 696) (by decide +kernel)⟩
theorem lw_p28 : lw_okq (⟨"AgedAssetsModel", "writeOff", "(II)V"⟩, 37) := ⟨⟨by decide +kernel, by decide +kernel⟩, List.mem_of_getElem? (i := 507) (by decide +kernel), List.mem_of_getElem? (i := 707) (by decide +kernel), List.mem_of_getElem? (i := 708) (by decide +kernel)⟩
theorem lw_p29 : lw_okq (⟨"AgedAssetsModel", "declining", "(II)J"⟩, 37) := ⟨⟨by decide +kernel, by decide +kernel⟩, List.mem_of_getElem? (i := 507) (by decide +kernel), List.mem_of_getElem? (i := 711) (by decide +kernel), List.mem_of_getElem? (i := 712) (by decide +kernel)⟩
theorem lw_p30 : lw_okq (⟨"AgedAssetsModel", "together", "(I)J"⟩, 37) := ⟨⟨by decide +kernel, by decide +kernel⟩, List.mem_of_getElem? (i := 507) (by decide +kernel), List.mem_of_getElem? (i := 715) (by decide +kernel), List.mem_of_getElem? (i := 716) (by decide +kernel)⟩
theorem lw_p31 : lw_okq (⟨"AgedAssetsModel", "countOf", "(I)I"⟩, 37) := ⟨⟨by decide +kernel, by decide +kernel⟩, List.mem_of_getElem? (i := 507) (by decide +kernel), List.mem_of_getElem? (i := 724) (by decide +kernel), List.mem_of_getElem? (i := 725) (by decide +kernel)⟩
def lw_privs_2 : List (MethodName × Nat) := [(⟨"AgedAssetsModel", "reckon", "(II)Z"⟩, 37), (⟨"AgedAssetsModel", "go", "(IIZ)I"⟩, 37), (⟨"AgedAssetsModel", "clear", "()V"⟩, 37), (⟨"AgedAssetsModel", "stretch", "(I)V"⟩, 37), (⟨"AgedAssetsModel", "book", "()J"⟩, 37), (⟨"AgedAssetsModel", "eventIn", "(II)I"⟩, 37), (⟨"AgedAssetsModel", "happens", "(II)Z"⟩, 37), (⟨"AgedAssetsModel", "values", "(J)V"⟩, 37), (⟨"AgedAssetsModel", "fall", "(J)V"⟩, 37), (⟨"AgedAssetsModel", "impairs", "(J)Z"⟩, 37), (⟨"AgedAssetsModel", "restores", "(JI)Z"⟩, 37), (⟨"AgedAssetsModel", "sells", "(I)V"⟩, 37), (⟨"AgedAssetsModel", "writeOff", "(II)V"⟩, 37), (⟨"AgedAssetsModel", "declining", "(II)J"⟩, 37), (⟨"AgedAssetsModel", "together", "(I)J"⟩, 37), (⟨"AgedAssetsModel", "countOf", "(I)I"⟩, 37)]
theorem lw_r2 : ∀ q ∈ lw_privs_2, lw_okq q := List.forall_mem_cons.mpr ⟨lw_p16, List.forall_mem_cons.mpr ⟨lw_p17, List.forall_mem_cons.mpr ⟨lw_p18, List.forall_mem_cons.mpr ⟨lw_p19, List.forall_mem_cons.mpr ⟨lw_p20, List.forall_mem_cons.mpr ⟨lw_p21, List.forall_mem_cons.mpr ⟨lw_p22, List.forall_mem_cons.mpr ⟨lw_p23, List.forall_mem_cons.mpr ⟨lw_p24, List.forall_mem_cons.mpr ⟨lw_p25, List.forall_mem_cons.mpr ⟨lw_p26, List.forall_mem_cons.mpr ⟨lw_p27, List.forall_mem_cons.mpr ⟨lw_p28, List.forall_mem_cons.mpr ⟨lw_p29, List.forall_mem_cons.mpr ⟨lw_p30, List.forall_mem_cons.mpr ⟨lw_p31, fun _ h => absurd h List.not_mem_nil⟩⟩⟩⟩⟩⟩⟩⟩⟩⟩⟩⟩⟩⟩⟩⟩
theorem lw_p32 : lw_okq (⟨"AgedAssetsModel", "isEvent", "(I)Z"⟩, 37) := ⟨⟨by decide +kernel, by decide +kernel⟩, List.mem_of_getElem? (i := 507) (by decide +kernel), List.mem_of_getElem? (i := 732) (by decide +kernel), List.mem_of_getElem? (i := 733) (by decide +kernel)⟩
theorem lw_p33 : lw_okq (⟨"AgedAssetsModel", "totalOf", "(I)J"⟩, 37) := ⟨⟨by decide +kernel, by decide +kernel⟩, List.mem_of_getElem? (i := 507) (by decide +kernel), List.mem_of_getElem? (i := 757) (by decide +kernel), List.mem_of_getElem? (i := 758) (by decide +kernel)⟩
def lw_privs_3 : List (MethodName × Nat) := [(⟨"AgedAssetsModel", "isEvent", "(I)Z"⟩, 37), (⟨"AgedAssetsModel", "totalOf", "(I)J"⟩, 37)]
theorem lw_r3 : ∀ q ∈ lw_privs_3, lw_okq q := List.forall_mem_cons.mpr ⟨lw_p32, List.forall_mem_cons.mpr ⟨lw_p33, fun _ h => absurd h List.not_mem_nil⟩⟩
def lw_privs : List (MethodName × Nat) := lw_privs_1 ++ (lw_privs_2 ++ (lw_privs_3))
def lw_tbl : List Cond := k2_sels lw_privs ++ tables_1
theorem lw_privs_ok : ∀ q ∈ lw_privs, lw_okq q := by
  show ∀ q ∈ lw_privs_1 ++ (lw_privs_2 ++ (lw_privs_3)), lw_okq q
  exact List.forall_mem_append.mpr ⟨lw_r1, List.forall_mem_append.mpr ⟨lw_r2, lw_r3⟩⟩
end
section
/-! ===== BEGIN words of one list among another's, by their places ===== -/
theorem goodIn_r {big : List Cond} (ws : List Cond) (ps : List Nat) (hp : ws = ps.filterMap (fun i => big[i]?)) (h : ws.all goodWord = true) : GoodIn big ws := by
  intro w hw
  have h1 := List.all_eq_true.mp h w hw
  rw [hp] at hw
  obtain ⟨i, -, hi⟩ := List.mem_filterMap.mp hw
  have hm : w ∈ big := by first | exact List.mem_of_getElem? hi | exact List.getElem?_mem hi
  exact ⟨hm, good_of_word h1⟩
theorem goodIn_app {big a b : List Cond} (ha : GoodIn big a) (hb : GoodIn big b) : GoodIn big (a ++ b) := fun w h => (List.mem_append.mp h).elim (ha w) (hb w)
theorem goodIn_ca {big a b : List Cond} {c : Cond} (ha : GoodIn big (c :: a)) (hb : GoodIn big b) : GoodIn big (c :: (a ++ b)) := fun w h => (List.mem_cons.mp h).elim (fun e => ha w (List.mem_cons.mpr (Or.inl e))) (fun h => (List.mem_append.mp h).elim (fun h => ha w (List.mem_cons.mpr (Or.inr h))) (hb w))
theorem goodIn_sub {big ws : List Cond} (hm : ∀ w ∈ ws, w ∈ big) (h : ws.all goodWord = true) : GoodIn big ws := fun w hw => ⟨hm w hw, good_of_word (List.all_eq_true.mp h w hw)⟩
/-! ===== END ===== -/

/-! ===== BEGIN exceptions that leave a method, and their catching by the caller (launches without stack traces) ===== -/
section VXA
/-! The laws vx_back, vx_callV, vx_callS, vx_callSW, vx_throw0, vx_throwS follow proofs of the library, with one case more: JvmDerived/Free/Laws.lean (Back.of_free), Shelf42/LK1.lean (callV, callS), Shelf/KitTraced.lean (throwNew0V, throwNewS). -/
/-- where a method has thrown q: the class by its name, the cell, what was written, the world -/
def vx_T (XC : String → State → State → Prop) (st : State) (q : Addr) (t : State) (mc ms : Nat) (free : Addr → Prop) : Prop :=
  ∃ (E : String) (ce : Cell) (L : List Loc), XC E st t ∧ t.heap[q]? = some ce ∧ ce.vm = .none ∧ st.vm.findClass E = some ce.cls ∧ st.WarmedH t.vm ∧ st.sameButNew ({ t with vm := st.vm } : State) L mc ms ∧ ∀ z ∈ L, free z.base
def vx_Q (Qc : Array Value → State → Outcome → State → Prop) (XC : String → State → State → Prop) (mc ms : Nat) (free : Addr → Prop) : Array Value → State → Outcome → State → Prop := fun a st o t =>
  (Qc a st o t ∧ ∃ L, FrameEnd st o t L mc ms ∧ ∀ q ∈ L, free q.base) ∨ ∃ q, o = .threw q ∧ vx_T XC st q t mc ms free
/-- a callee that returns or throws -/
def vx_Met (l : Launch) (y : MethodName) (ws : List Cond) (rm : Room) (Pc : Array Value → State → Prop) (Qc : Array Value → State → Outcome → State → Prop) (XC : String → State → State → Prop) (mc ms : Nat) (free : Addr → Prop) : Prop :=
  MetFree l y (headSpec ws rm) Pc (fun _ _ _ _ _ => True) (vx_Q Qc XC mc ms free)
def vx_Post (XC : String → State → State → Prop) (mc ms : Nat) (free : Addr → Prop) : Pt → Array Value → Addr → Pt → Prop := fun A a q B =>
  ∃ (g : JFrame) (mk : MethodId) (t : State) (L : List Loc) (E : String) (ce : Cell), B.U.heap = t.heap ∧ B.U.vm = t.vm ∧ XC E (A.U.calling g mk a) t ∧ t.heap[q]? = some ce ∧ ce.vm = .none ∧ A.U.vm.findClass E = some ce.cls ∧ B.locs = A.locs ++ L ∧ (∀ z ∈ L, free z.base) ∧ B.cells = A.cells + mc ∧ B.slots = A.slots + ms
def vx_Back (l : Launch) (R : Room) (p : Program) (e : Env) (below : List Frame) (s : State) (sargs : Array Value) (y : MethodName) (len W9 : Nat)
    (Pre : Pt → Array Value → Prop) (Post : Pt → Array Value → Option Value → Pt → Prop) (PostX : Pt → Array Value → Addr → Pt → Prop) : Prop :=
  ∀ (m : MethodId) (meth : Method) (c : Code) (A : Pt) (g : JFrame) (ig : Instr) (mk : MethodId) (a : Array Value),
    Stand p l e R s m sargs below meth c A.U A.locs A.cells A.slots → g.method = m → g.locals.size = c.maxLocals → decode c.code g.pc = .ok (ig, len) →
    2 * g.monitorRoom + (g.stack.map fun v => v.category).sum ≤ W9 → A.U.methodNamed? y = some mk → Pre A a →
    (∃ (v : Option Value) (B : Pt), Stand p l e R s m sargs below meth c B.U B.locs B.cells B.slots ∧ Post A a v B ∧
      Steps p.tables e below (doInvoke e (A.U.setTop g) [] mk a).1 (B.U.setTop { g with pc := g.pc + len, stack := v.toList ++ g.stack })) ∨
    (∃ (q : Addr) (B : Pt), Stand p l e R s m sargs below meth c B.U B.locs B.cells B.slots ∧ PostX A a q B ∧
      Steps p.tables e below (doInvoke e (A.U.setTop g) [] mk a).1 ((B.U.setTop g).pushFrame (.throwing q)))
section Payer
variable {l : Launch} {R : Room} {p : Program} {e : Env} {below : List Frame} {s : State} {sargs : Array Value} {y : MethodName} {len W9 : Nat}
theorem vx_back {ws : List Cond} {rm : Room} {Pc : Array Value → State → Prop} {Qc : Array Value → State → Outcome → State → Prop} {XC : String → State → State → Prop} {mc ms : Nat} {free : Addr → Prop} {bytes : ByteArray} {maxL : Nat} {ret : Option FieldType}
    (hM : vx_Met l y ws rm Pc Qc XC mc ms free) (hblind : FrameBlind Pc) (hrc : rm.cells = mc) (hrs : rm.slots = ms)
    (hframes : rm.frames + 1 ≤ R.frames) (hlocals : W9 + (maxL + 11) + rm.locals ≤ R.locals)
    (hws : ∀ w ∈ ws, ∀ a' U, s.WarmedH U.vm → w.before a' U = true) (hcode : Cond.code y bytes maxL ret ∈ ws) (hinit : ∀ a' U, s.WarmedH U.vm → (Cond.initialized y.cls).before a' U = true) :
    vx_Back l R p e below s sargs y len W9 (PreOf R mc ms Pc) (PostOf Qc mc ms free) (vx_Post XC mc ms free) := by
  intro m meth c A g ig mk a X hg hsize hdg hW hn hp
  have h1 : (headSpec ws rm).pre.before a A.U = true := atoms_intro fun w hw => hws w hw _ _ X.warmed
  have h2 : (Cond.code y bytes maxL ret).before a A.U = true := hws _ hcode _ _ X.warmed
  have h3 : (Cond.initialized y.cls).before a A.U = true := hinit _ _ X.warmed
  have h4 : A.cells + (headSpec ws rm).room.cells ≤ R.cells := by rw [show (headSpec ws rm).room.cells = mc from hrc]; exact hp.1
  have h5 : A.slots + (headSpec ws rm).room.slots ≤ R.slots := by rw [show (headSpec ws rm).room.slots = ms from hrs]; exact hp.2.1
  have hPc : Pc a (A.U.calling g mk a) := hblind _ _ _ _ hp.2.2
  obtain ⟨U, Ls, c0, s0⟩ := A
  dsimp only [Pt.U, Pt.locs, Pt.cells, Pt.slots] at h1 h2 h3 h4 h5 X hn hPc ⊢
  obtain ⟨methY, cY, hmY, hcY, -, hlY, -, -, -, -⟩ := Cond.code_spec hn h2
  obtain ⟨kY, hkY, -⟩ := className_of_methodNamed hn
  have hinitY : kY.init = .initialized := Cond.initialized_spec (findClass_of_methodNamed hn) hkY h3
  have h : At U g.method c below := by rw [hg]; exact X.here
  have hlocals9 : W9 + (maxL + 11) + (headSpec ws rm).room.locals ≤ R.locals := hlocals
  have happ : (headSpec ws rm).appliesLoose y e.platform (U.calling g mk a) = true :=
    Spec.appliesLoose_calling (g := g) h hdg hn hkY hinitY
      (X.room_calling (g := g) (R' := (headSpec ws rm).room) hsize hmY hcY hframes (by rw [hlY]; omega) h4 h5) h1
  obtain ⟨mid, hmid⟩ := h.above
  have hfr : (U.setTop g).frames = (.java g :: mid) ++ below := by rw [State.frames_setTop' g h.top, hmid]; rfl
  obtain ⟨o, s₂, hsteps, -, hend, hq⟩ := Steps.callFree hM p X.admits X.cas X.clock (acts := []) hfr happ hPc trivial
  have hq' : vx_Q Qc XC mc ms free a (U.calling g mk a) o s₂ := hq
  rw [State.frames_setTop' g h.top] at hend
  obtain ⟨g₀, hg0⟩ := Option.isSome_iff_exists.mp h.top
  obtain ⟨r, hr⟩ := State.topJava?_eq_some.mp hg0
  have hr' : (({ U with heap := s₂.heap, slotsUsed := s₂.slotsUsed } : State).setVm s₂.vm).frames = .java g₀ :: r := hr
  rcases hq' with ⟨hqc, L, hfe, hL⟩ | ⟨q, rfl, E, ce, L, hx, hce, hcv, hcl, hW₂, hsm, hL⟩
  · obtain ⟨⟨v, rfl⟩, hW₂, e2, q2, q3, q4, q5, q6⟩ := id hfe
    have e3 : s₂ = ({ (U.calling g mk a).setFrames s₂.frames with heap := s₂.heap, slotsUsed := s₂.slotsUsed } : State).setVm s₂.vm := by
      have : s₂ = ({ s₂ with vm := (U.calling g mk a).vm } : State).setVm s₂.vm := rfl
      rw [e2] at this
      exact this
    obtain ⟨c₂, i₂, len₂, hc₂, hd₂, hf₂⟩ := hend
    have hW' : U.WarmedH s₂.vm := hW₂
    have hcc : c₂ = c := by
      have h1 : s₂.code? g.method = U.code? g.method := by
        rw [State.code?_eq, State.code?_eq, hW'.alike.method?]
      exact Option.some.inj (hc₂.symm.trans (h1.trans h.code))
    subst hcc
    have hlen : len₂ = len := by rw [hdg] at hd₂; cases hd₂; rfl
    subst hlen
    have hs₂ : s₂ = (({ U with heap := s₂.heap, slotsUsed := s₂.slotsUsed } : State).setVm s₂.vm).setTop { g with pc := g.pc + len₂, stack := v.toList ++ g.stack } := by
      refine e3.trans ?_
      rw [hf₂, State.calling_eq h.top, State.setFrames_setFrames, State.setTop_of_frames _ hr', hr]
      rfl
    have hsame : U.sameButNew ({ U with heap := s₂.heap, slotsUsed := s₂.slotsUsed } : State) L mc ms := by
      refine ⟨?_, q2, q3, q4, q5, q6⟩
      obtain ⟨t, ht, -⟩ := State.frames_cons hr
      show ({ U with heap := s₂.heap, slotsUsed := s₂.slotsUsed } : State) = { U.setFrames U.frames with heap := s₂.heap, slotsUsed := s₂.slotsUsed }
      rw [State.setFrames_self ht]
    subst hg
    refine Or.inl ⟨v, ⟨(({ U with heap := s₂.heap, slotsUsed := s₂.slotsUsed } : State).setVm s₂.vm), Ls ++ L, c0 + mc, s0 + ms⟩,
      ⟨X.admits, X.cas, X.clock, X.frames, X.room, X.hears, X.method, X.code, (X.here.setHeapUsed s₂.heap s₂.slotsUsed).setVm hW'.alike, X.tail, State.WarmedH.trans X.warmed hW', X.limits, X.bytes, X.same.trans (hsame.setVm s.vm)⟩,
      ⟨g, mk, s₂, L, rfl, rfl, hqc, rfl, hL, rfl, rfl⟩, ?_⟩
    show Steps p.tables e below _ ((({ U with heap := s₂.heap, slotsUsed := s₂.slotsUsed } : State).setVm s₂.vm).setTop { g with pc := g.pc + len₂, stack := v.toList ++ g.stack })
    rw [← hs₂]
    exact hsteps
  · obtain ⟨e2, q2, q3, q4, q5, q6⟩ := id hsm
    have e3 : s₂ = ({ (U.calling g mk a).setFrames s₂.frames with heap := s₂.heap, slotsUsed := s₂.slotsUsed } : State).setVm s₂.vm := by
      have : s₂ = ({ s₂ with vm := (U.calling g mk a).vm } : State).setVm s₂.vm := rfl
      rw [e2] at this
      exact this
    have hf₂ : s₂.frames = .throwing q :: .java g :: U.frames.tail := hend
    have hW' : U.WarmedH s₂.vm := hW₂
    have hs₂ : s₂ = ((({ U with heap := s₂.heap, slotsUsed := s₂.slotsUsed } : State).setVm s₂.vm).setTop g).pushFrame (.throwing q) := by
      refine e3.trans ?_
      rw [hf₂, State.calling_eq h.top, State.setFrames_setFrames, State.pushFrame, State.frames_setTop _ hr', State.setTop_of_frames _ hr', State.setFrames_setFrames, hr]
      rfl
    have hsame : U.sameButNew ({ U with heap := s₂.heap, slotsUsed := s₂.slotsUsed } : State) L mc ms := by
      refine ⟨?_, q2, q3, q4, q5, q6⟩
      obtain ⟨t, ht, -⟩ := State.frames_cons hr
      show ({ U with heap := s₂.heap, slotsUsed := s₂.slotsUsed } : State) = { U.setFrames U.frames with heap := s₂.heap, slotsUsed := s₂.slotsUsed }
      rw [State.setFrames_self ht]
    subst hg
    refine Or.inr ⟨q, ⟨(({ U with heap := s₂.heap, slotsUsed := s₂.slotsUsed } : State).setVm s₂.vm), Ls ++ L, c0 + mc, s0 + ms⟩,
      ⟨X.admits, X.cas, X.clock, X.frames, X.room, X.hears, X.method, X.code, (X.here.setHeapUsed s₂.heap s₂.slotsUsed).setVm hW'.alike, X.tail, State.WarmedH.trans X.warmed hW', X.limits, X.bytes, X.same.trans (hsame.setVm s.vm)⟩,
      ⟨g, mk, s₂, L, E, ce, rfl, rfl, hx, hce, hcv, hcl, rfl, hL, rfl, rfl⟩, ?_⟩
    show Steps p.tables e below _ (((({ U with heap := s₂.heap, slotsUsed := s₂.slotsUsed } : State).setVm s₂.vm).setTop g).pushFrame (.throwing q))
    rw [← hs₂]
    exact hsteps
end Payer
section Calls
variable {p : Program} {l : Launch} {e : Env} {R : Room} {s : State} {m : MethodId} {args : Array Value} {below : List Frame} {meth : Method} {c : Code} {T : State} {locs : List Loc} {cells slots : Nat}
theorem vx_callV (X : Stand p l e R s m args below meth c T locs cells slots) (hexec : p.tables.exec = Jvm.exec) {own C : String} {index : Nat} {y : MethodName} {bytes : ByteArray} {maxL : Nat} {ret : Option FieldType}
    (hown : s.vm.findClass own = some m.cls) (hlink : (Cond.methodLink own index y).before args s = true) (hinst : (Cond.instanceMethod y).before args s = true) (hsel : (Cond.selects C y y).before args s = true)
    (hcode : (Cond.code y bytes maxL ret).before args s = true) (hy : y.cls ≠ "java/lang/invoke/MethodHandle" ∧ y.cls ≠ "java/lang/invoke/VarHandle")
    {W9 : Nat} {Pre : Pt → Array Value → Prop} {Post : Pt → Array Value → Option Value → Pt → Prop} {PostX : Pt → Array Value → Addr → Pt → Prop} (hK : vx_Back l R p e below s args y 3 W9 Pre Post PostX)
    {b : Addr} {cellB : Cell} (hcell : T.heap[b]? = some cellB) (hobj : cellB.vm.isStatics = false) (hcls : s.vm.findClass C = some cellB.cls)
    {g : JFrame} (hg : g.method = m) (hsize : g.locals.size = c.maxLocals) {argsL rest : List Value} (hlen : ∀ sig, parseMethodDescriptor y.desc = some sig → argsL.length = sig.parameters.length)
    (hstack : g.stack = argsL.reverse ++ .ref b :: rest) (hW : 2 * g.monitorRoom + (rest.map fun v => v.category).sum ≤ W9) (hdg : decode c.code g.pc = .ok (.invokevirtual index, 3))
    (hpre : ∀ vm₁, s.WarmedH vm₁ → Pre ⟨T.setVm vm₁, locs, cells, slots⟩ (Value.ref b :: argsL).toArray) :
    (∃ (v : Option Value) (vm₁ : Vm) (B : Pt), s.WarmedH vm₁ ∧ Stand p l e R s m args below meth c B.U B.locs B.cells B.slots ∧ Post ⟨T.setVm vm₁, locs, cells, slots⟩ (Value.ref b :: argsL).toArray v B ∧
      ∀ target, Steps p.tables e below (B.U.setTop { g with pc := g.pc + 3, stack := v.toList ++ rest }) target → Steps p.tables e below (T.setTop g) target) ∨
    (∃ (q : Addr) (vm₁ : Vm) (B : Pt), s.WarmedH vm₁ ∧ Stand p l e R s m args below meth c B.U B.locs B.cells B.slots ∧ PostX ⟨T.setVm vm₁, locs, cells, slots⟩ (Value.ref b :: argsL).toArray q B ∧
      Steps p.tables e below (T.setTop g) ((B.U.setTop { g with stack := rest }).pushFrame (.throwing q))) := by
  obtain ⟨mk, methM, hnamed, hmethM, hstM, habM⟩ := Cond.instanceMethod_spec hinst
  obtain ⟨methM', cM, hmethM', -, -, -, -, -, -, hsigM⟩ := Cond.code_spec hnamed hcode
  cases hmethM.symm.trans hmethM'
  obtain ⟨c2, r2, m2, q1, q2, q3, q4, kP, hkP, hkPi⟩ := Cond.selects_spec hsel
  cases hcls.symm.trans q1
  cases (State.methodFound?_of_named hnamed hy).symm.trans q2
  cases hnamed.symm.trans q3
  have hselP : selectMethod e.platform s.vm cellB.cls mk = .method mk := by rw [Launch.admits_selectMethod X.admits]; exact q4
  obtain ⟨vm₁, X₁, hstep₁⟩ := X.invokevirtual hexec hown hlink hnamed hmethM hstM hkP hkPi hy (a := b) (cell := cellB) hcell
    (fun z h => by rw [h] at hobj; cases hobj) hselP hmethM habM hkP hkPi (g := g) hg (argsL := argsL) (rest := rest) (hlen _ hsigM) hstack hdg
  rcases hK m meth c ⟨T.setVm vm₁, locs, cells, slots⟩ { g with stack := rest } (.invokevirtual index) mk (Value.ref b :: argsL).toArray X₁ hg hsize hdg hW (X₁.named hnamed) (hpre vm₁ X₁.warmed) with ⟨v, B, X', hpost, hsteps⟩ | ⟨q, B, X', hpost, hsteps⟩
  · exact Or.inl ⟨v, vm₁, B, X₁.warmed, X', hpost, fun target h => hstep₁ _ fun acts => by rw [doInvoke_state]; exact hsteps.trans h⟩
  · exact Or.inr ⟨q, vm₁, B, X₁.warmed, X', hpost, hstep₁ _ fun acts => by rw [doInvoke_state]; exact hsteps⟩
theorem vx_callS (X : Stand p l e R s m args below meth c T locs cells slots) (hexec : p.tables.exec = Jvm.exec) {own : String} {index : Nat} {y : MethodName} {bytes : ByteArray} {maxL : Nat} {ret : Option FieldType}
    (hown : s.vm.findClass own = some m.cls) (hlink : (Cond.methodLink own index y).before args s = true) (hstat : (Cond.static y).before args s = true) (hinit : (Cond.initialized y.cls).before args s = true)
    (hcode : (Cond.code y bytes maxL ret).before args s = true) (hy : y.cls ≠ "java/lang/invoke/MethodHandle" ∧ y.cls ≠ "java/lang/invoke/VarHandle")
    {W9 : Nat} {Pre : Pt → Array Value → Prop} {Post : Pt → Array Value → Option Value → Pt → Prop} {PostX : Pt → Array Value → Addr → Pt → Prop} (hK : vx_Back l R p e below s args y 3 W9 Pre Post PostX)
    {g : JFrame} (hg : g.method = m) (hsize : g.locals.size = c.maxLocals) {argsL rest : List Value} (hlen : ∀ sig, parseMethodDescriptor y.desc = some sig → argsL.length = sig.parameters.length)
    (hstack : g.stack = argsL.reverse ++ rest) (hW : 2 * g.monitorRoom + (rest.map fun v => v.category).sum ≤ W9) (hdg : decode c.code g.pc = .ok (.invokestatic index, 3))
    (hpre : ∀ vm₁, s.WarmedH vm₁ → Pre ⟨T.setVm vm₁, locs, cells, slots⟩ argsL.toArray) :
    (∃ (v : Option Value) (vm₁ : Vm) (B : Pt), s.WarmedH vm₁ ∧ Stand p l e R s m args below meth c B.U B.locs B.cells B.slots ∧ Post ⟨T.setVm vm₁, locs, cells, slots⟩ argsL.toArray v B ∧
      ∀ target, Steps p.tables e below (B.U.setTop { g with pc := g.pc + 3, stack := v.toList ++ rest }) target → Steps p.tables e below (T.setTop g) target) ∨
    (∃ (q : Addr) (vm₁ : Vm) (B : Pt), s.WarmedH vm₁ ∧ Stand p l e R s m args below meth c B.U B.locs B.cells B.slots ∧ PostX ⟨T.setVm vm₁, locs, cells, slots⟩ argsL.toArray q B ∧
      Steps p.tables e below (T.setTop g) ((B.U.setTop { g with stack := rest }).pushFrame (.throwing q))) := by
  obtain ⟨mk, hnamed⟩ := Cond.code_named hcode
  obtain ⟨methM, cM, hmethM, -, -, -, -, -, -, hsigM⟩ := Cond.code_spec hnamed hcode
  have hstatic : methM.isStatic = true := Cond.static_spec hnamed hmethM hstat
  obtain ⟨kP, hkP, -⟩ := className_of_methodNamed hnamed
  have hinitP : kP.init = .initialized := Cond.initialized_spec (findClass_of_methodNamed hnamed) hkP hinit
  obtain ⟨vm₁, X₁, hstep₁⟩ := X.invokestatic hexec hown hlink hnamed hmethM hstatic hkP hinitP hy (g := g) hg (argsL := argsL) (rest := rest) (hlen _ hsigM) hstack hdg
  rcases hK m meth c ⟨T.setVm vm₁, locs, cells, slots⟩ { g with stack := rest } (.invokestatic index) mk argsL.toArray X₁ hg hsize hdg hW (X₁.named hnamed) (hpre vm₁ X₁.warmed) with ⟨v, B, X', hpost, hsteps⟩ | ⟨q, B, X', hpost, hsteps⟩
  · exact Or.inl ⟨v, vm₁, B, X₁.warmed, X', hpost, fun target h => hstep₁ _ fun acts => by rw [doInvoke_state]; exact hsteps.trans h⟩
  · exact Or.inr ⟨q, vm₁, B, X₁.warmed, X', hpost, hstep₁ _ fun acts => by rw [doInvoke_state]; exact hsteps⟩
end Calls
theorem vx_cls {s : State} {T : State} {vm₁ : Vm} {E : String} {k : ClassId} (hW : s.WarmedH vm₁) (h : (T.setVm vm₁).vm.findClass E = some k) : s.vm.findClass E = some k := by
  have h1 : vm₁.findClass E = some k := h
  rw [hW.alike.findClass] at h1
  exact h1
/-- the method's frame g, with q thrown over it -/
def vx_W (p : Program) (l : Launch) (e : Env) (R : Room) (s : State) (m : MethodId) (args : Array Value) (below : List Frame) (meth : Method) (c : Code) (H : Heap) (locs : List Loc) (cells slots : Nat) (Q : State → Prop) (g : JFrame) (q : Addr) : Prop :=
  ∀ T : State, T.heap = H → Stand p l e R s m args below meth c T locs cells slots → ∃ t, Steps p.tables e below ((T.setTop g).pushFrame (.throwing q)) t ∧ Q t
def vx_Run (p : Program) (l : Launch) (e : Env) (R : Room) (s : State) (m : MethodId) (args : Array Value) (below : List Frame) (meth : Method) (c : Code) (H : Heap) (locs : List Loc) (cells slots mc ms : Nat) (g : JFrame) (rest : List Value) (Qa : State → Outcome → State → Prop) (XC : String → State → State → Prop) (free : Addr → Prop) : Prop :=
  ∀ T : State, T.heap = H → Stand p l e R s m args below meth c T locs cells slots →
    (∃ (v : Option Value) (st₀ t T' : State) (L : List Loc), st₀.heap = H ∧ Stand p l e R s m args below meth c T' (locs ++ L) (cells + mc) (slots + ms) ∧ (∀ q ∈ L, free q.base) ∧ T'.heap = t.heap ∧ T'.vm = t.vm ∧ Qa st₀ (.returned v) t ∧
      Goes p e below T g T' { g with pc := g.pc + 3, stack := v.toList ++ rest }) ∨
    (∃ (q : Addr) (st₀ t T' : State) (L : List Loc) (E : String) (ce : Cell), st₀.heap = H ∧ Stand p l e R s m args below meth c T' (locs ++ L) (cells + mc) (slots + ms) ∧ (∀ z ∈ L, free z.base) ∧ T'.heap = t.heap ∧ T'.vm = t.vm ∧ XC E st₀ t ∧ t.heap[q]? = some ce ∧ ce.vm = .none ∧ s.vm.findClass E = some ce.cls ∧
      Steps p.tables e below (T.setTop g) ((T'.setTop { g with stack := rest }).pushFrame (.throwing q)))
def vx_X {S : Type} (px : S → Prop) (B : String → S → State → Prop) (A : Nat → Prop) : String → State → State → Prop := fun E st t => ∃ u : S, px u ∧ B E u t ∧ va_F A st t
section Runs
variable {p : Program} {l : Launch} {e : Env} {R : Room} {s : State} {m : MethodId} {args : Array Value} {below : List Frame} {meth : Method} {c : Code} {H : Heap} {locs : List Loc} {cells slots : Nat}
variable {y : MethodName} {bytes cc : ByteArray} {maxL nL mc ms n index : Nat} {ret : Option FieldType} {ws : List Cond} {rm : Room} {Pc : Array Value → State → Prop} {Qc : Array Value → State → Outcome → State → Prop} {XC : String → State → State → Prop} {free : Addr → Prop} {Ts : List Cond} {own C : String} {b : Addr} {As rest : List Value} {g : JFrame}
theorem vx_callBack (cb : CallB R s args own index y bytes maxL ret ws rm mc ms n) (hM : vx_Met l y ws rm Pc Qc XC mc ms free) (hbl : FrameBlind Pc) : vx_Back l R p e below s args y 3 8 (PreOf R mc ms Pc) (PostOf Qc mc ms free) (vx_Post XC mc ms free) := by
  obtain ⟨hrc, hrs, hfr, hlo, hws, hcw, -, hini, -⟩ := cb
  exact vx_back (bytes := bytes) (maxL := maxL) (ret := ret) hM hbl hrc hrs hfr hlo hws hcw (fun a' U hW => word_at hW (Or.inl (by first | rfl | simp [Cond.onTables, Cond.keeps, Cond.steady])) hini)
theorem vx_runV (S : CallFix p m c cc nL s args Ts own) (hM : vx_Met l y ws rm Pc Qc XC mc ms free) (cw : CallW R s args own C index y bytes maxL ret ws rm mc ms n) (hp : PreV s H C b Pc As)
    (hg : g.method = m) (hn : As.length = n) (hsize : g.locals.size = nL) (hstack : g.stack = As.reverse ++ .ref b :: rest) (hW : 2 * g.monitorRoom + (rest.map fun v => v.category).sum ≤ 8) (hdg : decode cc g.pc = .ok (.invokevirtual index, 3)) (hf : cells + mc ≤ R.cells ∧ slots + ms ≤ R.slots) :
    vx_Run p l e R s m args below meth c H locs cells slots mc ms g rest (Qc (Value.ref b :: As).toArray) XC free := by
  have hK : vx_Back l R p e below s args y 3 8 (PreOf R mc ms Pc) (PostOf Qc mc ms free) (vx_Post XC mc ms free) := vx_callBack cw.1 hM hp.1
  obtain ⟨⟨-, -, -, -, -, -, hcode, -, hy, hlen, hl⟩, hin, hse⟩ := cw
  obtain ⟨hx, hb, hml, ho, -⟩ := S
  obtain ⟨-, ⟨cellB, hcB, hoB, hclB⟩, hPc⟩ := hp
  intro T hT X
  rcases vx_callV X hx (C := C) (bytes := bytes) (maxL := maxL) (ret := ret) ho hl hin hse hcode hy hK (by rw [hT]; exact hcB) hoB hclB hg (hsize.trans hml.symm) (argsL := As) (rest := rest) (fun sig h => hn.trans (hlen sig h)) hstack hW (by rw [hb]; exact hdg)
    (fun vm₁ hW₁ => ⟨hf.1, hf.2, hPc (T.setVm vm₁) hT hW₁⟩) with ⟨v, vm₁, ⟨U', l2, c2, s2⟩, hW₁, X', ⟨g', mk, t, L, e1, e2, hq, h1, hL, h2, h3⟩, st⟩ | ⟨q, vm₁, ⟨U', l2, c2, s2⟩, hW₁, X', ⟨g', mk, t, L, E, ce, e1, e2, hq, hce, hcv, hcl, h1, hL, h2, h3⟩, st⟩
  · dsimp only [Pt.U, Pt.locs, Pt.cells, Pt.slots] at X' e1 e2 h1 h2 h3 st
    subst h1; subst h2; subst h3
    exact Or.inl ⟨v, (T.setVm vm₁).calling g' mk (Value.ref b :: As).toArray, t, U', L, hT, X', hL, e1, e2, hq, st⟩
  · dsimp only [Pt.U, Pt.locs, Pt.cells, Pt.slots] at X' e1 e2 h1 h2 h3 st hcl
    subst h1; subst h2; subst h3
    exact Or.inr ⟨q, (T.setVm vm₁).calling g' mk (Value.ref b :: As).toArray, t, U', L, E, ce, hT, X', hL, e1, e2, hq, hce, hcv, vx_cls hW₁ hcl, st⟩
theorem vx_runS (S : CallFix p m c cc nL s args Ts own) (hM : vx_Met l y ws rm Pc Qc XC mc ms free) (cw : CallB R s args own index y bytes maxL ret ws rm mc ms n ∧ (Cond.static y).before args s = true) (hp : PreS s H Pc As)
    (hg : g.method = m) (hn : As.length = n) (hsize : g.locals.size = nL) (hstack : g.stack = As.reverse ++ rest) (hW : 2 * g.monitorRoom + (rest.map fun v => v.category).sum ≤ 8) (hdg : decode cc g.pc = .ok (.invokestatic index, 3)) (hf : cells + mc ≤ R.cells ∧ slots + ms ≤ R.slots) :
    vx_Run p l e R s m args below meth c H locs cells slots mc ms g rest (Qc As.toArray) XC free := by
  have hK : vx_Back l R p e below s args y 3 8 (PreOf R mc ms Pc) (PostOf Qc mc ms free) (vx_Post XC mc ms free) := vx_callBack cw.1 hM hp.1
  obtain ⟨⟨-, -, -, -, -, -, hcode, hini, hy, hlen, hl⟩, hstt⟩ := cw
  obtain ⟨hx, hb, hml, ho, -⟩ := S
  intro T hT X
  rcases vx_callS X hx (bytes := bytes) (maxL := maxL) (ret := ret) ho hl hstt hini hcode hy hK hg (hsize.trans hml.symm) (argsL := As) (rest := rest) (fun sig h => hn.trans (hlen sig h)) hstack hW (by rw [hb]; exact hdg)
    (fun vm₁ hW₁ => ⟨hf.1, hf.2, hp.2 (T.setVm vm₁) hT hW₁⟩) with ⟨v, vm₁, ⟨U', l2, c2, s2⟩, hW₁, X', ⟨g', mk, t, L, e1, e2, hq, h1, hL, h2, h3⟩, st⟩ | ⟨q, vm₁, ⟨U', l2, c2, s2⟩, hW₁, X', ⟨g', mk, t, L, E, ce, e1, e2, hq, hce, hcv, hcl, h1, hL, h2, h3⟩, st⟩
  · dsimp only [Pt.U, Pt.locs, Pt.cells, Pt.slots] at X' e1 e2 h1 h2 h3 st
    subst h1; subst h2; subst h3
    exact Or.inl ⟨v, (T.setVm vm₁).calling g' mk As.toArray, t, U', L, hT, X', hL, e1, e2, hq, st⟩
  · dsimp only [Pt.U, Pt.locs, Pt.cells, Pt.slots] at X' e1 e2 h1 h2 h3 st hcl
    subst h1; subst h2; subst h3
    exact Or.inr ⟨q, (T.setVm vm₁).calling g' mk As.toArray, t, U', L, E, ce, hT, X', hL, e1, e2, hq, hce, hcv, vx_cls hW₁ hcl, st⟩
end Runs
section Rows
variable {p : Program} {l : Launch} {e : Env} {R : Room} {s : State} {m : MethodId} {args : Array Value} {below : List Frame} {meth : Method} {c : Code} {H : Heap} {locs : List Loc} {cells slots : Nat} {Q : State → Prop}
variable {mc ms : Nat} {free : Addr → Prop} {A0 A1 : Nat → Prop} {H0 : Heap} {a : Array Value} {pc : Nat} {ls : Array Slot} {st0 rest : List Value}
theorem vx_keep {st₀ t T' : State} {L : List Loc} (h0 : st₀.heap = H) (e1 : T'.heap = t.heap) (hS : va_S A0 H0 H locs) (hA : ∀ q, q < H.size → A1 q → A0 q) (hf : ∀ q, free q → A0 q) (hL : ∀ q ∈ L, free q.base) (hF : va_F A1 st₀ t) :
    H.size ≤ T'.heap.size ∧ (∀ q : Nat, q < H.size → ¬ A1 q → T'.heap[q]? = H[q]?) ∧ va_S A0 H0 T'.heap (locs ++ L) := by
  obtain ⟨hz, hk⟩ := hF
  rw [h0] at hz hk
  exact ⟨by rw [e1]; exact hz, fun q h1 h2 => by rw [e1]; exact hk q h1 h2,
    ⟨Nat.le_trans hS.1 (by rw [e1]; exact hz), fun q h1 h2 => by rw [e1, hk q (Nat.lt_of_lt_of_le h1 hS.1) (fun z => h2 (hA q (Nat.lt_of_lt_of_le h1 hS.1) z))]; exact hS.2.1 q h1 h2, fun q hq => by
      rcases List.mem_append.mp hq with h | h
      · exact hS.2.2 q h
      · exact hf _ (hL q h)⟩⟩
theorem vx_calli {S SX : Type} {post : Int32 → S → Prop} {px : SX → Prop} {B : S → State → Prop} {BX : String → SX → State → Prop} {AX : Nat → Prop} (hr : vx_Run p l e R s m args below meth c H locs cells slots mc ms (F0 m pc ls st0) rest (va_Qi post B A1 a) (vx_X px BX AX) free) (hS : va_S A0 H0 H locs) (hA : ∀ q, q < H.size → A1 q → A0 q) (hf : ∀ q, free q → A0 q) (hAX : ∀ q, q < H.size → AX q → A0 q)
    (kx : ∀ (E : String) (ce : Cell) (q9 : Addr) (u : SX) (t : State) (H1 : Heap) (locs1 : List Loc), t.heap = H1 → s.vm.Alike t.vm → px u → BX E u t → H.size ≤ H1.size → (∀ q : Nat, q < H.size → ¬ AX q → H1[q]? = H[q]?) → va_S A0 H0 H1 locs1 → H1[q9]? = some ce → ce.vm = .none → s.vm.findClass E = some ce.cls → vx_W p l e R s m args below meth c H1 locs1 (cells + mc) (slots + ms) Q (F0 m pc ls rest) q9)
    (kk : ∀ (r : Int32) (u : S) (t : State) (H1 : Heap) (locs1 : List Loc), t.heap = H1 → s.vm.Alike t.vm → post r u → B u t → H.size ≤ H1.size → (∀ q : Nat, q < H.size → ¬ A1 q → H1[q]? = H[q]?) → va_S A0 H0 H1 locs1 → W p l e R s m args below meth c H1 locs1 (cells + mc) (slots + ms) Q (F0 m (pc + 3) ls (.int r :: rest))) : W p l e R s m args below meth c H locs cells slots Q (F0 m pc ls st0) := by
  intro T hT X
  rcases hr T hT X with ⟨v, st₀, t, T', L, h0, X', hL, e1, e2, ⟨⟨r, u, hv, hp, hb⟩, hF⟩, st⟩ | ⟨q, st₀, t, T', L, E, ce, h0, X', hL, e1, e2, ⟨u, hp, hb, hF⟩, hce, hcv, hcl, st⟩
  · cases hv
    obtain ⟨k1, k2, k3⟩ := vx_keep h0 e1 hS hA hf hL hF
    obtain ⟨t2, a1, b1⟩ := kk r u t T'.heap (locs ++ L) e1.symm (by rw [← e2]; exact X'.warmed.alike) hp hb k1 k2 k3 T' rfl X'
    exact ⟨t2, st t2 a1, b1⟩
  · obtain ⟨k1, k2, k3⟩ := vx_keep h0 e1 hS hAX hf hL hF
    obtain ⟨t2, a1, b1⟩ := kx E ce q u t T'.heap (locs ++ L) e1.symm (by rw [← e2]; exact X'.warmed.alike) hp hb k1 k2 k3 (by rw [e1]; exact hce) hcv hcl T' rfl X'
    exact ⟨t2, st.trans a1, b1⟩
theorem vx_calll {S SX : Type} {post : Int64 → S → Prop} {px : SX → Prop} {B : S → State → Prop} {BX : String → SX → State → Prop} {AX : Nat → Prop} (hr : vx_Run p l e R s m args below meth c H locs cells slots mc ms (F0 m pc ls st0) rest (va_Ql post B A1 a) (vx_X px BX AX) free) (hS : va_S A0 H0 H locs) (hA : ∀ q, q < H.size → A1 q → A0 q) (hf : ∀ q, free q → A0 q) (hAX : ∀ q, q < H.size → AX q → A0 q)
    (kx : ∀ (E : String) (ce : Cell) (q9 : Addr) (u : SX) (t : State) (H1 : Heap) (locs1 : List Loc), t.heap = H1 → s.vm.Alike t.vm → px u → BX E u t → H.size ≤ H1.size → (∀ q : Nat, q < H.size → ¬ AX q → H1[q]? = H[q]?) → va_S A0 H0 H1 locs1 → H1[q9]? = some ce → ce.vm = .none → s.vm.findClass E = some ce.cls → vx_W p l e R s m args below meth c H1 locs1 (cells + mc) (slots + ms) Q (F0 m pc ls rest) q9)
    (kk : ∀ (r : Int64) (u : S) (t : State) (H1 : Heap) (locs1 : List Loc), t.heap = H1 → s.vm.Alike t.vm → post r u → B u t → H.size ≤ H1.size → (∀ q : Nat, q < H.size → ¬ A1 q → H1[q]? = H[q]?) → va_S A0 H0 H1 locs1 → W p l e R s m args below meth c H1 locs1 (cells + mc) (slots + ms) Q (F0 m (pc + 3) ls (.long r :: rest))) : W p l e R s m args below meth c H locs cells slots Q (F0 m pc ls st0) := by
  intro T hT X
  rcases hr T hT X with ⟨v, st₀, t, T', L, h0, X', hL, e1, e2, ⟨⟨r, u, hv, hp, hb⟩, hF⟩, st⟩ | ⟨q, st₀, t, T', L, E, ce, h0, X', hL, e1, e2, ⟨u, hp, hb, hF⟩, hce, hcv, hcl, st⟩
  · cases hv
    obtain ⟨k1, k2, k3⟩ := vx_keep h0 e1 hS hA hf hL hF
    obtain ⟨t2, a1, b1⟩ := kk r u t T'.heap (locs ++ L) e1.symm (by rw [← e2]; exact X'.warmed.alike) hp hb k1 k2 k3 T' rfl X'
    exact ⟨t2, st t2 a1, b1⟩
  · obtain ⟨k1, k2, k3⟩ := vx_keep h0 e1 hS hAX hf hL hF
    obtain ⟨t2, a1, b1⟩ := kx E ce q u t T'.heap (locs ++ L) e1.symm (by rw [← e2]; exact X'.warmed.alike) hp hb k1 k2 k3 (by rw [e1]; exact hce) hcv hcl T' rfl X'
    exact ⟨t2, st.trans a1, b1⟩
theorem vx_callf {S SX : Type} {post : UInt32 → S → Prop} {px : SX → Prop} {B : S → State → Prop} {BX : String → SX → State → Prop} {AX : Nat → Prop} (hr : vx_Run p l e R s m args below meth c H locs cells slots mc ms (F0 m pc ls st0) rest (va_Qf post B A1 a) (vx_X px BX AX) free) (hS : va_S A0 H0 H locs) (hA : ∀ q, q < H.size → A1 q → A0 q) (hf : ∀ q, free q → A0 q) (hAX : ∀ q, q < H.size → AX q → A0 q)
    (kx : ∀ (E : String) (ce : Cell) (q9 : Addr) (u : SX) (t : State) (H1 : Heap) (locs1 : List Loc), t.heap = H1 → s.vm.Alike t.vm → px u → BX E u t → H.size ≤ H1.size → (∀ q : Nat, q < H.size → ¬ AX q → H1[q]? = H[q]?) → va_S A0 H0 H1 locs1 → H1[q9]? = some ce → ce.vm = .none → s.vm.findClass E = some ce.cls → vx_W p l e R s m args below meth c H1 locs1 (cells + mc) (slots + ms) Q (F0 m pc ls rest) q9)
    (kk : ∀ (r : UInt32) (u : S) (t : State) (H1 : Heap) (locs1 : List Loc), t.heap = H1 → s.vm.Alike t.vm → post r u → B u t → H.size ≤ H1.size → (∀ q : Nat, q < H.size → ¬ A1 q → H1[q]? = H[q]?) → va_S A0 H0 H1 locs1 → W p l e R s m args below meth c H1 locs1 (cells + mc) (slots + ms) Q (F0 m (pc + 3) ls (.float r :: rest))) : W p l e R s m args below meth c H locs cells slots Q (F0 m pc ls st0) := by
  intro T hT X
  rcases hr T hT X with ⟨v, st₀, t, T', L, h0, X', hL, e1, e2, ⟨⟨r, u, hv, hp, hb⟩, hF⟩, st⟩ | ⟨q, st₀, t, T', L, E, ce, h0, X', hL, e1, e2, ⟨u, hp, hb, hF⟩, hce, hcv, hcl, st⟩
  · cases hv
    obtain ⟨k1, k2, k3⟩ := vx_keep h0 e1 hS hA hf hL hF
    obtain ⟨t2, a1, b1⟩ := kk r u t T'.heap (locs ++ L) e1.symm (by rw [← e2]; exact X'.warmed.alike) hp hb k1 k2 k3 T' rfl X'
    exact ⟨t2, st t2 a1, b1⟩
  · obtain ⟨k1, k2, k3⟩ := vx_keep h0 e1 hS hAX hf hL hF
    obtain ⟨t2, a1, b1⟩ := kx E ce q u t T'.heap (locs ++ L) e1.symm (by rw [← e2]; exact X'.warmed.alike) hp hb k1 k2 k3 (by rw [e1]; exact hce) hcv hcl T' rfl X'
    exact ⟨t2, st.trans a1, b1⟩
theorem vx_calld {S SX : Type} {post : UInt64 → S → Prop} {px : SX → Prop} {B : S → State → Prop} {BX : String → SX → State → Prop} {AX : Nat → Prop} (hr : vx_Run p l e R s m args below meth c H locs cells slots mc ms (F0 m pc ls st0) rest (va_Qd post B A1 a) (vx_X px BX AX) free) (hS : va_S A0 H0 H locs) (hA : ∀ q, q < H.size → A1 q → A0 q) (hf : ∀ q, free q → A0 q) (hAX : ∀ q, q < H.size → AX q → A0 q)
    (kx : ∀ (E : String) (ce : Cell) (q9 : Addr) (u : SX) (t : State) (H1 : Heap) (locs1 : List Loc), t.heap = H1 → s.vm.Alike t.vm → px u → BX E u t → H.size ≤ H1.size → (∀ q : Nat, q < H.size → ¬ AX q → H1[q]? = H[q]?) → va_S A0 H0 H1 locs1 → H1[q9]? = some ce → ce.vm = .none → s.vm.findClass E = some ce.cls → vx_W p l e R s m args below meth c H1 locs1 (cells + mc) (slots + ms) Q (F0 m pc ls rest) q9)
    (kk : ∀ (r : UInt64) (u : S) (t : State) (H1 : Heap) (locs1 : List Loc), t.heap = H1 → s.vm.Alike t.vm → post r u → B u t → H.size ≤ H1.size → (∀ q : Nat, q < H.size → ¬ A1 q → H1[q]? = H[q]?) → va_S A0 H0 H1 locs1 → W p l e R s m args below meth c H1 locs1 (cells + mc) (slots + ms) Q (F0 m (pc + 3) ls (.double r :: rest))) : W p l e R s m args below meth c H locs cells slots Q (F0 m pc ls st0) := by
  intro T hT X
  rcases hr T hT X with ⟨v, st₀, t, T', L, h0, X', hL, e1, e2, ⟨⟨r, u, hv, hp, hb⟩, hF⟩, st⟩ | ⟨q, st₀, t, T', L, E, ce, h0, X', hL, e1, e2, ⟨u, hp, hb, hF⟩, hce, hcv, hcl, st⟩
  · cases hv
    obtain ⟨k1, k2, k3⟩ := vx_keep h0 e1 hS hA hf hL hF
    obtain ⟨t2, a1, b1⟩ := kk r u t T'.heap (locs ++ L) e1.symm (by rw [← e2]; exact X'.warmed.alike) hp hb k1 k2 k3 T' rfl X'
    exact ⟨t2, st t2 a1, b1⟩
  · obtain ⟨k1, k2, k3⟩ := vx_keep h0 e1 hS hAX hf hL hF
    obtain ⟨t2, a1, b1⟩ := kx E ce q u t T'.heap (locs ++ L) e1.symm (by rw [← e2]; exact X'.warmed.alike) hp hb k1 k2 k3 (by rw [e1]; exact hce) hcv hcl T' rfl X'
    exact ⟨t2, st.trans a1, b1⟩
theorem vx_callv {S SX : Type} {post : S → Prop} {px : SX → Prop} {B : S → State → Prop} {BX : String → SX → State → Prop} {AX : Nat → Prop} (hr : vx_Run p l e R s m args below meth c H locs cells slots mc ms (F0 m pc ls st0) rest (va_Qv post B A1 a) (vx_X px BX AX) free) (hS : va_S A0 H0 H locs) (hA : ∀ q, q < H.size → A1 q → A0 q) (hf : ∀ q, free q → A0 q) (hAX : ∀ q, q < H.size → AX q → A0 q)
    (kx : ∀ (E : String) (ce : Cell) (q9 : Addr) (u : SX) (t : State) (H1 : Heap) (locs1 : List Loc), t.heap = H1 → s.vm.Alike t.vm → px u → BX E u t → H.size ≤ H1.size → (∀ q : Nat, q < H.size → ¬ AX q → H1[q]? = H[q]?) → va_S A0 H0 H1 locs1 → H1[q9]? = some ce → ce.vm = .none → s.vm.findClass E = some ce.cls → vx_W p l e R s m args below meth c H1 locs1 (cells + mc) (slots + ms) Q (F0 m pc ls rest) q9)
    (kk : ∀ (u : S) (t : State) (H1 : Heap) (locs1 : List Loc), t.heap = H1 → s.vm.Alike t.vm → post u → B u t → H.size ≤ H1.size → (∀ q : Nat, q < H.size → ¬ A1 q → H1[q]? = H[q]?) → va_S A0 H0 H1 locs1 → W p l e R s m args below meth c H1 locs1 (cells + mc) (slots + ms) Q (F0 m (pc + 3) ls (rest))) : W p l e R s m args below meth c H locs cells slots Q (F0 m pc ls st0) := by
  intro T hT X
  rcases hr T hT X with ⟨v, st₀, t, T', L, h0, X', hL, e1, e2, ⟨⟨u, hv, hp, hb⟩, hF⟩, st⟩ | ⟨q, st₀, t, T', L, E, ce, h0, X', hL, e1, e2, ⟨u, hp, hb, hF⟩, hce, hcv, hcl, st⟩
  · cases hv
    obtain ⟨k1, k2, k3⟩ := vx_keep h0 e1 hS hA hf hL hF
    obtain ⟨t2, a1, b1⟩ := kk u t T'.heap (locs ++ L) e1.symm (by rw [← e2]; exact X'.warmed.alike) hp hb k1 k2 k3 T' rfl X'
    exact ⟨t2, st t2 a1, b1⟩
  · obtain ⟨k1, k2, k3⟩ := vx_keep h0 e1 hS hAX hf hL hF
    obtain ⟨t2, a1, b1⟩ := kx E ce q u t T'.heap (locs ++ L) e1.symm (by rw [← e2]; exact X'.warmed.alike) hp hb k1 k2 k3 (by rw [e1]; exact hce) hcv hcl T' rfl X'
    exact ⟨t2, st.trans a1, b1⟩
/-- caught by the row x of this method's table; the rows ahead don't take it -/
theorem vx_catch {own name : String} {E : String} {ce : Cell} {q : Addr} (hown : s.vm.findClass own = some m.cls) (pre : List ExceptionTableEntry) (x : ExceptionTableEntry) (suf : List ExceptionTableEntry) (hsplit : c.exceptionTable.toList = pre ++ x :: suf)
    (hpass : ∀ z ∈ pre, covers z pc = false ∨ (z.catchType ≠ 0 ∧ ∃ nm : String, (Cond.classLink own z.catchType nm).before args s = true ∧ va_Nc E nm s)) (hx : covers x pc = true) (h0 : x.catchType ≠ 0)
    (hlink : (Cond.classLink own x.catchType name).before args s = true) (hcast : (Cond.castable E name).before args s = true) (hcell : H[q]? = some ce) (hv : ce.vm = .none) (hcl : s.vm.findClass E = some ce.cls)
    (kk : W p l e R s m args below meth c H locs cells slots Q (F0 m x.handlerPc ls [.ref q])) : vx_W p l e R s m args below meth c H locs cells slots Q (F0 m pc ls rest) q := by
  intro T hT X
  have hpl : e.platform.magicAccessors = ({} : Platform).magicAccessors := by rw [X.admits.platform]
  obtain ⟨c3, c4, hc3, hc4, hasg⟩ := Cond.castable_spec hcast
  cases Option.some.inj (hc3.symm.trans hcl)
  obtain ⟨c5, hc5, hcl5⟩ := Cond.classLink_spec hown hlink e.platform hpl
  cases Option.some.inj (hc4.symm.trans hc5)
  obtain ⟨vm', X', st⟩ := X.thenCaughtThrough q (g := F0 m pc ls rest) rfl (Steps.refl _) (by rw [hT]; exact hcell) (by rw [hv]; rfl) (by obtain ⟨k9, h9, -⟩ := Vm.findClass_spec hcl; exact ⟨k9, h9⟩) pre x suf hsplit
    (fun z hz => by
      rcases hpass z hz with h | ⟨hz0, nm, hl1, hn1⟩
      · exact Or.inl h
      · obtain ⟨c6, hc6, hcl6⟩ := Cond.classLink_spec hown hl1 e.platform hpl
        obtain ⟨a8, b8, h1, h2, h3⟩ := hn1
        cases Option.some.inj (h1.symm.trans hcl)
        cases Option.some.inj (h2.symm.trans hc6)
        exact Or.inr ⟨hz0, _, hcl6, h3⟩) hx (Or.inr ⟨h0, c4, hcl5, hasg⟩)
  obtain ⟨t, a1, b1⟩ := kk (T.setVm vm') hT X'
  exact ⟨t, st.trans a1, b1⟩
end Rows
section Ends
variable {p : Program} {l : Launch} {e : Env} {R : Room} {s : State} {m : MethodId} {args : Array Value} {below : List Frame} {meth : Method} {c : Code} {H : Heap} {locs : List Loc} {cells slots : Nat} {Q : State → Prop}
variable {mc ms : Nat} {free : Addr → Prop} {A0 A1 : Nat → Prop} {H0 : Heap} {a : Array Value} {ls : Array Slot} {st0 rest : List Value}
variable {Qc : Array Value → State → Outcome → State → Prop} {XC : String → State → State → Prop}
/-- what a body that may throw owes at its end -/
def vx_MQ (below : List Frame) (Qc : Array Value → State → Outcome → State → Prop) (XC : String → State → State → Prop) (a : Array Value) (s : State) (mc ms : Nat) (free : Addr → Prop) : State → Prop := fun t =>
  ∃ o, t.status = .running ∧ Ended t below o ∧ vx_Q Qc XC mc ms free a s o t
theorem vx_ret {g : JFrame} {mc ms : Nat} (k : W p l e R s m args below meth c H locs cells slots (MQ below Qc args s mc ms free) g) : W p l e R s m args below meth c H locs cells slots (vx_MQ below Qc XC args s mc ms free) g := by
  intro T hT X
  obtain ⟨t, a1, o, b1, b2, b3, b4⟩ := k T hT X
  exact ⟨t, a1, o, b1, b2, Or.inl ⟨b3, b4⟩⟩
/-- not caught here: it goes on to the caller -/
theorem vx_widen {g : JFrame} {q : Addr} {k n : Nat} (h1 : cells ≤ k) (h2 : slots ≤ n) (kk : vx_W p l e R s m args below meth c H locs k n Q g q) : vx_W p l e R s m args below meth c H locs cells slots Q g q := fun T hT X => kk T hT (stand_widen X h1 h2)
theorem vx_out {pc : Nat} {E : String} {ce : Cell} {q : Addr} {mc ms : Nat} (hout : ∀ x ∈ c.exceptionTable.toList, covers x pc = false) (hlocks : meth.locks = false) (hcell : H[q]? = some ce) (hv : ce.vm = .none) (hcl : s.vm.findClass E = some ce.cls)
    (hx : ∀ t : State, t.heap = H → s.vm.Alike t.vm → XC E s t) (hf : ∀ z ∈ locs, free z.base) (hc : cells ≤ mc) (hs : slots ≤ ms) :
    vx_W p l e R s m args below meth c H locs cells slots (vx_MQ below Qc XC args s mc ms free) (F0 m pc ls rest) q := by
  intro T hT X
  obtain ⟨st1, hrun, hend, hW, hsm⟩ := X.leaveThrown q (g := F0 m pc ls rest) rfl rfl rfl hout hlocks
  have hcell9 : (T.setFrames (.throwing q :: below)).heap[q]? = some ce := by
    show T.heap[q]? = some ce
    rw [hT]; exact hcell
  exact ⟨_, st1, .threw q, hrun, hend, Or.inr ⟨q, rfl, E, ce, locs, hx _ hT hW.alike, hcell9, hv, hcl, hW, hsm.mono hc hs, hf⟩⟩
theorem vx_frame {U : State} {k n : Nat} (h : s.sameButNew ({ U with vm := s.vm } : State) locs k n) : s.heap.size ≤ U.heap.size ∧ ∀ q : Nat, q < s.heap.size → (∀ z ∈ locs, z.base ≠ q) → U.heap[q]? = s.heap[q]? := by
  obtain ⟨-, h2, -, -, -, h6⟩ := h
  refine ⟨h2, fun q hq hz => ?_⟩
  obtain ⟨c9, e1, e2, e3, e4⟩ := h6 q _ (Array.getElem?_eq_getElem hq)
  have hs : c9.slots = (s.heap[q]).slots := Array.ext_getElem? fun i => e4 i fun hm => hz _ hm rfl
  have h9 : c9 = s.heap[q] := by
    rw [hs] at e2
    exact e2
  have e5 : U.heap[q]? = some c9 := e1
  rw [e5, h9, Array.getElem?_eq_getElem hq]
/-- the words of a throw but the four that speak of the heap -/
def vx_no (w : Cond) : Bool := decide (w ≠ .isRef (.static Bundle.tN "UNASSIGNED_STACK" Bundle.steD)) && decide (w ≠ .isRef (.static Bundle.tN "SUPPRESSED_SENTINEL" Bundle.listD)) && decide (w ≠ .laysStatic Bundle.tN "UNASSIGNED_STACK" Bundle.steD) && decide (w ≠ .laysStatic Bundle.tN "SUPPRESSED_SENTINEL" Bundle.listD)
def vx_at0 (own : String) (ic : Nat) (X : String) (names : List String) : List Cond := (Bundle.ownAtoms0 own ic X names).filter vx_no
def vx_atS (own : String) (ic : Nat) (X : String) (names : List String) : List Cond := (Bundle.ownAtoms own ic X names).filter vx_no
/-- a word that the tables alone decide, or a good one -/
def vx_ot (w : Cond) : Bool := w.onTables || goodWord w
theorem vx_ot_at {args a' : Array Value} {s U : State} {w : Cond} (hW : s.WarmedH U.vm) (hvm : s.vm = U.vm) (hg : vx_ot w = true) (h : w.before args s = true) : w.before a' U = true := by
  simp only [vx_ot, Bool.or_eq_true] at hg
  rcases hg with hg | hg
  · exact va_tabs hg hvm h
  · exact word_at hW (good_of_word hg) h
/-- a list's words: the good ones out of the method's own list, the others by premises of their own -/
theorem vx_hat {args : Array Value} {s : State} {L B : List Cond} (h1 : ∀ w ∈ L.filter goodWord, w.before args s = true) (h2 : ∀ w ∈ L.filter (fun w => !goodWord w), w ∈ B) (h3 : ∀ w ∈ B, w.before args s = true) : ∀ w ∈ L, w.before args s = true := by
  intro w hw
  by_cases g : goodWord w = true
  · exact h1 w (List.mem_filter.mpr ⟨hw, g⟩)
  · refine h3 w (h2 w (List.mem_filter.mpr ⟨hw, ?_⟩))
    show (!goodWord w) = true
    cases hgw : goodWord w
    · rfl
    · exact absurd hgw g
theorem vx_c {args : Array Value} {s : State} {w : Cond} {B : List Cond} (h : w.before args s = true) (t : ∀ w ∈ B, w.before args s = true) : ∀ w' ∈ w :: B, w'.before args s = true := fun w' h' => (List.mem_cons.mp h').elim (fun e => by rw [e]; exact h) (t w')
theorem vx_n {args : Array Value} {s : State} : ∀ w ∈ ([] : List Cond), w.before args s = true := fun _ h => nomatch h
theorem vx_own {args : Array Value} {s : State} {L : List Cond} (h1 : ∀ w ∈ L.filter vx_no, w.before args s = true)
    (hU : (Cond.isRef (.static Bundle.tN "UNASSIGNED_STACK" Bundle.steD)).before args s = true) (hN : (Cond.isRef (.static Bundle.tN "SUPPRESSED_SENTINEL" Bundle.listD)).before args s = true)
    (lU : (Cond.laysStatic Bundle.tN "UNASSIGNED_STACK" Bundle.steD).before args s = true) (lN : (Cond.laysStatic Bundle.tN "SUPPRESSED_SENTINEL" Bundle.listD).before args s = true) : ∀ w ∈ L, w.before args s = true := by
  intro w hw
  by_cases e1 : w = .isRef (.static Bundle.tN "UNASSIGNED_STACK" Bundle.steD)
  · rw [e1]; exact hU
  · by_cases e2 : w = .isRef (.static Bundle.tN "SUPPRESSED_SENTINEL" Bundle.listD)
    · rw [e2]; exact hN
    · by_cases e3 : w = .laysStatic Bundle.tN "UNASSIGNED_STACK" Bundle.steD
      · rw [e3]; exact lU
      · by_cases e4 : w = .laysStatic Bundle.tN "SUPPRESSED_SENTINEL" Bundle.listD
        · rw [e4]; exact lN
        · exact h1 w (List.mem_filter.mpr ⟨hw, by unfold vx_no; rw [decide_eq_true e1, decide_eq_true e2, decide_eq_true e3, decide_eq_true e4]; rfl⟩)
/-- where a static field lies, its class's statics cell in H -/
def vx_L (C n d : String) (A : Nat → Prop) (U : State) (H : Heap) : Prop := ∃ (c : ClassId) (k : Class) (i : Nat) (f : Field) (a : Nat) (cell : Cell), U.vm.findClass C = some c ∧ U.fieldFound? C n d = some (c, k, i, f) ∧ f.isStatic = true ∧ k.statics = some a ∧ H[a]? = some cell ∧ cell.vm.isStatics = true ∧ cell.cls = c ∧ f.slot < cell.slots.size ∧ k.staticTypes[f.slot]? = some f.type ∧ ¬ A a
theorem vx_L.moved {C n d : String} {A : Nat → Prop} {u U : State} {H : Heap} (hvm : u.vm.Alike U.vm) (h : vx_L C n d A u H) : vx_L C n d A U H := by
  obtain ⟨c, k, i, f, a, cell, h1, h2, h3, h4, h5, h6, h7, h8, h9, h10⟩ := h
  obtain ⟨k', hi', he⟩ := State.fieldFound?_setVm hvm h2
  exact ⟨c, k', i, f, a, cell, by rw [hvm.findClass]; exact h1, hi', h3, by rw [he]; exact h4, h5, h6, h7, h8, by rw [he]; exact h9, h10⟩
theorem vx_L.kept {C n d : String} {A : Nat → Prop} {U : State} {H H1 : Heap} (h : vx_L C n d A U H) (hq : ∀ a : Nat, a < H.size → ¬ A a → H1[a]? = H[a]?) : vx_L C n d A U H1 := by
  obtain ⟨c, k, i, f, a, cell, h1, h2, h3, h4, h5, h6, h7, h8, h9, h10⟩ := h
  exact ⟨c, k, i, f, a, cell, h1, h2, h3, h4, by rw [hq a (Array.getElem?_eq_some_iff.mp h5).1 h10]; exact h5, h6, h7, h8, h9, h10⟩
theorem vx_L.narrow {C n d : String} {A B : Nat → Prop} {U : State} {H : Heap} (h : vx_L C n d A U H) (hAB : ∀ q, B q → A q) : vx_L C n d B U H := by
  obtain ⟨c, k, i, f, a, cell, h1, h2, h3, h4, h5, h6, h7, h8, h9, h10⟩ := h
  exact ⟨c, k, i, f, a, cell, h1, h2, h3, h4, h5, h6, h7, h8, h9, fun z => h10 (hAB _ z)⟩
theorem vx_L.word {C n d : String} {A : Nat → Prop} {s : State} {args : Array Value} (h : vx_L C n d A s s.heap) : (Cond.laysStatic C n d).before args s = true := by
  obtain ⟨c, k, i, f, a, cell, h1, h2, h3, h4, h5, h6, h7, h8, h9, -⟩ := h
  show (Cond.laysStatic C n d).holds args s none s [] = true
  exact Cond.laysStatic_of h1 h2 h3 h4 h5 h6 h7 h8 h9
/-- .. and what it holds: null or some reference -/
def vx_Zq (C n d : String) (A : Nat → Prop) (U : State) (H : Heap) : Prop := va_Zq C n d A U H ∧ vx_L C n d A U H
theorem vx_Zq.moved {C n d : String} {A : Nat → Prop} {u U : State} {H : Heap} (hvm : u.vm.Alike U.vm) (h : vx_Zq C n d A u H) : vx_Zq C n d A U H := ⟨va_Zq.moved hvm h.1, vx_L.moved hvm h.2⟩
theorem vx_Zq.kept {C n d : String} {A : Nat → Prop} {U : State} {H H1 : Heap} (h : vx_Zq C n d A U H) (hq : ∀ a : Nat, a < H.size → ¬ A a → H1[a]? = H[a]?) : vx_Zq C n d A U H1 := ⟨va_Zq.kept h.1 hq, vx_L.kept h.2 hq⟩
theorem vx_Zq.narrow {C n d : String} {A B : Nat → Prop} {U : State} {H : Heap} (h : vx_Zq C n d A U H) (hAB : ∀ q, B q → A q) : vx_Zq C n d B U H := ⟨va_Zq.narrow h.1 hAB, vx_L.narrow h.2 hAB⟩
theorem vx_Zqof {args : Array Value} {s : State} {C n d : String} {A : Nat → Prop} (hl : (Cond.laysStatic C n d).before args s = true) (hini : (Cond.initialized C).before args s = true) (h : (Cond.isRef (.static C n d)).before args s = true) (hA : ∀ a : Nat, a < s.heap.size → ¬ A a) : vx_Zq C n d A s s.heap := by
  refine ⟨va_Zqof hl hini h hA, ?_⟩
  obtain ⟨c, k, i, f, a, cell, h1, h2, h3, h4, h5, h6, h7, h8, h9⟩ := Cond.laysStatic_spec hl
  exact ⟨c, k, i, f, a, cell, h1, h2, h3, h4, h5, h6, h7, h8, h9, hA a (Array.getElem?_eq_some_iff.mp h5).1⟩
theorem vx_isRef {C n d : String} {v : Value} {A : Nat → Prop} {s : State} {args : Array Value} (h : va_Z C n d v A s s.heap) (hv : v.isRef = true) : (Cond.isRef (.static C n d)).before args s = true := by
  obtain ⟨cf, kf, fi, f, a, cell, h1, h2, h3, h4, h5, h6, h7, -⟩ := h
  have he : (Term.static C n d).eval args s none [] s = some v := by
    simp [Term.eval, State.fieldNamed?, h1, h2, h4, h5, h6, h7]
  simp only [Cond.before, Cond.holds, Cond.value, he]
  cases v <;> simp_all [Value.isRef]
theorem vx_isRefq {C n d : String} {A : Nat → Prop} {s : State} {args : Array Value} (h : va_Zq C n d A s s.heap) : (Cond.isRef (.static C n d)).before args s = true := by
  rcases h with h | ⟨t, h⟩
  · exact vx_isRef h rfl
  · exact vx_isRef h rfl
/-- the same frame, seen from here: as if the method were called anew in this heap -/
theorem vx_rebase {T : State} (X : Stand p l e R s m args below meth c T locs cells slots) {R' : Room} (hf : R'.frames ≤ R.frames) (hl : R'.locals ≤ R.locals) (hc : cells + R'.cells ≤ R.cells) (hs : slots + R'.slots ≤ R.slots) :
    Stand p l e R' ((T.setVm s.vm).setFrames (.invoking m args :: below)) m args below meth c T [] 0 0 := by
  have htop : (T.setVm s.vm).topJava?.isSome := X.here.top
  have hF : ((T.setVm s.vm).setFrames (.invoking m args :: below)).frames = .invoking m args :: below := State.frames_setFrames _ (State.cur_lt_of_top htop)
  obtain ⟨g₀, hg0⟩ := Option.isSome_iff_exists.mp htop
  obtain ⟨r, hr⟩ := State.topJava?_eq_some.mp hg0
  have hl9 : e.platform.stackLimits (T.setVm s.vm).me = e.platform.stackLimits s.me := X.limits
  have hb9 : (T.setVm s.vm).me.stackBytes = s.me.stackBytes := X.bytes
  refine ⟨X.admits, X.cas, X.clock, hF, ?_, X.hears, X.method, X.code, X.here, X.tail, X.warmed, ?_, ?_, ?_⟩
  · have h := X.room
    have hU : ((T.setVm s.vm).setFrames (.invoking m args :: below)).localsInUse = s.localsInUse := by
      rw [State.localsInUse_invoking hF (meth := meth) (c := c) X.method X.code, State.localsInUse_invoking X.frames X.method X.code]
    simp only [State.hasRoom, Bool.and_eq_true, decide_eq_true_eq] at h ⊢
    obtain ⟨⟨⟨⟨h1, h2, h3, h4, h5, h6⟩, h7⟩, h8⟩, h9⟩ := h
    rw [X.frames, List.length_cons] at h2 h3
    have q1 := X.heapSize
    have q2 := X.used
    simp only [hF, hU, List.length_cons, State.stackLimits_setFrames, State.stackBytes_setFrames, hl9, hb9]
    refine ⟨⟨⟨⟨by omega, by omega, by omega, by omega, by omega, h6⟩, ?_⟩, ?_⟩, X.book⟩
    · show T.heap.size + R'.cells ≤ e.platform.maxCells
      omega
    · show T.slotsUsed + R'.slots ≤ e.platform.maxSlots
      omega
  · rw [State.stackLimits_setFrames]; rfl
  · rw [State.stackBytes_setFrames]; rfl
  · refine ⟨?_, Nat.le_refl _, Nat.le_refl _, ?_, ?_, fun a c9 h9 => ⟨c9, h9, rfl, rfl, fun _ _ => rfl⟩⟩
    · obtain ⟨t, ht, -⟩ := State.frames_cons hr
      show T.setVm s.vm = { ((T.setVm s.vm).setFrames (.invoking m args :: below)).setFrames (T.setVm s.vm).frames with heap := T.heap, slotsUsed := T.slotsUsed }
      rw [State.setFrames_setFrames, State.setFrames_self ht]
      rfl
    · show T.slotsUsed = T.slotsUsed + ((T.heap.toList.drop T.heap.size).map (·.slots.size)).sum
      rw [List.drop_eq_nil_of_le (Nat.le_of_eq Array.length_toList)]
      rfl
    · show ((T.heap.toList.drop T.heap.size).map (·.slots.size)).sum ≤ 0
      rw [List.drop_eq_nil_of_le (Nat.le_of_eq Array.length_toList)]
      exact Nat.le_refl _
/-- 'throw new E()': new; dup; invokespecial; athrow -/
theorem vx_throw0 {cc : ByteArray} {pc : Nat} (hexec : p.tables.exec = Jvm.exec) (hb : c.code = cc) (hl : l.stackTraces = false) {own cls : String} {names : List String} {ik ic mc ms : Nat} {A : Nat → Prop}
    (hown : s.vm.findClass own = some m.cls) (hcls : Bundle.fit cls = true) (hnames : ∀ n ∈ names, Bundle.fit n = true)
    (hk : (Cond.classLink own ik cls).before args s = true) (hini : (Cond.initialized cls).before args s = true) (hat : ∀ w ∈ vx_at0 own ic cls names, w.before args s = true)
    (hgood : ∀ w ∈ Cond.classLink own ik cls :: Cond.initialized cls :: vx_at0 own ic cls names, vx_ot w = true)
    (hU : vx_Zq Bundle.tN "UNASSIGNED_STACK" Bundle.steD A s s.heap) (hN : vx_Zq Bundle.tN "SUPPRESSED_SENTINEL" Bundle.listD A s s.heap) (hS : va_S A s.heap H locs) (hsize : ls.size = c.maxLocals)
    (d0 : decode cc pc = .ok (.new ik, 3)) (d3 : decode cc (pc + 3) = .ok (.dup, 1)) (d4 : decode cc (pc + 4) = .ok (.invokespecial ic, 3)) (d7 : decode cc (pc + 7) = .ok (.athrow, 1))
    (hout : ∀ x ∈ c.exceptionTable.toList, covers x (pc + 7) = false)
    (hRframes : names.length + 3 < R.frames) (hRlocals : (rest.map fun v => v.category).sum + (13 * (names.length + 1) + 42) ≤ R.locals) (hRcells : cells + 1 ≤ R.cells) (hRslots : slots + 6 ≤ R.slots) (hlocks : meth.locks = false)
    (hx : ∀ t : State, s.vm.Alike t.vm → H.size ≤ t.heap.size → (∀ q : Nat, q < H.size → t.heap[q]? = H[q]?) → XC cls s t)
    (hf : ∀ z ∈ locs, free z.base) (hc : cells + 1 ≤ mc) (hs : slots + 6 ≤ ms) :
    W p l e R s m args below meth c H locs cells slots (vx_MQ below Qc XC args s mc ms free) (F0 m pc ls rest) := by
  intro T hT X
  have htr : e.platform.stackTraces = false := (show e.platform.stackTraces = l.stackTraces by rw [X.admits.platform]).trans hl
  have Y := vx_rebase X (R' := { frames := R.frames, locals := R.locals, cells := 1, slots := 6 }) (Nat.le_refl _) (Nat.le_refl _) hRcells hRslots
  obtain ⟨s', hA⟩ : ∃ z, z = (T.setVm s.vm).setFrames (.invoking m args :: below) := ⟨_, rfl⟩
  rw [← hA] at Y
  have hvm : s'.vm = s.vm := by rw [hA]; rfl
  have hhp : s'.heap = H := by rw [hA]; exact hT
  have hW0 : s.WarmedH s'.vm := by rw [hvm]; exact State.WarmedH.refl s
  have hat' : ∀ w ∈ vx_at0 own ic cls names, w.before args s' = true := fun w hw => vx_ot_at hW0 hvm.symm (hgood w (List.mem_cons_of_mem _ (List.mem_cons_of_mem _ hw))) (hat w hw)
  have hk' : (Cond.classLink own ik cls).before args s' = true := vx_ot_at hW0 hvm.symm (hgood _ List.mem_cons_self) hk
  have hini' : (Cond.initialized cls).before args s' = true := vx_ot_at hW0 hvm.symm (hgood _ (List.mem_cons_of_mem _ List.mem_cons_self)) hini
  have hU' : vx_Zq Bundle.tN "UNASSIGNED_STACK" Bundle.steD A s' s'.heap := by rw [hhp]; exact vx_Zq.moved hW0.alike (hU.kept hS.2.1)
  have hN' : vx_Zq Bundle.tN "SUPPRESSED_SENTINEL" Bundle.listD A s' s'.heap := by rw [hhp]; exact vx_Zq.moved hW0.alike (hN.kept hS.2.1)
  have h : ∀ w ∈ Bundle.ownAtoms0 own ic cls names, w.before args s' = true := vx_own hat' (vx_isRefq hU'.1) (vx_isRefq hN'.1) hU'.2.word hN'.2.word
  have hown' : s'.vm.findClass own = some m.cls := by rw [hvm]; exact hown
  have hins : (Cond.instantiable cls 6).before args s' = true := h _ (by simp [Bundle.ownAtoms0])
  obtain ⟨vm₁, cX, kX, hfX, hkX, -, -, X₁, st1⟩ := Y.newCold hexec (own := own) (C := cls) (index := ik) (n := 6) hown' hk' hins hini'
    (g := F0 m pc ls rest) rfl (by rw [hb]; exact d0) (Nat.le_refl _) (Nat.le_refl _)
  generalize hT1 : (T.setVm vm₁).pushCell { cls := cX, slots := kX.instanceTypes.map defaultValue, vm := .none } = T1 at X₁ st1
  have hcat : (Value.ref T.heap.size).category = 1 := rfl
  have hcellA : T1.heap[T.heap.size]? = some (freshCell cX kX) := by rw [← hT1]; exact State.heap_pushCell_size _ _
  have d3' : decode c.code (pc + 3) = .ok (.dup, 1) := by rw [hb]; exact d3
  obtain ⟨U, hsteps, hrun, hend, hW, hsame, ce, hce, hO⟩ := X₁.ctorThrow0 hexec htr (own := own) (cls := cls) (names := names) (ic := ic) hown' hcls hnames h (fun x hx => nomatch hx) hfX hkX hcellA (by rw [hhp, hT]; exact Nat.le_refl _)
    (g := { method := m, pc := pc + 4, locals := ls, stack := .ref T.heap.size :: .ref T.heap.size :: rest, locked := none }) rfl hsize rfl rfl (rest := rest) rfl
    (by rw [hb]; exact d4) (by rw [hb]; exact d7) hout hRframes (by simp only [List.map_cons, List.sum_cons, hcat]; omega) hlocks
  obtain ⟨f1, f2⟩ := vx_frame hsame
  rw [hhp] at f1 f2
  have hWs : s.WarmedH U.vm := State.WarmedH.trans hW0 hW
  have hcl : s.vm.findClass cls = some ce.cls := by
    have h9 := hO.cls
    rw [hvm] at h9
    exact h9
  have hall : s.sameButNew ({ U with vm := s.vm } : State) locs mc ms := by
    subst hA
    obtain ⟨e1, e2⟩ := hsame
    rw [State.setFrames_setFrames] at e1
    have h2 : (T.setVm s.vm).sameButNew ({ U with vm := s.vm } : State) [] (0 + 1) (0 + 6) := ⟨e1, e2⟩
    have h3 := X.same.trans h2
    rw [List.append_nil] at h3
    exact h3.mono hc hs
  refine ⟨U, ?_, .threw T.heap.size, hrun, hend, Or.inr ⟨T.heap.size, rfl, cls, ce, locs, hx U hWs.alike f1 (fun q hq => f2 q hq (fun z hz => nomatch hz)), hce, hO.vm, hcl, hWs, hall, hf⟩⟩
  refine st1 _ ?_
  show Steps p.tables e below (T1.setTop { method := m, pc := pc + 3, locals := ls, stack := .ref T.heap.size :: rest, locked := none }) _
  jvm_step X₁.here [X₁.here.top, hexec, d3', Value.category]
  exact hsteps
/-- 'throw new E("text")': new; dup; ldc; invokespecial; athrow -/
theorem vx_throwS {cc : ByteArray} {pc : Nat} (hexec : p.tables.exec = Jvm.exec) (hb : c.code = cc) (hl : l.stackTraces = false) {own cls text : String} {names : List String} {ik is ic mc ms sa : Nat} {A : Nat → Prop}
    (hown : s.vm.findClass own = some m.cls) (hcls : Bundle.fit cls = true) (hnames : ∀ n ∈ names, Bundle.fit n = true)
    (hk : (Cond.classLink own ik cls).before args s = true) (hini : (Cond.initialized cls).before args s = true) (hstr : vk_R own is text sa s) (hat : ∀ w ∈ vx_atS own ic cls names, w.before args s = true)
    (hgood : ∀ w ∈ Cond.classLink own ik cls :: Cond.initialized cls :: vx_atS own ic cls names, vx_ot w = true)
    (hU : vx_Zq Bundle.tN "UNASSIGNED_STACK" Bundle.steD A s s.heap) (hN : vx_Zq Bundle.tN "SUPPRESSED_SENTINEL" Bundle.listD A s s.heap) (hS : va_S A s.heap H locs) (hsize : ls.size = c.maxLocals)
    (d0 : decode cc pc = .ok (.new ik, 3)) (d3 : decode cc (pc + 3) = .ok (.dup, 1)) (d4 : decode cc (pc + 4) = .ok (.ldc is, 2)) (d6 : decode cc (pc + 6) = .ok (.invokespecial ic, 3)) (d9 : decode cc (pc + 9) = .ok (.athrow, 1))
    (hout : ∀ x ∈ c.exceptionTable.toList, covers x (pc + 9) = false)
    (hRframes : names.length + 3 < R.frames) (hRlocals : (rest.map fun v => v.category).sum + (13 * (names.length + 1) + 43) ≤ R.locals) (hRcells : cells + 1 ≤ R.cells) (hRslots : slots + 6 ≤ R.slots) (hlocks : meth.locks = false)
    (hx : ∀ t : State, s.vm.Alike t.vm → H.size ≤ t.heap.size → (∀ q : Nat, q < H.size → t.heap[q]? = H[q]?) → XC cls s t)
    (hf : ∀ z ∈ locs, free z.base) (hc : cells + 1 ≤ mc) (hs : slots + 6 ≤ ms) :
    W p l e R s m args below meth c H locs cells slots (vx_MQ below Qc XC args s mc ms free) (F0 m pc ls rest) := by
  intro T hT X
  have htr : e.platform.stackTraces = false := (show e.platform.stackTraces = l.stackTraces by rw [X.admits.platform]).trans hl
  have Y := vx_rebase X (R' := { frames := R.frames, locals := R.locals, cells := 1, slots := 6 }) (Nat.le_refl _) (Nat.le_refl _) hRcells hRslots
  obtain ⟨s', hA⟩ : ∃ z, z = (T.setVm s.vm).setFrames (.invoking m args :: below) := ⟨_, rfl⟩
  rw [← hA] at Y
  have hvm : s'.vm = s.vm := by rw [hA]; rfl
  have hhp : s'.heap = H := by rw [hA]; exact hT
  have hW0 : s.WarmedH s'.vm := by rw [hvm]; exact State.WarmedH.refl s
  have hat' : ∀ w ∈ vx_atS own ic cls names, w.before args s' = true := fun w hw => vx_ot_at hW0 hvm.symm (hgood w (List.mem_cons_of_mem _ (List.mem_cons_of_mem _ hw))) (hat w hw)
  have hk' : (Cond.classLink own ik cls).before args s' = true := vx_ot_at hW0 hvm.symm (hgood _ List.mem_cons_self) hk
  have hini' : (Cond.initialized cls).before args s' = true := vx_ot_at hW0 hvm.symm (hgood _ (List.mem_cons_of_mem _ List.mem_cons_self)) hini
  have hU' : vx_Zq Bundle.tN "UNASSIGNED_STACK" Bundle.steD A s' s'.heap := by rw [hhp]; exact vx_Zq.moved hW0.alike (hU.kept hS.2.1)
  have hN' : vx_Zq Bundle.tN "SUPPRESSED_SENTINEL" Bundle.listD A s' s'.heap := by rw [hhp]; exact vx_Zq.moved hW0.alike (hN.kept hS.2.1)
  have h : ∀ w ∈ Bundle.ownAtoms own ic cls names, w.before args s' = true := vx_own hat' (vx_isRefq hU'.1) (vx_isRefq hN'.1) hU'.2.word hN'.2.word
  have hown' : s'.vm.findClass own = some m.cls := by rw [hvm]; exact hown
  have hins : (Cond.instantiable cls 6).before args s' = true := h _ (by simp [Bundle.ownAtoms])
  obtain ⟨vm₁, cX, kX, hfX, hkX, -, -, X₁, st1⟩ := Y.newCold hexec (own := own) (C := cls) (index := ik) (n := 6) hown' hk' hins hini'
    (g := F0 m pc ls rest) rfl (by rw [hb]; exact d0) (Nat.le_refl _) (Nat.le_refl _)
  generalize hT1 : (T.setVm vm₁).pushCell { cls := cX, slots := kX.instanceTypes.map defaultValue, vm := .none } = T1 at X₁ st1
  have hcat : (Value.ref T.heap.size).category = 1 := rfl
  have hcellA : T1.heap[T.heap.size]? = some (freshCell cX kX) := by rw [← hT1]; exact State.heap_pushCell_size _ _
  have d3' : decode c.code (pc + 3) = .ok (.dup, 1) := by rw [hb]; exact d3
  have d4' : decode c.code (pc + 4) = .ok (.ldc is, 2) := by rw [hb]; exact d4
  have hstr' : vk_R own is text sa s' := vk_R.warm hW0 hstr
  obtain ⟨U, hsteps, hrun, hend, hW, hsame, ce, hce, hO⟩ := X₁.ctorThrowS hexec htr (own := own) (cls := cls) (names := names) (ic := ic) hown' hcls hnames h (fun x hx => nomatch hx) hfX hkX hcellA (by rw [hhp, hT]; exact Nat.le_refl _) (msg := .ref sa) rfl
    (g := { method := m, pc := pc + 6, locals := ls, stack := .ref sa :: .ref T.heap.size :: .ref T.heap.size :: rest, locked := none }) rfl hsize rfl rfl (rest := rest) rfl
    (by rw [hb]; exact d6) (by rw [hb]; exact d9) hout hRframes (by simp only [List.map_cons, List.sum_cons, hcat]; omega) hlocks
  obtain ⟨f1, f2⟩ := vx_frame hsame
  rw [hhp] at f1 f2
  have hWs : s.WarmedH U.vm := State.WarmedH.trans hW0 hW
  have hcl : s.vm.findClass cls = some ce.cls := by
    have h9 := hO.cls
    rw [hvm] at h9
    exact h9
  have hall : s.sameButNew ({ U with vm := s.vm } : State) locs mc ms := by
    subst hA
    obtain ⟨e1, e2⟩ := hsame
    rw [State.setFrames_setFrames] at e1
    have h2 : (T.setVm s.vm).sameButNew ({ U with vm := s.vm } : State) [] (0 + 1) (0 + 6) := ⟨e1, e2⟩
    have h3 := X.same.trans h2
    rw [List.append_nil] at h3
    exact h3.mono hc hs
  refine ⟨U, ?_, .threw T.heap.size, hrun, hend, Or.inr ⟨T.heap.size, rfl, cls, ce, locs, hx U hWs.alike f1 (fun q hq => f2 q hq (fun z hz => nomatch hz)), hce, hO.vm, hcl, hWs, hall, hf⟩⟩
  refine st1 _ ?_
  show Steps p.tables e below (T1.setTop { method := m, pc := pc + 3, locals := ls, stack := .ref T.heap.size :: rest, locked := none }) _
  jvm_step X₁.here [X₁.here.top, hexec, d3', Value.category]
  exact X₁.ldcString hexec (own := own) (text := text) (index := is) (a := sa) hown' hstr'.1 hstr'.2
    (g := { method := m, pc := pc + 4, locals := ls, stack := .ref T.heap.size :: .ref T.heap.size :: rest, locked := none }) rfl d4' _ hsteps
/-- 'throw new E("text")', the text by a wide index -/
theorem vx_throwSW {cc : ByteArray} {pc : Nat} (hexec : p.tables.exec = Jvm.exec) (hb : c.code = cc) (hl : l.stackTraces = false) {own cls text : String} {names : List String} {ik is ic mc ms sa : Nat} {A : Nat → Prop}
    (hown : s.vm.findClass own = some m.cls) (hcls : Bundle.fit cls = true) (hnames : ∀ n ∈ names, Bundle.fit n = true)
    (hk : (Cond.classLink own ik cls).before args s = true) (hini : (Cond.initialized cls).before args s = true) (hstr : vk_R own is text sa s) (hat : ∀ w ∈ vx_atS own ic cls names, w.before args s = true)
    (hgood : ∀ w ∈ Cond.classLink own ik cls :: Cond.initialized cls :: vx_atS own ic cls names, vx_ot w = true)
    (hU : vx_Zq Bundle.tN "UNASSIGNED_STACK" Bundle.steD A s s.heap) (hN : vx_Zq Bundle.tN "SUPPRESSED_SENTINEL" Bundle.listD A s s.heap) (hS : va_S A s.heap H locs) (hsize : ls.size = c.maxLocals)
    (d0 : decode cc pc = .ok (.new ik, 3)) (d3 : decode cc (pc + 3) = .ok (.dup, 1)) (d4 : decode cc (pc + 4) = .ok (.ldc_w is, 3)) (d7 : decode cc (pc + 7) = .ok (.invokespecial ic, 3)) (d10 : decode cc (pc + 10) = .ok (.athrow, 1))
    (hout : ∀ x ∈ c.exceptionTable.toList, covers x (pc + 10) = false)
    (hRframes : names.length + 3 < R.frames) (hRlocals : (rest.map fun v => v.category).sum + (13 * (names.length + 1) + 43) ≤ R.locals) (hRcells : cells + 1 ≤ R.cells) (hRslots : slots + 6 ≤ R.slots) (hlocks : meth.locks = false)
    (hx : ∀ t : State, s.vm.Alike t.vm → H.size ≤ t.heap.size → (∀ q : Nat, q < H.size → t.heap[q]? = H[q]?) → XC cls s t)
    (hf : ∀ z ∈ locs, free z.base) (hc : cells + 1 ≤ mc) (hs : slots + 6 ≤ ms) :
    W p l e R s m args below meth c H locs cells slots (vx_MQ below Qc XC args s mc ms free) (F0 m pc ls rest) := by
  intro T hT X
  have htr : e.platform.stackTraces = false := (show e.platform.stackTraces = l.stackTraces by rw [X.admits.platform]).trans hl
  have Y := vx_rebase X (R' := { frames := R.frames, locals := R.locals, cells := 1, slots := 6 }) (Nat.le_refl _) (Nat.le_refl _) hRcells hRslots
  obtain ⟨s', hA⟩ : ∃ z, z = (T.setVm s.vm).setFrames (.invoking m args :: below) := ⟨_, rfl⟩
  rw [← hA] at Y
  have hvm : s'.vm = s.vm := by rw [hA]; rfl
  have hhp : s'.heap = H := by rw [hA]; exact hT
  have hW0 : s.WarmedH s'.vm := by rw [hvm]; exact State.WarmedH.refl s
  have hat' : ∀ w ∈ vx_atS own ic cls names, w.before args s' = true := fun w hw => vx_ot_at hW0 hvm.symm (hgood w (List.mem_cons_of_mem _ (List.mem_cons_of_mem _ hw))) (hat w hw)
  have hk' : (Cond.classLink own ik cls).before args s' = true := vx_ot_at hW0 hvm.symm (hgood _ List.mem_cons_self) hk
  have hini' : (Cond.initialized cls).before args s' = true := vx_ot_at hW0 hvm.symm (hgood _ (List.mem_cons_of_mem _ List.mem_cons_self)) hini
  have hU' : vx_Zq Bundle.tN "UNASSIGNED_STACK" Bundle.steD A s' s'.heap := by rw [hhp]; exact vx_Zq.moved hW0.alike (hU.kept hS.2.1)
  have hN' : vx_Zq Bundle.tN "SUPPRESSED_SENTINEL" Bundle.listD A s' s'.heap := by rw [hhp]; exact vx_Zq.moved hW0.alike (hN.kept hS.2.1)
  have h : ∀ w ∈ Bundle.ownAtoms own ic cls names, w.before args s' = true := vx_own hat' (vx_isRefq hU'.1) (vx_isRefq hN'.1) hU'.2.word hN'.2.word
  have hown' : s'.vm.findClass own = some m.cls := by rw [hvm]; exact hown
  have hins : (Cond.instantiable cls 6).before args s' = true := h _ (by simp [Bundle.ownAtoms])
  obtain ⟨vm₁, cX, kX, hfX, hkX, -, -, X₁, st1⟩ := Y.newCold hexec (own := own) (C := cls) (index := ik) (n := 6) hown' hk' hins hini'
    (g := F0 m pc ls rest) rfl (by rw [hb]; exact d0) (Nat.le_refl _) (Nat.le_refl _)
  generalize hT1 : (T.setVm vm₁).pushCell { cls := cX, slots := kX.instanceTypes.map defaultValue, vm := .none } = T1 at X₁ st1
  have hcat : (Value.ref T.heap.size).category = 1 := rfl
  have hcellA : T1.heap[T.heap.size]? = some (freshCell cX kX) := by rw [← hT1]; exact State.heap_pushCell_size _ _
  have d3' : decode c.code (pc + 3) = .ok (.dup, 1) := by rw [hb]; exact d3
  have d4' : decode c.code (pc + 4) = .ok (.ldc_w is, 3) := by rw [hb]; exact d4
  have hstr' : vk_R own is text sa s' := vk_R.warm hW0 hstr
  obtain ⟨U, hsteps, hrun, hend, hW, hsame, ce, hce, hO⟩ := X₁.ctorThrowS hexec htr (own := own) (cls := cls) (names := names) (ic := ic) hown' hcls hnames h (fun x hx => nomatch hx) hfX hkX hcellA (by rw [hhp, hT]; exact Nat.le_refl _) (msg := .ref sa) rfl
    (g := { method := m, pc := pc + 7, locals := ls, stack := .ref sa :: .ref T.heap.size :: .ref T.heap.size :: rest, locked := none }) rfl hsize rfl rfl (rest := rest) rfl
    (by rw [hb]; exact d7) (by rw [hb]; exact d10) hout hRframes (by simp only [List.map_cons, List.sum_cons, hcat]; omega) hlocks
  obtain ⟨f1, f2⟩ := vx_frame hsame
  rw [hhp] at f1 f2
  have hWs : s.WarmedH U.vm := State.WarmedH.trans hW0 hW
  have hcl : s.vm.findClass cls = some ce.cls := by
    have h9 := hO.cls
    rw [hvm] at h9
    exact h9
  have hall : s.sameButNew ({ U with vm := s.vm } : State) locs mc ms := by
    subst hA
    obtain ⟨e1, e2⟩ := hsame
    rw [State.setFrames_setFrames] at e1
    have h2 : (T.setVm s.vm).sameButNew ({ U with vm := s.vm } : State) [] (0 + 1) (0 + 6) := ⟨e1, e2⟩
    have h3 := X.same.trans h2
    rw [List.append_nil] at h3
    exact h3.mono hc hs
  refine ⟨U, ?_, .threw T.heap.size, hrun, hend, Or.inr ⟨T.heap.size, rfl, cls, ce, locs, hx U hWs.alike f1 (fun q hq => f2 q hq (fun z hz => nomatch hz)), hce, hO.vm, hcl, hWs, hall, hf⟩⟩
  refine st1 _ ?_
  show Steps p.tables e below (T1.setTop { method := m, pc := pc + 3, locals := ls, stack := .ref T.heap.size :: rest, locked := none }) _
  jvm_step X₁.here [X₁.here.top, hexec, d3', Value.category]
  exact X₁.ldcStringW hexec (own := own) (text := text) (index := is) (a := sa) hown' hstr'.1 hstr'.2
    (g := { method := m, pc := pc + 4, locals := ls, stack := .ref T.heap.size :: .ref T.heap.size :: rest, locked := none }) rfl d4' _ hsteps
end Ends
section Bodies
variable {l : Launch}
theorem vx_ofW {y : MethodName} {ws ws' : List Cond} {rm : Room} {Pc : Array Value → State → Prop} {Qc : Array Value → State → Outcome → State → Prop} {XC : String → State → State → Prop} {mc ms : Nat} {free : Addr → Prop} {cc : ByteArray} {maxL : Nat} {ret : Option FieldType}
    (hy : plainName y.cls = true) (hw : ws = Cond.code y cc maxL ret :: ws')
    (body : ∀ p e s m args below meth c s₁, BodyLoose p l y (headSpec ws rm) cc maxL ret e s m args below meth c s₁ → c.maxLocals = maxL → (∀ x ∈ c.exceptionTable.toList, False) → Pc args s →
      W p l e (headSpec ws rm).room s m args below meth c s.heap [] 0 0 (vx_MQ below Qc XC args s mc ms free) (entryFrame m args maxL)) : vx_Met l y ws rm Pc Qc XC mc ms free := by
  refine MetFree.of_bodyS (code := cc) (maxLocals := maxL) (ret := ret) hy ?_ ?_
  · intro args s m h hn
    obtain ⟨meth, c, h1, h2, h3, h4, h5, h6, -, -⟩ := Cond.code_spec hn (atoms_spec (ws := ws) h _ (by rw [hw]; exact List.mem_cons_self))
    exact ⟨meth, c, h1, h2, h3, h4, h5, h6⟩
  · intro p e s m args below meth c s₁ B hml hP _
    have hh0 : s₁.heap = s.heap := by rw [B.state]; rfl
    have ht : ∀ x ∈ c.exceptionTable.toList, False := by
      obtain ⟨meth9, c9, h1, h2, -, -, -, -, h7, -⟩ := Cond.code_spec B.named (atoms_spec (ws := ws) B.pre _ (by rw [hw]; exact List.mem_cons_self))
      cases Option.some.inj (h1.symm.trans B.method)
      cases Option.some.inj (h2.symm.trans (Stand.of_body B).code)
      intro x hx
      rw [Array.isEmpty_iff.mp h7] at hx
      cases hx
    obtain ⟨t, a1, o, b1, b2, b3⟩ := body p e s m args below meth c s₁ B hml ht hP s₁ hh0 (Stand.of_body B)
    exact ⟨t, o, a1, b1, b2, b3⟩
/-- the table of a body with handlers -/
theorem vx_table {p : Program} {x y : MethodName} {S : Spec} {cc bytes : ByteArray} {maxL maxL' : Nat} {ret ret' : Option FieldType} {e : Env} {s s₁ : State} {m : MethodId} {args : Array Value} {below : List Frame} {meth : Method} {c : Code} {hh : List (Nat × Nat × Nat × Nat)}
    (B : BodyLoose p l y S cc maxL ret e s m args below meth c s₁) (h : (Cond.codeWith y bytes maxL' ret' hh).before args s = true) : c.exceptionTable.toList = tableOf hh := by
  obtain ⟨m9, meth9, c9, hn9, h1, h2, -, -, h6, -⟩ := Cond.codeWith_spec h
  cases Option.some.inj (hn9.symm.trans B.named)
  cases Option.some.inj (h1.symm.trans B.method)
  cases Option.some.inj (h2.symm.trans (Stand.of_body B).code)
  rw [← h6, table_eq]
end Bodies
end VXA
/-! ===== END ===== -/
/-! ===== BEGIN a static call of a method with an exception table ===== -/
section VXS
variable {p : Program} {l : Launch} {e : Env} {R : Room} {s : State} {m : MethodId} {args : Array Value} {below : List Frame} {meth : Method} {c : Code} {T : State} {H : Heap} {locs : List Loc} {cells slots : Nat}
abbrev vx_CSW (R : Room) (s : State) (args : Array Value) (own : String) (index : Nat) (y : MethodName) (bytes : ByteArray) (maxL : Nat) (ret : Option FieldType) (hh : List (Nat × Nat × Nat × Nat)) (ws : List Cond) (rm : Room) (mc ms n : Nat) : Prop :=
  (rm.cells = mc ∧ rm.slots = ms ∧ rm.frames + 1 ≤ R.frames ∧ 8 + (maxL + 11) + rm.locals ≤ R.locals ∧ (∀ w ∈ ws, ∀ (a' : Array Value) (U : State), s.WarmedH U.vm → w.before a' U = true) ∧ Cond.codeWith y bytes maxL ret hh ∈ ws) ∧
  (Cond.codeWith y bytes maxL ret hh).before args s = true ∧ (Cond.initialized y.cls).before args s = true ∧ (y.cls ≠ "java/lang/invoke/MethodHandle" ∧ y.cls ≠ "java/lang/invoke/VarHandle") ∧
  (∀ sig, parseMethodDescriptor y.desc = some sig → n = sig.parameters.length) ∧ (Cond.methodLink own index y).before args s = true ∧ (Cond.static y).before args s = true
theorem vx_cwSW {own : String} {index maxL mc ms : Nat} {y : MethodName} {bytes : ByteArray} {ret : Option FieldType} {hh : List (Nat × Nat × Nat × Nat)} {Ts ws ws' : List Cond} {rm : Room} (n : Nat) (ht : ∀ w ∈ Ts, w.before args s = true) (hT : GoodIn Ts (va_wsS own index y ws)) (hw : ws = Cond.codeWith y bytes maxL ret hh :: ws') (hrc : rm.cells = mc) (hrs : rm.slots = ms)
    (hd : y.cls ≠ "java/lang/invoke/MethodHandle" ∧ y.cls ≠ "java/lang/invoke/VarHandle" ∧ (parseMethodDescriptor y.desc).map (fun d => d.parameters.length) = some n) (hR : rm.frames + 1 ≤ R.frames ∧ 8 + (maxL + 11) + rm.locals ≤ R.locals) :
    vx_CSW R s args own index y bytes maxL ret hh ws rm mc ms n := by
  have ok : ∀ w ∈ va_wsS own index y ws, w.before args s = true := fun w h => ht w (hT w h).1
  have hG : GoodIn Ts ws := fun w h => hT w (by unfold va_wsS; exact List.mem_append_right _ h)
  have hc : Cond.codeWith y bytes maxL ret hh ∈ ws := by rw [hw]; exact List.mem_cons_self
  refine ⟨⟨hrc, hrs, hR.1, hR.2, pay_in ht hG, hc⟩, ht _ (hG _ hc).1, ok _ (by simp [va_wsS]), ⟨hd.1, hd.2.1⟩, fun sig h => ?_, ok _ (by simp [va_wsS]), ok _ (by simp [va_wsS])⟩
  have h2 := hd.2.2
  rw [h] at h2
  exact (Option.some.inj h2).symm
theorem vx_callSW (X : Stand p l e R s m args below meth c T locs cells slots) (hexec : p.tables.exec = Jvm.exec) {own : String} {index : Nat} {y : MethodName} {bytes : ByteArray} {maxL : Nat} {ret : Option FieldType} {hh : List (Nat × Nat × Nat × Nat)}
    (hown : s.vm.findClass own = some m.cls) (hlink : (Cond.methodLink own index y).before args s = true) (hstat : (Cond.static y).before args s = true) (hinit : (Cond.initialized y.cls).before args s = true)
    (hcode : (Cond.codeWith y bytes maxL ret hh).before args s = true) (hy : y.cls ≠ "java/lang/invoke/MethodHandle" ∧ y.cls ≠ "java/lang/invoke/VarHandle")
    {W9 : Nat} {Pre : Pt → Array Value → Prop} {Post : Pt → Array Value → Option Value → Pt → Prop} (hK : Back l R p e below s args y 3 W9 Pre Post)
    {g : JFrame} (hg : g.method = m) (hsize : g.locals.size = c.maxLocals) {argsL rest : List Value} (hlen : ∀ sig, parseMethodDescriptor y.desc = some sig → argsL.length = sig.parameters.length)
    (hstack : g.stack = argsL.reverse ++ rest) (hW : 2 * g.monitorRoom + (rest.map fun v => v.category).sum ≤ W9) (hdg : decode c.code g.pc = .ok (.invokestatic index, 3))
    (hpre : ∀ vm₁, s.WarmedH vm₁ → Pre ⟨T.setVm vm₁, locs, cells, slots⟩ argsL.toArray) :
    ∃ (v : Option Value) (vm₁ : Vm) (B : Pt), s.WarmedH vm₁ ∧ Stand p l e R s m args below meth c B.U B.locs B.cells B.slots ∧ Post ⟨T.setVm vm₁, locs, cells, slots⟩ argsL.toArray v B ∧
      ∀ target, Steps p.tables e below (B.U.setTop { g with pc := g.pc + 3, stack := v.toList ++ rest }) target → Steps p.tables e below (T.setTop g) target := by
  obtain ⟨mk, methM, cM, hnamed, hmethM, -, -, -, -, -, -, hsigM⟩ := Cond.codeWith_spec hcode
  have hstatic : methM.isStatic = true := Cond.static_spec hnamed hmethM hstat
  obtain ⟨kP, hkP, -⟩ := className_of_methodNamed hnamed
  have hinitP : kP.init = .initialized := Cond.initialized_spec (findClass_of_methodNamed hnamed) hkP hinit
  obtain ⟨vm₁, X₁, hstep₁⟩ := X.invokestatic hexec hown hlink hnamed hmethM hstatic hkP hinitP hy (g := g) hg (argsL := argsL) (rest := rest) (hlen _ hsigM) hstack hdg
  obtain ⟨v, B, X', hpost, hsteps⟩ := hK m meth c ⟨T.setVm vm₁, locs, cells, slots⟩ { g with stack := rest } (.invokestatic index) mk argsL.toArray X₁ hg hsize hdg hW (X₁.named hnamed) (hpre vm₁ X₁.warmed)
  exact ⟨v, vm₁, B, X₁.warmed, X', hpost, fun target h => hstep₁ _ fun acts => by rw [doInvoke_state]; exact hsteps.trans h⟩
theorem vx_runSW {y : MethodName} {bytes cc : ByteArray} {maxL nL mc ms n index : Nat} {ret : Option FieldType} {hh : List (Nat × Nat × Nat × Nat)} {ws : List Cond} {rm : Room} {Pc : Array Value → State → Prop} {Qc : Array Value → State → Outcome → State → Prop} {free : Addr → Prop} {Ts : List Cond} {own : String} {As rest : List Value} {g : JFrame}
    (S : CallFix p m c cc nL s args Ts own) (hM : Met l y ws rm Pc Qc mc ms free) (cw : vx_CSW R s args own index y bytes maxL ret hh ws rm mc ms n) (hp : PreS s H Pc As)
    (hg : g.method = m) (hn : As.length = n) (hsize : g.locals.size = nL) (hstack : g.stack = As.reverse ++ rest) (hW : 2 * g.monitorRoom + (rest.map fun v => v.category).sum ≤ 8) (hdg : decode cc g.pc = .ok (.invokestatic index, 3)) (hf : cells + mc ≤ R.cells ∧ slots + ms ≤ R.slots) :
    va_Run p l e R s m args below meth c H locs cells slots mc ms g rest (Qc As.toArray) (free) := by
  obtain ⟨⟨hrc, hrs, hfr, hlo, hws, hcw⟩, hcode, hini, hy, hlen, hl, hstt⟩ := cw
  have hK : Back l R p e below s args y 3 8 (PreOf R mc ms Pc) (PostOf Qc mc ms free) := va_backW (hh := hh) (bytes := bytes) (maxL := maxL) (ret := ret) hM hp.1 hrc hrs hfr hlo hws hcw (fun a' U hW => word_at hW (Or.inl (by first | rfl | simp [Cond.onTables, Cond.keeps, Cond.steady])) hini)
  obtain ⟨hx, hb, hml, ho, -⟩ := S
  intro T hT X
  obtain ⟨v, vm₁, ⟨U', l2, c2, s2⟩, hW₁, X', ⟨g', mk, t, L, e1, e2, hq, h1, hL, h2, h3⟩, st⟩ := vx_callSW X hx (hh := hh) (bytes := bytes) (maxL := maxL) (ret := ret) ho hl hstt hini hcode hy hK hg (hsize.trans hml.symm) (argsL := As) (rest := rest) (fun sig h => hn.trans (hlen sig h)) hstack hW (by rw [hb]; exact hdg)
    (fun vm₁ hW₁ => ⟨hf.1, hf.2, hp.2 (T.setVm vm₁) hT hW₁⟩)
  dsimp only [Pt.U, Pt.locs, Pt.cells, Pt.slots] at X' e1 e2 h1 h2 h3 st
  subst h1; subst h2; subst h3
  exact ⟨v, (T.setVm vm₁).calling g' mk As.toArray, t, U', L, hT, X', hL, e1, e2, hq, st⟩
/-- not caught here, past rows that name other classes: it goes on to the caller -/
theorem vx_outP {p : Program} {l : Launch} {e : Env} {R : Room} {s : State} {m : MethodId} {args : Array Value} {below : List Frame} {meth : Method} {c : Code} {H : Heap} {locs : List Loc} {cells slots : Nat} {free : Addr → Prop} {ls : Array Slot} {rest : List Value} {Qc : Array Value → State → Outcome → State → Prop} {XC : String → State → State → Prop}
    {pc : Nat} {own E : String} {ce : Cell} {q : Addr} {mc ms : Nat} (hown : s.vm.findClass own = some m.cls) (hlocks : meth.locks = false)
    (hpass : ∀ z ∈ c.exceptionTable.toList, covers z pc = false ∨ (z.catchType ≠ 0 ∧ ∃ nm : String, (Cond.classLink own z.catchType nm).before args s = true ∧ va_Nc E nm s)) (hcell : H[q]? = some ce) (hv : ce.vm = .none) (hcl : s.vm.findClass E = some ce.cls)
    (hx : ∀ t : State, t.heap = H → s.vm.Alike t.vm → XC E s t) (hf : ∀ z ∈ locs, free z.base) (hc : cells ≤ mc) (hs : slots ≤ ms) :
    vx_W p l e R s m args below meth c H locs cells slots (vx_MQ below Qc XC args s mc ms free) (F0 m pc ls rest) q := by
  intro T hT X
  have hpl : e.platform.magicAccessors = ({} : Platform).magicAccessors := by rw [X.admits.platform]
  obtain ⟨vm', hW', X', st⟩ := X.outThrough hlocks q (g := F0 m pc ls rest) rfl rfl rfl (cell := ce) (by rw [hT]; exact hcell) (by rw [hv]; rfl)
    (by obtain ⟨k9, h9, -⟩ := Vm.findClass_spec hcl; exact ⟨k9, h9⟩) (fun z hz => by
      rcases hpass z hz with h | ⟨hz0, nm, hl1, hn1⟩
      · exact Or.inl h
      · obtain ⟨c6, hc6, hcl6⟩ := Cond.classLink_spec hown hl1 e.platform hpl
        obtain ⟨a8, b8, h1, h2, h3⟩ := hn1
        cases Option.some.inj (h1.symm.trans hcl)
        cases Option.some.inj (h2.symm.trans hc6)
        exact Or.inr ⟨hz0, _, hcl6, h3⟩)
  obtain ⟨g₀, hfr⟩ := X'.frames_eq
  have hcell9 : ((T.setVm vm').setFrames (.throwing q :: below)).heap[q]? = some ce := by
    show T.heap[q]? = some ce
    rw [hT]; exact hcell
  have hend : Ended ((T.setVm vm').setFrames (.throwing q :: below)) below (.threw q) := State.frames_setFrames _ (State.cur_lt_of_frames hfr)
  refine ⟨(T.setVm vm').setFrames (.throwing q :: below), ?_, .threw q, X'.here.running, hend, Or.inr ⟨q, rfl, E, ce, locs, hx _ hT (X'.ends _).1.alike, hcell9, hv, hcl, (X'.ends _).1, (X'.ends _).2.mono hc hs, hf⟩⟩
  rw [X.pushThrowing_eq]
  exact st
/-- a thing of a world lies in the heap -/
theorem vx_lt {D : va_G} {cl : List vw_C} {ws : va_W} {H1 : Heap} (h : va_P D cl ws H1) {k : Nat} {q : Nat × va_E} (hk : ws[k]? = some q) : q.1 < H1.size := (h k q hk).lt
end VXS
/-! ===== END ===== -/
/-! ===== BEGIN methods with a table of their own: called by a name, returning or throwing ===== -/
section VXH
/-! vx_backW, vx_callVX, vx_callSX, vx_callVW, vx_runVW, vx_runVX, vx_runSX, vx_ofWH follow the same proofs as their sisters above (Free/Laws.lean, Shelf42/LK1.lean); vx_outP calls Shelf42/NT130.lean (outThrough). -/
section
variable {l : Launch} {R : Room} {p : Program} {e : Env} {below : List Frame} {s : State} {sargs : Array Value} {y : MethodName} {len W9 : Nat}
theorem vx_backW {ws : List Cond} {rm : Room} {Pc : Array Value → State → Prop} {Qc : Array Value → State → Outcome → State → Prop} {XC : String → State → State → Prop} {mc ms : Nat} {free : Addr → Prop} {bytes : ByteArray} {maxL : Nat} {ret : Option FieldType} {hh : List (Nat × Nat × Nat × Nat)}
    (hM : vx_Met l y ws rm Pc Qc XC mc ms free) (hblind : FrameBlind Pc) (hrc : rm.cells = mc) (hrs : rm.slots = ms)
    (hframes : rm.frames + 1 ≤ R.frames) (hlocals : W9 + (maxL + 11) + rm.locals ≤ R.locals)
    (hws : ∀ w ∈ ws, ∀ a' U, s.WarmedH U.vm → w.before a' U = true) (hcode : Cond.codeWith y bytes maxL ret hh ∈ ws) (hinit : ∀ a' U, s.WarmedH U.vm → (Cond.initialized y.cls).before a' U = true) :
    vx_Back l R p e below s sargs y len W9 (PreOf R mc ms Pc) (PostOf Qc mc ms free) (vx_Post XC mc ms free) := by
  intro m meth c A g ig mk a X hg hsize hdg hW hn hp
  have h1 : (headSpec ws rm).pre.before a A.U = true := atoms_intro fun w hw => hws w hw _ _ X.warmed
  have h2 : (Cond.codeWith y bytes maxL ret hh).before a A.U = true := hws _ hcode _ _ X.warmed
  have h3 : (Cond.initialized y.cls).before a A.U = true := hinit _ _ X.warmed
  have h4 : A.cells + (headSpec ws rm).room.cells ≤ R.cells := by rw [show (headSpec ws rm).room.cells = mc from hrc]; exact hp.1
  have h5 : A.slots + (headSpec ws rm).room.slots ≤ R.slots := by rw [show (headSpec ws rm).room.slots = ms from hrs]; exact hp.2.1
  have hPc : Pc a (A.U.calling g mk a) := hblind _ _ _ _ hp.2.2
  obtain ⟨U, Ls, c0, s0⟩ := A
  dsimp only [Pt.U, Pt.locs, Pt.cells, Pt.slots] at h1 h2 h3 h4 h5 X hn hPc ⊢
  obtain ⟨m9, methY, cY, hn9, hmY, hcY, -, hlY, -⟩ := Cond.codeWith_spec h2
  cases Option.some.inj (hn9.symm.trans hn)
  obtain ⟨kY, hkY, -⟩ := className_of_methodNamed hn
  have hinitY : kY.init = .initialized := Cond.initialized_spec (findClass_of_methodNamed hn) hkY h3
  have h : At U g.method c below := by rw [hg]; exact X.here
  have hlocals9 : W9 + (maxL + 11) + (headSpec ws rm).room.locals ≤ R.locals := hlocals
  have happ : (headSpec ws rm).appliesLoose y e.platform (U.calling g mk a) = true :=
    Spec.appliesLoose_calling (g := g) h hdg hn hkY hinitY
      (X.room_calling (g := g) (R' := (headSpec ws rm).room) hsize hmY hcY hframes (by rw [hlY]; omega) h4 h5) h1
  obtain ⟨mid, hmid⟩ := h.above
  have hfr : (U.setTop g).frames = (.java g :: mid) ++ below := by rw [State.frames_setTop' g h.top, hmid]; rfl
  obtain ⟨o, s₂, hsteps, -, hend, hq⟩ := Steps.callFree hM p X.admits X.cas X.clock (acts := []) hfr happ hPc trivial
  have hq' : vx_Q Qc XC mc ms free a (U.calling g mk a) o s₂ := hq
  rw [State.frames_setTop' g h.top] at hend
  obtain ⟨g₀, hg0⟩ := Option.isSome_iff_exists.mp h.top
  obtain ⟨r, hr⟩ := State.topJava?_eq_some.mp hg0
  have hr' : (({ U with heap := s₂.heap, slotsUsed := s₂.slotsUsed } : State).setVm s₂.vm).frames = .java g₀ :: r := hr
  rcases hq' with ⟨hqc, L, hfe, hL⟩ | ⟨q, rfl, E, ce, L, hx, hce, hcv, hcl, hW₂, hsm, hL⟩
  · obtain ⟨⟨v, rfl⟩, hW₂, e2, q2, q3, q4, q5, q6⟩ := id hfe
    have e3 : s₂ = ({ (U.calling g mk a).setFrames s₂.frames with heap := s₂.heap, slotsUsed := s₂.slotsUsed } : State).setVm s₂.vm := by
      have : s₂ = ({ s₂ with vm := (U.calling g mk a).vm } : State).setVm s₂.vm := rfl
      rw [e2] at this
      exact this
    obtain ⟨c₂, i₂, len₂, hc₂, hd₂, hf₂⟩ := hend
    have hW' : U.WarmedH s₂.vm := hW₂
    have hcc : c₂ = c := by
      have h1 : s₂.code? g.method = U.code? g.method := by
        rw [State.code?_eq, State.code?_eq, hW'.alike.method?]
      exact Option.some.inj (hc₂.symm.trans (h1.trans h.code))
    subst hcc
    have hlen : len₂ = len := by rw [hdg] at hd₂; cases hd₂; rfl
    subst hlen
    have hs₂ : s₂ = (({ U with heap := s₂.heap, slotsUsed := s₂.slotsUsed } : State).setVm s₂.vm).setTop { g with pc := g.pc + len₂, stack := v.toList ++ g.stack } := by
      refine e3.trans ?_
      rw [hf₂, State.calling_eq h.top, State.setFrames_setFrames, State.setTop_of_frames _ hr', hr]
      rfl
    have hsame : U.sameButNew ({ U with heap := s₂.heap, slotsUsed := s₂.slotsUsed } : State) L mc ms := by
      refine ⟨?_, q2, q3, q4, q5, q6⟩
      obtain ⟨t, ht, -⟩ := State.frames_cons hr
      show ({ U with heap := s₂.heap, slotsUsed := s₂.slotsUsed } : State) = { U.setFrames U.frames with heap := s₂.heap, slotsUsed := s₂.slotsUsed }
      rw [State.setFrames_self ht]
    subst hg
    refine Or.inl ⟨v, ⟨(({ U with heap := s₂.heap, slotsUsed := s₂.slotsUsed } : State).setVm s₂.vm), Ls ++ L, c0 + mc, s0 + ms⟩,
      ⟨X.admits, X.cas, X.clock, X.frames, X.room, X.hears, X.method, X.code, (X.here.setHeapUsed s₂.heap s₂.slotsUsed).setVm hW'.alike, X.tail, State.WarmedH.trans X.warmed hW', X.limits, X.bytes, X.same.trans (hsame.setVm s.vm)⟩,
      ⟨g, mk, s₂, L, rfl, rfl, hqc, rfl, hL, rfl, rfl⟩, ?_⟩
    show Steps p.tables e below _ ((({ U with heap := s₂.heap, slotsUsed := s₂.slotsUsed } : State).setVm s₂.vm).setTop { g with pc := g.pc + len₂, stack := v.toList ++ g.stack })
    rw [← hs₂]
    exact hsteps
  · obtain ⟨e2, q2, q3, q4, q5, q6⟩ := id hsm
    have e3 : s₂ = ({ (U.calling g mk a).setFrames s₂.frames with heap := s₂.heap, slotsUsed := s₂.slotsUsed } : State).setVm s₂.vm := by
      have : s₂ = ({ s₂ with vm := (U.calling g mk a).vm } : State).setVm s₂.vm := rfl
      rw [e2] at this
      exact this
    have hf₂ : s₂.frames = .throwing q :: .java g :: U.frames.tail := hend
    have hW' : U.WarmedH s₂.vm := hW₂
    have hs₂ : s₂ = ((({ U with heap := s₂.heap, slotsUsed := s₂.slotsUsed } : State).setVm s₂.vm).setTop g).pushFrame (.throwing q) := by
      refine e3.trans ?_
      rw [hf₂, State.calling_eq h.top, State.setFrames_setFrames, State.pushFrame, State.frames_setTop _ hr', State.setTop_of_frames _ hr', State.setFrames_setFrames, hr]
      rfl
    have hsame : U.sameButNew ({ U with heap := s₂.heap, slotsUsed := s₂.slotsUsed } : State) L mc ms := by
      refine ⟨?_, q2, q3, q4, q5, q6⟩
      obtain ⟨t, ht, -⟩ := State.frames_cons hr
      show ({ U with heap := s₂.heap, slotsUsed := s₂.slotsUsed } : State) = { U.setFrames U.frames with heap := s₂.heap, slotsUsed := s₂.slotsUsed }
      rw [State.setFrames_self ht]
    subst hg
    refine Or.inr ⟨q, ⟨(({ U with heap := s₂.heap, slotsUsed := s₂.slotsUsed } : State).setVm s₂.vm), Ls ++ L, c0 + mc, s0 + ms⟩,
      ⟨X.admits, X.cas, X.clock, X.frames, X.room, X.hears, X.method, X.code, (X.here.setHeapUsed s₂.heap s₂.slotsUsed).setVm hW'.alike, X.tail, State.WarmedH.trans X.warmed hW', X.limits, X.bytes, X.same.trans (hsame.setVm s.vm)⟩,
      ⟨g, mk, s₂, L, E, ce, rfl, rfl, hx, hce, hcv, hcl, rfl, hL, rfl, rfl⟩, ?_⟩
    show Steps p.tables e below _ (((({ U with heap := s₂.heap, slotsUsed := s₂.slotsUsed } : State).setVm s₂.vm).setTop g).pushFrame (.throwing q))
    rw [← hs₂]
    exact hsteps
end
variable {p : Program} {l : Launch} {e : Env} {R : Room} {s : State} {m : MethodId} {args : Array Value} {below : List Frame} {meth : Method} {c : Code} {T : State} {H : Heap} {locs : List Loc} {cells slots : Nat}
theorem vx_callVX (X : Stand p l e R s m args below meth c T locs cells slots) (hexec : p.tables.exec = Jvm.exec) {own C : String} {index : Nat} {y : MethodName} {bytes : ByteArray} {maxL : Nat} {ret : Option FieldType} {hh : List (Nat × Nat × Nat × Nat)}
    (hown : s.vm.findClass own = some m.cls) (hlink : (Cond.methodLink own index y).before args s = true) (hinst : (Cond.instanceMethod y).before args s = true) (hsel : (Cond.selects C y y).before args s = true)
    (hcode : (Cond.codeWith y bytes maxL ret hh).before args s = true) (hy : y.cls ≠ "java/lang/invoke/MethodHandle" ∧ y.cls ≠ "java/lang/invoke/VarHandle")
    {W9 : Nat} {Pre : Pt → Array Value → Prop} {Post : Pt → Array Value → Option Value → Pt → Prop} {PostX : Pt → Array Value → Addr → Pt → Prop} (hK : vx_Back l R p e below s args y 3 W9 Pre Post PostX)
    {b : Addr} {cellB : Cell} (hcell : T.heap[b]? = some cellB) (hobj : cellB.vm.isStatics = false) (hcls : s.vm.findClass C = some cellB.cls)
    {g : JFrame} (hg : g.method = m) (hsize : g.locals.size = c.maxLocals) {argsL rest : List Value} (hlen : ∀ sig, parseMethodDescriptor y.desc = some sig → argsL.length = sig.parameters.length)
    (hstack : g.stack = argsL.reverse ++ .ref b :: rest) (hW : 2 * g.monitorRoom + (rest.map fun v => v.category).sum ≤ W9) (hdg : decode c.code g.pc = .ok (.invokevirtual index, 3))
    (hpre : ∀ vm₁, s.WarmedH vm₁ → Pre ⟨T.setVm vm₁, locs, cells, slots⟩ (Value.ref b :: argsL).toArray) :
    (∃ (v : Option Value) (vm₁ : Vm) (B : Pt), s.WarmedH vm₁ ∧ Stand p l e R s m args below meth c B.U B.locs B.cells B.slots ∧ Post ⟨T.setVm vm₁, locs, cells, slots⟩ (Value.ref b :: argsL).toArray v B ∧
      ∀ target, Steps p.tables e below (B.U.setTop { g with pc := g.pc + 3, stack := v.toList ++ rest }) target → Steps p.tables e below (T.setTop g) target) ∨
    (∃ (q : Addr) (vm₁ : Vm) (B : Pt), s.WarmedH vm₁ ∧ Stand p l e R s m args below meth c B.U B.locs B.cells B.slots ∧ PostX ⟨T.setVm vm₁, locs, cells, slots⟩ (Value.ref b :: argsL).toArray q B ∧
      Steps p.tables e below (T.setTop g) ((B.U.setTop { g with stack := rest }).pushFrame (.throwing q))) := by
  obtain ⟨mk, methM, hnamed, hmethM, hstM, habM⟩ := Cond.instanceMethod_spec hinst
  obtain ⟨m8, methM', cM, hn8, hmethM', -, -, -, -, -, -, hsigM⟩ := Cond.codeWith_spec hcode
  cases Option.some.inj (hn8.symm.trans hnamed)
  cases hmethM.symm.trans hmethM'
  obtain ⟨c2, r2, m2, q1, q2, q3, q4, kP, hkP, hkPi⟩ := Cond.selects_spec hsel
  cases hcls.symm.trans q1
  cases (State.methodFound?_of_named hnamed hy).symm.trans q2
  cases hnamed.symm.trans q3
  have hselP : selectMethod e.platform s.vm cellB.cls mk = .method mk := by rw [Launch.admits_selectMethod X.admits]; exact q4
  obtain ⟨vm₁, X₁, hstep₁⟩ := X.invokevirtual hexec hown hlink hnamed hmethM hstM hkP hkPi hy (a := b) (cell := cellB) hcell
    (fun z h => by rw [h] at hobj; cases hobj) hselP hmethM habM hkP hkPi (g := g) hg (argsL := argsL) (rest := rest) (hlen _ hsigM) hstack hdg
  rcases hK m meth c ⟨T.setVm vm₁, locs, cells, slots⟩ { g with stack := rest } (.invokevirtual index) mk (Value.ref b :: argsL).toArray X₁ hg hsize hdg hW (X₁.named hnamed) (hpre vm₁ X₁.warmed) with ⟨v, B, X', hpost, hsteps⟩ | ⟨q, B, X', hpost, hsteps⟩
  · exact Or.inl ⟨v, vm₁, B, X₁.warmed, X', hpost, fun target h => hstep₁ _ fun acts => by rw [doInvoke_state]; exact hsteps.trans h⟩
  · exact Or.inr ⟨q, vm₁, B, X₁.warmed, X', hpost, hstep₁ _ fun acts => by rw [doInvoke_state]; exact hsteps⟩
theorem vx_callSX (X : Stand p l e R s m args below meth c T locs cells slots) (hexec : p.tables.exec = Jvm.exec) {own : String} {index : Nat} {y : MethodName} {bytes : ByteArray} {maxL : Nat} {ret : Option FieldType} {hh : List (Nat × Nat × Nat × Nat)}
    (hown : s.vm.findClass own = some m.cls) (hlink : (Cond.methodLink own index y).before args s = true) (hstat : (Cond.static y).before args s = true) (hinit : (Cond.initialized y.cls).before args s = true)
    (hcode : (Cond.codeWith y bytes maxL ret hh).before args s = true) (hy : y.cls ≠ "java/lang/invoke/MethodHandle" ∧ y.cls ≠ "java/lang/invoke/VarHandle")
    {W9 : Nat} {Pre : Pt → Array Value → Prop} {Post : Pt → Array Value → Option Value → Pt → Prop} {PostX : Pt → Array Value → Addr → Pt → Prop} (hK : vx_Back l R p e below s args y 3 W9 Pre Post PostX)
    {g : JFrame} (hg : g.method = m) (hsize : g.locals.size = c.maxLocals) {argsL rest : List Value} (hlen : ∀ sig, parseMethodDescriptor y.desc = some sig → argsL.length = sig.parameters.length)
    (hstack : g.stack = argsL.reverse ++ rest) (hW : 2 * g.monitorRoom + (rest.map fun v => v.category).sum ≤ W9) (hdg : decode c.code g.pc = .ok (.invokestatic index, 3))
    (hpre : ∀ vm₁, s.WarmedH vm₁ → Pre ⟨T.setVm vm₁, locs, cells, slots⟩ argsL.toArray) :
    (∃ (v : Option Value) (vm₁ : Vm) (B : Pt), s.WarmedH vm₁ ∧ Stand p l e R s m args below meth c B.U B.locs B.cells B.slots ∧ Post ⟨T.setVm vm₁, locs, cells, slots⟩ argsL.toArray v B ∧
      ∀ target, Steps p.tables e below (B.U.setTop { g with pc := g.pc + 3, stack := v.toList ++ rest }) target → Steps p.tables e below (T.setTop g) target) ∨
    (∃ (q : Addr) (vm₁ : Vm) (B : Pt), s.WarmedH vm₁ ∧ Stand p l e R s m args below meth c B.U B.locs B.cells B.slots ∧ PostX ⟨T.setVm vm₁, locs, cells, slots⟩ argsL.toArray q B ∧
      Steps p.tables e below (T.setTop g) ((B.U.setTop { g with stack := rest }).pushFrame (.throwing q))) := by
  obtain ⟨mk, methM, cM, hnamed, hmethM, -, -, -, -, -, -, hsigM⟩ := Cond.codeWith_spec hcode
  have hstatic : methM.isStatic = true := Cond.static_spec hnamed hmethM hstat
  obtain ⟨kP, hkP, -⟩ := className_of_methodNamed hnamed
  have hinitP : kP.init = .initialized := Cond.initialized_spec (findClass_of_methodNamed hnamed) hkP hinit
  obtain ⟨vm₁, X₁, hstep₁⟩ := X.invokestatic hexec hown hlink hnamed hmethM hstatic hkP hinitP hy (g := g) hg (argsL := argsL) (rest := rest) (hlen _ hsigM) hstack hdg
  rcases hK m meth c ⟨T.setVm vm₁, locs, cells, slots⟩ { g with stack := rest } (.invokestatic index) mk argsL.toArray X₁ hg hsize hdg hW (X₁.named hnamed) (hpre vm₁ X₁.warmed) with ⟨v, B, X', hpost, hsteps⟩ | ⟨q, B, X', hpost, hsteps⟩
  · exact Or.inl ⟨v, vm₁, B, X₁.warmed, X', hpost, fun target h => hstep₁ _ fun acts => by rw [doInvoke_state]; exact hsteps.trans h⟩
  · exact Or.inr ⟨q, vm₁, B, X₁.warmed, X', hpost, hstep₁ _ fun acts => by rw [doInvoke_state]; exact hsteps⟩
theorem vx_callVW (X : Stand p l e R s m args below meth c T locs cells slots) (hexec : p.tables.exec = Jvm.exec) {own C : String} {index : Nat} {y : MethodName} {bytes : ByteArray} {maxL : Nat} {ret : Option FieldType} {hh : List (Nat × Nat × Nat × Nat)}
    (hown : s.vm.findClass own = some m.cls) (hlink : (Cond.methodLink own index y).before args s = true) (hinst : (Cond.instanceMethod y).before args s = true) (hsel : (Cond.selects C y y).before args s = true)
    (hcode : (Cond.codeWith y bytes maxL ret hh).before args s = true) (hy : y.cls ≠ "java/lang/invoke/MethodHandle" ∧ y.cls ≠ "java/lang/invoke/VarHandle")
    {W9 : Nat} {Pre : Pt → Array Value → Prop} {Post : Pt → Array Value → Option Value → Pt → Prop} (hK : Back l R p e below s args y 3 W9 Pre Post)
    {b : Addr} {cellB : Cell} (hcell : T.heap[b]? = some cellB) (hobj : cellB.vm.isStatics = false) (hcls : s.vm.findClass C = some cellB.cls)
    {g : JFrame} (hg : g.method = m) (hsize : g.locals.size = c.maxLocals) {argsL rest : List Value} (hlen : ∀ sig, parseMethodDescriptor y.desc = some sig → argsL.length = sig.parameters.length)
    (hstack : g.stack = argsL.reverse ++ .ref b :: rest) (hW : 2 * g.monitorRoom + (rest.map fun v => v.category).sum ≤ W9) (hdg : decode c.code g.pc = .ok (.invokevirtual index, 3))
    (hpre : ∀ vm₁, s.WarmedH vm₁ → Pre ⟨T.setVm vm₁, locs, cells, slots⟩ (Value.ref b :: argsL).toArray) :
    ∃ (v : Option Value) (vm₁ : Vm) (B : Pt), s.WarmedH vm₁ ∧ Stand p l e R s m args below meth c B.U B.locs B.cells B.slots ∧ Post ⟨T.setVm vm₁, locs, cells, slots⟩ (Value.ref b :: argsL).toArray v B ∧
      ∀ target, Steps p.tables e below (B.U.setTop { g with pc := g.pc + 3, stack := v.toList ++ rest }) target → Steps p.tables e below (T.setTop g) target := by
  obtain ⟨mk, methM, hnamed, hmethM, hstM, habM⟩ := Cond.instanceMethod_spec hinst
  obtain ⟨m8, methM', cM, hn8, hmethM', -, -, -, -, -, -, hsigM⟩ := Cond.codeWith_spec hcode
  cases Option.some.inj (hn8.symm.trans hnamed)
  cases hmethM.symm.trans hmethM'
  obtain ⟨c2, r2, m2, q1, q2, q3, q4, kP, hkP, hkPi⟩ := Cond.selects_spec hsel
  cases hcls.symm.trans q1
  cases (State.methodFound?_of_named hnamed hy).symm.trans q2
  cases hnamed.symm.trans q3
  have hselP : selectMethod e.platform s.vm cellB.cls mk = .method mk := by rw [Launch.admits_selectMethod X.admits]; exact q4
  obtain ⟨vm₁, X₁, hstep₁⟩ := X.invokevirtual hexec hown hlink hnamed hmethM hstM hkP hkPi hy (a := b) (cell := cellB) hcell
    (fun z h => by rw [h] at hobj; cases hobj) hselP hmethM habM hkP hkPi (g := g) hg (argsL := argsL) (rest := rest) (hlen _ hsigM) hstack hdg
  obtain ⟨v, B, X', hpost, hsteps⟩ := hK m meth c ⟨T.setVm vm₁, locs, cells, slots⟩ { g with stack := rest } (.invokevirtual index) mk (Value.ref b :: argsL).toArray X₁ hg hsize hdg hW (X₁.named hnamed) (hpre vm₁ X₁.warmed)
  exact ⟨v, vm₁, B, X₁.warmed, X', hpost, fun target h => hstep₁ _ fun acts => by rw [doInvoke_state]; exact hsteps.trans h⟩
abbrev vx_CVW (R : Room) (s : State) (args : Array Value) (own C : String) (index : Nat) (y : MethodName) (bytes : ByteArray) (maxL : Nat) (ret : Option FieldType) (hh : List (Nat × Nat × Nat × Nat)) (ws : List Cond) (rm : Room) (mc ms n : Nat) : Prop :=
  (rm.cells = mc ∧ rm.slots = ms ∧ rm.frames + 1 ≤ R.frames ∧ 8 + (maxL + 11) + rm.locals ≤ R.locals ∧ (∀ w ∈ ws, ∀ (a' : Array Value) (U : State), s.WarmedH U.vm → w.before a' U = true) ∧ Cond.codeWith y bytes maxL ret hh ∈ ws) ∧
  (Cond.codeWith y bytes maxL ret hh).before args s = true ∧ (Cond.initialized y.cls).before args s = true ∧ (y.cls ≠ "java/lang/invoke/MethodHandle" ∧ y.cls ≠ "java/lang/invoke/VarHandle") ∧
  (∀ sig, parseMethodDescriptor y.desc = some sig → n = sig.parameters.length) ∧ (Cond.methodLink own index y).before args s = true ∧ (Cond.instanceMethod y).before args s = true ∧ (Cond.selects C y y).before args s = true
theorem vx_cwVW {own C : String} {index maxL mc ms : Nat} {y : MethodName} {bytes : ByteArray} {ret : Option FieldType} {hh : List (Nat × Nat × Nat × Nat)} {Ts ws ws' : List Cond} {rm : Room} (n : Nat) (ht : ∀ w ∈ Ts, w.before args s = true) (hT : GoodIn Ts (wsV own index C y ws)) (hw : ws = Cond.codeWith y bytes maxL ret hh :: ws') (hrc : rm.cells = mc) (hrs : rm.slots = ms)
    (hd : y.cls = C ∧ y.cls ≠ "java/lang/invoke/MethodHandle" ∧ y.cls ≠ "java/lang/invoke/VarHandle" ∧ (parseMethodDescriptor y.desc).map (fun d => d.parameters.length) = some n) (hR : rm.frames + 1 ≤ R.frames ∧ 8 + (maxL + 11) + rm.locals ≤ R.locals) :
    vx_CVW R s args own C index y bytes maxL ret hh ws rm mc ms n := by
  obtain ⟨hC, hd⟩ := hd
  subst hC
  have ok : ∀ w ∈ wsV own index y.cls y ws, w.before args s = true := fun w h => ht w (hT w h).1
  have hG : GoodIn Ts ws := fun w h => hT w (by unfold wsV; exact List.mem_append_right _ h)
  have hc : Cond.codeWith y bytes maxL ret hh ∈ ws := by rw [hw]; exact List.mem_cons_self
  refine ⟨⟨hrc, hrs, hR.1, hR.2, pay_in ht hG, hc⟩, ht _ (hG _ hc).1, ok _ (by simp [wsV]), ⟨hd.1, hd.2.1⟩, fun sig h => ?_, ok _ (by simp [wsV]), ok _ (by simp [wsV]), ok _ (by simp [wsV])⟩
  have h2 := hd.2.2
  rw [h] at h2
  exact (Option.some.inj h2).symm
theorem vx_runVW {y : MethodName} {bytes cc : ByteArray} {maxL nL mc ms n index : Nat} {ret : Option FieldType} {hh : List (Nat × Nat × Nat × Nat)} {ws : List Cond} {rm : Room} {Pc : Array Value → State → Prop} {Qc : Array Value → State → Outcome → State → Prop} {free : Addr → Prop} {Ts : List Cond} {own C : String} {b : Addr} {As rest : List Value} {g : JFrame}
    (S : CallFix p m c cc nL s args Ts own) (hM : Met l y ws rm Pc Qc mc ms free) (cw : vx_CVW R s args own C index y bytes maxL ret hh ws rm mc ms n) (hp : PreV s H C b Pc As)
    (hg : g.method = m) (hn : As.length = n) (hsize : g.locals.size = nL) (hstack : g.stack = As.reverse ++ .ref b :: rest) (hW : 2 * g.monitorRoom + (rest.map fun v => v.category).sum ≤ 8) (hdg : decode cc g.pc = .ok (.invokevirtual index, 3)) (hf : cells + mc ≤ R.cells ∧ slots + ms ≤ R.slots) :
    va_Run p l e R s m args below meth c H locs cells slots mc ms g rest (Qc (Value.ref b :: As).toArray) free := by
  obtain ⟨⟨hrc, hrs, hfr, hlo, hws, hcw⟩, hcode, hini, hy, hlen, hl, hin, hse⟩ := cw
  have hK : Back l R p e below s args y 3 8 (PreOf R mc ms Pc) (PostOf Qc mc ms free) := va_backW (hh := hh) (bytes := bytes) (maxL := maxL) (ret := ret) hM hp.1 hrc hrs hfr hlo hws hcw (fun a' U hW => word_at hW (Or.inl (by first | rfl | simp [Cond.onTables, Cond.keeps, Cond.steady])) hini)
  obtain ⟨hx, hb, hml, ho, -⟩ := S
  obtain ⟨-, ⟨cellB, hcB, hoB, hclB⟩, hPc⟩ := hp
  intro T hT X
  obtain ⟨v, vm₁, ⟨U', l2, c2, s2⟩, hW₁, X', ⟨g', mk, t, L, e1, e2, hq, h1, hL, h2, h3⟩, st⟩ := vx_callVW X hx (C := C) (hh := hh) (bytes := bytes) (maxL := maxL) (ret := ret) ho hl hin hse hcode hy hK (by rw [hT]; exact hcB) hoB hclB hg (hsize.trans hml.symm) (argsL := As) (rest := rest) (fun sig h => hn.trans (hlen sig h)) hstack hW (by rw [hb]; exact hdg)
    (fun vm₁ hW₁ => ⟨hf.1, hf.2, hPc (T.setVm vm₁) hT hW₁⟩)
  dsimp only [Pt.U, Pt.locs, Pt.cells, Pt.slots] at X' e1 e2 h1 h2 h3 st
  subst h1; subst h2; subst h3
  exact ⟨v, (T.setVm vm₁).calling g' mk (Value.ref b :: As).toArray, t, U', L, hT, X', hL, e1, e2, hq, st⟩
section
variable {y : MethodName} {bytes cc : ByteArray} {maxL nL mc ms n index : Nat} {ret : Option FieldType} {ws : List Cond} {rm : Room} {Pc : Array Value → State → Prop} {Qc : Array Value → State → Outcome → State → Prop} {XC : String → State → State → Prop} {free : Addr → Prop} {Ts : List Cond} {own C : String} {b : Addr} {As rest : List Value} {g : JFrame}
theorem vx_runVX {hh : List (Nat × Nat × Nat × Nat)} (S : CallFix p m c cc nL s args Ts own) (hM : vx_Met l y ws rm Pc Qc XC mc ms free) (cw : vx_CVW R s args own C index y bytes maxL ret hh ws rm mc ms n) (hp : PreV s H C b Pc As)
    (hg : g.method = m) (hn : As.length = n) (hsize : g.locals.size = nL) (hstack : g.stack = As.reverse ++ .ref b :: rest) (hW : 2 * g.monitorRoom + (rest.map fun v => v.category).sum ≤ 8) (hdg : decode cc g.pc = .ok (.invokevirtual index, 3)) (hf : cells + mc ≤ R.cells ∧ slots + ms ≤ R.slots) :
    vx_Run p l e R s m args below meth c H locs cells slots mc ms g rest (Qc (Value.ref b :: As).toArray) XC free := by
  obtain ⟨⟨hrc, hrs, hfr, hlo, hws, hcw⟩, hcode, hini, hy, hlen, hl, hin, hse⟩ := cw
  have hK : vx_Back l R p e below s args y 3 8 (PreOf R mc ms Pc) (PostOf Qc mc ms free) (vx_Post XC mc ms free) := vx_backW (hh := hh) (bytes := bytes) (maxL := maxL) (ret := ret) hM hp.1 hrc hrs hfr hlo hws hcw (fun a' U hW => word_at hW (Or.inl (by first | rfl | simp [Cond.onTables, Cond.keeps, Cond.steady])) hini)
  obtain ⟨hx, hb, hml, ho, -⟩ := S
  obtain ⟨-, ⟨cellB, hcB, hoB, hclB⟩, hPc⟩ := hp
  intro T hT X
  rcases vx_callVX X hx (C := C) (hh := hh) (bytes := bytes) (maxL := maxL) (ret := ret) ho hl hin hse hcode hy hK (by rw [hT]; exact hcB) hoB hclB hg (hsize.trans hml.symm) (argsL := As) (rest := rest) (fun sig h => hn.trans (hlen sig h)) hstack hW (by rw [hb]; exact hdg)
    (fun vm₁ hW₁ => ⟨hf.1, hf.2, hPc (T.setVm vm₁) hT hW₁⟩) with ⟨v, vm₁, ⟨U', l2, c2, s2⟩, hW₁, X', ⟨g', mk, t, L, e1, e2, hq, h1, hL, h2, h3⟩, st⟩ | ⟨q, vm₁, ⟨U', l2, c2, s2⟩, hW₁, X', ⟨g', mk, t, L, E, ce, e1, e2, hq, hce, hcv, hcl, h1, hL, h2, h3⟩, st⟩
  · dsimp only [Pt.U, Pt.locs, Pt.cells, Pt.slots] at X' e1 e2 h1 h2 h3 st
    subst h1; subst h2; subst h3
    exact Or.inl ⟨v, (T.setVm vm₁).calling g' mk (Value.ref b :: As).toArray, t, U', L, hT, X', hL, e1, e2, hq, st⟩
  · dsimp only [Pt.U, Pt.locs, Pt.cells, Pt.slots] at X' e1 e2 h1 h2 h3 st hcl
    subst h1; subst h2; subst h3
    exact Or.inr ⟨q, (T.setVm vm₁).calling g' mk (Value.ref b :: As).toArray, t, U', L, E, ce, hT, X', hL, e1, e2, hq, hce, hcv, vx_cls hW₁ hcl, st⟩
theorem vx_runSX {hh : List (Nat × Nat × Nat × Nat)} (S : CallFix p m c cc nL s args Ts own) (hM : vx_Met l y ws rm Pc Qc XC mc ms free) (cw : vx_CSW R s args own index y bytes maxL ret hh ws rm mc ms n) (hp : PreS s H Pc As)
    (hg : g.method = m) (hn : As.length = n) (hsize : g.locals.size = nL) (hstack : g.stack = As.reverse ++ rest) (hW : 2 * g.monitorRoom + (rest.map fun v => v.category).sum ≤ 8) (hdg : decode cc g.pc = .ok (.invokestatic index, 3)) (hf : cells + mc ≤ R.cells ∧ slots + ms ≤ R.slots) :
    vx_Run p l e R s m args below meth c H locs cells slots mc ms g rest (Qc As.toArray) XC free := by
  obtain ⟨⟨hrc, hrs, hfr, hlo, hws, hcw⟩, hcode, hini, hy, hlen, hl, hstt⟩ := cw
  have hK : vx_Back l R p e below s args y 3 8 (PreOf R mc ms Pc) (PostOf Qc mc ms free) (vx_Post XC mc ms free) := vx_backW (hh := hh) (bytes := bytes) (maxL := maxL) (ret := ret) hM hp.1 hrc hrs hfr hlo hws hcw (fun a' U hW => word_at hW (Or.inl (by first | rfl | simp [Cond.onTables, Cond.keeps, Cond.steady])) hini)
  obtain ⟨hx, hb, hml, ho, -⟩ := S
  intro T hT X
  rcases vx_callSX X hx (hh := hh) (bytes := bytes) (maxL := maxL) (ret := ret) ho hl hstt hini hcode hy hK hg (hsize.trans hml.symm) (argsL := As) (rest := rest) (fun sig h => hn.trans (hlen sig h)) hstack hW (by rw [hb]; exact hdg)
    (fun vm₁ hW₁ => ⟨hf.1, hf.2, hp.2 (T.setVm vm₁) hT hW₁⟩) with ⟨v, vm₁, ⟨U', l2, c2, s2⟩, hW₁, X', ⟨g', mk, t, L, e1, e2, hq, h1, hL, h2, h3⟩, st⟩ | ⟨q, vm₁, ⟨U', l2, c2, s2⟩, hW₁, X', ⟨g', mk, t, L, E, ce, e1, e2, hq, hce, hcv, hcl, h1, hL, h2, h3⟩, st⟩
  · dsimp only [Pt.U, Pt.locs, Pt.cells, Pt.slots] at X' e1 e2 h1 h2 h3 st
    subst h1; subst h2; subst h3
    exact Or.inl ⟨v, (T.setVm vm₁).calling g' mk As.toArray, t, U', L, hT, X', hL, e1, e2, hq, st⟩
  · dsimp only [Pt.U, Pt.locs, Pt.cells, Pt.slots] at X' e1 e2 h1 h2 h3 st hcl
    subst h1; subst h2; subst h3
    exact Or.inr ⟨q, (T.setVm vm₁).calling g' mk As.toArray, t, U', L, E, ce, hT, X', hL, e1, e2, hq, hce, hcv, vx_cls hW₁ hcl, st⟩
end
end VXH
theorem vx_ofWH {l : Launch} {y : MethodName} {ws ws' : List Cond} {rm : Room} {Pc : Array Value → State → Prop} {Qc : Array Value → State → Outcome → State → Prop} {XC : String → State → State → Prop} {mc ms : Nat} {free : Addr → Prop} {cc : ByteArray} {maxL : Nat} {ret : Option FieldType} {hh : List (Nat × Nat × Nat × Nat)}
    (hy : plainName y.cls = true) (hw : ws = Cond.codeWith y cc maxL ret hh :: ws')
    (body : ∀ p e s m args below meth c s₁, BodyLoose p l y (headSpec ws rm) cc maxL ret e s m args below meth c s₁ → c.maxLocals = maxL → Pc args s →
      W p l e (headSpec ws rm).room s m args below meth c s.heap [] 0 0 (vx_MQ below Qc XC args s mc ms free) (entryFrame m args maxL)) : vx_Met l y ws rm Pc Qc XC mc ms free := by
  refine MetFree.of_bodyS (code := cc) (maxLocals := maxL) (ret := ret) hy ?_ ?_
  · intro args s m h hn
    obtain ⟨m9, meth, c, hn9, h1, h2, h3, h4, -, h5, h6, -⟩ := Cond.codeWith_spec (atoms_spec (ws := ws) h _ (by rw [hw]; exact List.mem_cons_self))
    cases hn.symm.trans hn9
    exact ⟨meth, c, h1, h2, h3, h4, h5, h6⟩
  · intro p e s m args below meth c s₁ B hml hP _
    have hh0 : s₁.heap = s.heap := by rw [B.state]; rfl
    obtain ⟨t, a1, o, b1, b2, b3⟩ := body p e s m args below meth c s₁ B hml hP s₁ hh0 (Stand.of_body B)
    exact ⟨t, o, a1, b1, b2, b3⟩
/-! ===== END ===== -/

/-! ===== BEGIN printed: names, fields, word lists, decode rows ===== -/
def RX0 : String := "AgedAssets$Course"
def TX0 : u_T := fun k => match k with
  | 0 => ("AgedAssets$Course", "stretch", "LAgedAssets$Stretch;", true)
  | 1 => ("AgedAssets$Course", "method", "I", false)
  | 2 => ("AgedAssets$Course", "rate", "I", false)
  | 3 => ("AgedAssets$Course", "cost", "J", false)
  | 4 => ("AgedAssets$Course", "allowance", "J", false)
  | 5 => ("AgedAssets$Course", "reserve", "J", false)
  | 6 => ("AgedAssets$Course", "losses", "J", false)
  | 7 => ("AgedAssets$Course", "residual", "J", false)
  | 8 => ("AgedAssets$Course", "restOfLife", "I", false)
  | 9 => ("AgedAssets$Course", "held", "Z", false)
  | 10 => ("AgedAssets$Course", "gone", "Z", false)
  | 11 => ("AgedAssets$Course", "breached", "Z", false)
  | 12 => ("AgedAssets$Course", "chargedUnits", "J", false)
  | 13 => ("AgedAssets$Course", "lastCharge", "J", false)
  | _ => ("AgedAssets$Course", "allCharges", "J", false)
def tyX0 : Nat → FieldType := fun k => match k with
  | 0 => .object "AgedAssets$Stretch"
  | 1 => .int
  | 2 => .int
  | 3 => .long
  | 4 => .long
  | 5 => .long
  | 6 => .long
  | 7 => .long
  | 8 => .int
  | 9 => .boolean
  | 10 => .boolean
  | 11 => .boolean
  | 12 => .long
  | 13 => .long
  | _ => .long
abbrev wsX00 : List Cond := u_ws RX0 TX0 15
theorem nmX0 : ∀ a, a < 15 → ∀ b, b < 15 → a ≠ b → (TX0 a).2.1 ≠ (TX0 b).2.1 := by decide +kernel
theorem tyX0_ok : ∀ k, k < 15 → parseFieldDescriptor (TX0 k).2.2.1 = some (tyX0 k) := by decide +kernel
abbrev cX0_init : ByteArray := prog_2_method_1_code
def yX0_init : MethodName := ⟨RX0, "<init>", "()V"⟩
abbrev cX0_open : ByteArray := prog_2_method_2_code
def yX0_open : MethodName := ⟨RX0, "open", "(LAgedAssets$Part;)V"⟩
abbrev cX0_book : ByteArray := prog_2_method_3_code
def yX0_book : MethodName := ⟨RX0, "book", "()J"⟩
abbrev cX0_bookOrNone : ByteArray := prog_2_method_4_code
def yX0_bookOrNone : MethodName := ⟨RX0, "bookOrNone", "()J"⟩
abbrev cX0_meet : ByteArray := prog_2_method_5_code
def yX0_meet : MethodName := ⟨RX0, "meet", "(LAgedAssets$Event;J)V"⟩
abbrev cX0_chargeMonth : ByteArray := prog_2_method_6_code
def yX0_chargeMonth : MethodName := ⟨RX0, "chargeMonth", "(I)V"⟩
abbrev cX0_isBreach : ByteArray := prog_2_method_7_code
def yX0_isBreach : MethodName := ⟨RX0, "isBreach", "(LAgedAssets$Event;J)Z"⟩
abbrev cX0_apply : ByteArray := prog_2_method_8_code
def yX0_apply : MethodName := ⟨RX0, "apply", "(LAgedAssets$Event;)V"⟩
abbrev cX0_revalue : ByteArray := prog_2_method_9_code
def yX0_revalue : MethodName := ⟨RX0, "revalue", "(J)V"⟩
abbrev cX0_impair : ByteArray := prog_2_method_10_code
def yX0_impair : MethodName := ⟨RX0, "impair", "(J)V"⟩
abbrev cX0_lose : ByteArray := prog_2_method_11_code
def yX0_lose : MethodName := ⟨RX0, "lose", "(J)V"⟩
abbrev cX0_restore : ByteArray := prog_2_method_12_code
def yX0_restore : MethodName := ⟨RX0, "restore", "(J)V"⟩
abbrev cX0_sell : ByteArray := prog_2_method_13_code
def yX0_sell : MethodName := ⟨RX0, "sell", "(I)V"⟩
abbrev cX0_beginStretch : ByteArray := prog_2_method_14_code
def yX0_beginStretch : MethodName := ⟨RX0, "beginStretch", "()V"⟩
abbrev cX0_decliningCharge : ByteArray := prog_2_method_15_code
def yX0_decliningCharge : MethodName := ⟨RX0, "decliningCharge", "()J"⟩
def RX1 : String := "AgedAssets$Event"
def TX1 : u_T := fun k => match k with
  | 0 => ("AgedAssets$Event", "partNumber", "I", true)
  | 1 => ("AgedAssets$Event", "month", "I", true)
  | 2 => ("AgedAssets$Event", "kind", "I", true)
  | 3 => ("AgedAssets$Event", "amount", "J", true)
  | _ => ("AgedAssets$Event", "number", "I", true)
def tyX1 : Nat → FieldType := fun k => match k with
  | 0 => .int
  | 1 => .int
  | 2 => .int
  | 3 => .long
  | _ => .int
abbrev wsX10 : List Cond := u_ws RX1 TX1 5
theorem nmX1 : ∀ a, a < 5 → ∀ b, b < 5 → a ≠ b → (TX1 a).2.1 ≠ (TX1 b).2.1 := by decide +kernel
theorem tyX1_ok : ∀ k, k < 5 → parseFieldDescriptor (TX1 k).2.2.1 = some (tyX1 k) := by decide +kernel
abbrev cX1_init : ByteArray := prog_3_method_1_code
def yX1_init : MethodName := ⟨RX1, "<init>", "(IIIJI)V"⟩
def RX2 : String := "AgedAssets$Part"
def TX2 : u_T := fun k => match k with
  | 0 => ("AgedAssets$Part", "cost", "J", true)
  | 1 => ("AgedAssets$Part", "residual", "J", true)
  | 2 => ("AgedAssets$Part", "firstMonth", "I", true)
  | 3 => ("AgedAssets$Part", "life", "I", true)
  | 4 => ("AgedAssets$Part", "method", "I", true)
  | 5 => ("AgedAssets$Part", "rate", "I", true)
  | 6 => ("AgedAssets$Part", "unitsIn", "[I", true)
  | 7 => ("AgedAssets$Part", "eventIn", "[LAgedAssets$Event;", true)
  | 8 => ("AgedAssets$Part", "postedIn", "[J", true)
  | 9 => ("AgedAssets$Part", "eventCount", "I", false)
  | _ => ("AgedAssets$Part", "postedInAll", "J", false)
def tyX2 : Nat → FieldType := fun k => match k with
  | 0 => .long
  | 1 => .long
  | 2 => .int
  | 3 => .int
  | 4 => .int
  | 5 => .int
  | 6 => .array .int
  | 7 => .array (.object "AgedAssets$Event")
  | 8 => .array .long
  | 9 => .int
  | _ => .long
abbrev wsX20 : List Cond := u_ws RX2 TX2 11
theorem nmX2 : ∀ a, a < 11 → ∀ b, b < 11 → a ≠ b → (TX2 a).2.1 ≠ (TX2 b).2.1 := by decide +kernel
theorem tyX2_ok : ∀ k, k < 11 → parseFieldDescriptor (TX2 k).2.2.1 = some (tyX2 k) := by decide +kernel
abbrev cX2_init : ByteArray := prog_4_method_1_code
def yX2_init : MethodName := ⟨RX2, "<init>", "(JJIIII)V"⟩
def RX3 : String := "AgedAssets$Stretch"
def TX3 : u_T := fun k => match k with
  | 0 => ("AgedAssets$Stretch", "base", "J", false)
  | 1 => ("AgedAssets$Stretch", "length", "J", false)
  | 2 => ("AgedAssets$Stretch", "unitsLeft", "J", false)
  | 3 => ("AgedAssets$Stretch", "monthsCharged", "J", false)
  | 4 => ("AgedAssets$Stretch", "unitsCharged", "J", false)
  | _ => ("AgedAssets$Stretch", "charged", "J", false)
def tyX3 : Nat → FieldType := fun k => match k with
  | 0 => .long
  | 1 => .long
  | 2 => .long
  | 3 => .long
  | 4 => .long
  | _ => .long
abbrev wsX30 : List Cond := u_ws RX3 TX3 6
theorem nmX3 : ∀ a, a < 6 → ∀ b, b < 6 → a ≠ b → (TX3 a).2.1 ≠ (TX3 b).2.1 := by decide +kernel
theorem tyX3_ok : ∀ k, k < 6 → parseFieldDescriptor (TX3 k).2.2.1 = some (tyX3 k) := by decide +kernel
abbrev cX3_init : ByteArray := prog_5_method_1_code
def yX3_init : MethodName := ⟨RX3, "<init>", "()V"⟩
abbrev cX3_begin : ByteArray := prog_5_method_2_code
def yX3_begin : MethodName := ⟨RX3, "begin", "(JJJ)V"⟩
abbrev cX3_nextCharge : ByteArray := prog_5_method_3_code
def yX3_nextCharge : MethodName := ⟨RX3, "nextCharge", "(II)J"⟩
abbrev cX3_chargesTogether : ByteArray := prog_5_method_4_code
def yX3_chargesTogether : MethodName := ⟨RX3, "chargesTogether", "(I)J"⟩
abbrev cX3_sumUpTo : ByteArray := prog_5_method_5_code
def yX3_sumUpTo : MethodName := ⟨RX3, "sumUpTo", "(J)J"⟩
def RX4 : String := "AgedAssets"
def TX4 : u_T := fun k => match k with
  | 0 => ("AgedAssets", "partRow", "[LAgedAssets$Part;", true)
  | 1 => ("AgedAssets", "eventRow", "[LAgedAssets$Event;", true)
  | 2 => ("AgedAssets", "full", "LAgedAssets$Course;", true)
  | 3 => ("AgedAssets", "bare", "LAgedAssets$Course;", true)
  | 4 => ("AgedAssets", "partCount", "I", false)
  | 5 => ("AgedAssets", "eventCount", "I", false)
  | _ => ("AgedAssets", "monthCount", "I", false)
def tyX4 : Nat → FieldType := fun k => match k with
  | 0 => .array (.object "AgedAssets$Part")
  | 1 => .array (.object "AgedAssets$Event")
  | 2 => .object "AgedAssets$Course"
  | 3 => .object "AgedAssets$Course"
  | 4 => .int
  | 5 => .int
  | _ => .int
abbrev wsX40 : List Cond := u_ws RX4 TX4 7
theorem nmX4 : ∀ a, a < 7 → ∀ b, b < 7 → a ≠ b → (TX4 a).2.1 ≠ (TX4 b).2.1 := by decide +kernel
theorem tyX4_ok : ∀ k, k < 7 → parseFieldDescriptor (TX4 k).2.2.1 = some (tyX4 k) := by decide +kernel
abbrev cX4_init : ByteArray := prog_1_method_1_code
def yX4_init : MethodName := ⟨RX4, "<init>", "()V"⟩
abbrev cX4_part : ByteArray := prog_1_method_2_code
def yX4_part : MethodName := ⟨RX4, "part", "(JJIIII)I"⟩
abbrev cX4_units : ByteArray := prog_1_method_3_code
def yX4_units : MethodName := ⟨RX4, "units", "(III)I"⟩
abbrev cX4_event : ByteArray := prog_1_method_4_code
def yX4_event : MethodName := ⟨RX4, "event", "(IIIJI)I"⟩
abbrev cX4_strike : ByteArray := prog_1_method_5_code
def yX4_strike : MethodName := ⟨RX4, "strike", "(I)Z"⟩
abbrev cX4_told : ByteArray := prog_1_method_6_code
def yX4_told : MethodName := ⟨RX4, "told", "(II)I"⟩
abbrev cX4_value : ByteArray := prog_1_method_7_code
def yX4_value : MethodName := ⟨RX4, "value", "(III)J"⟩
abbrev cX4_charge : ByteArray := prog_1_method_8_code
def yX4_charge : MethodName := ⟨RX4, "charge", "(II)J"⟩
abbrev cX4_without : ByteArray := prog_1_method_9_code
def yX4_without : MethodName := ⟨RX4, "without", "(II)J"⟩
abbrev cX4_post : ByteArray := prog_1_method_10_code
def yX4_post : MethodName := ⟨RX4, "post", "()J"⟩
abbrev cX4_months : ByteArray := prog_1_method_11_code
def yX4_months : MethodName := ⟨RX4, "months", "()I"⟩
abbrev cX4_posted : ByteArray := prog_1_method_12_code
def yX4_posted : MethodName := ⟨RX4, "posted", "(II)J"⟩
abbrev cX4_total : ByteArray := prog_1_method_13_code
def yX4_total : MethodName := ⟨RX4, "total", "(I)J"⟩
abbrev cX4_parts : ByteArray := prog_1_method_14_code
def yX4_parts : MethodName := ⟨RX4, "parts", "()I"⟩
abbrev cX4_partOf : ByteArray := prog_1_method_15_code
def yX4_partOf : MethodName := ⟨RX4, "partOf", "(I)LAgedAssets$Part;"⟩
abbrev cX4_eventOf : ByteArray := prog_1_method_16_code
def yX4_eventOf : MethodName := ⟨RX4, "eventOf", "(I)LAgedAssets$Event;"⟩
abbrev cX4_hasBreach : ByteArray := prog_1_method_17_code
def yX4_hasBreach : MethodName := ⟨RX4, "hasBreach", "(LAgedAssets$Part;)Z"⟩
abbrev cX4_follow : ByteArray := prog_1_method_18_code
def yX4_follow : MethodName := ⟨RX4, "follow", "(LAgedAssets$Part;I)V"⟩
abbrev cX4_isWithin : ByteArray := prog_1_method_19_code
def yX4_isWithin : MethodName := ⟨RX4, "isWithin", "(JJJ)Z"⟩
abbrev cX4_isMonth : ByteArray := prog_1_method_20_code
def yX4_isMonth : MethodName := ⟨RX4, "isMonth", "(I)Z"⟩
abbrev cX4_isRateOf : ByteArray := prog_1_method_21_code
def yX4_isRateOf : MethodName := ⟨RX4, "isRateOf", "(II)Z"⟩
abbrev cX4_isEvent : ByteArray := prog_1_method_22_code
def yX4_isEvent : MethodName := ⟨RX4, "isEvent", "(IJI)Z"⟩
abbrev cX4_rounded : ByteArray := prog_1_method_23_code
def yX4_rounded : MethodName := ⟨RX4, "rounded", "(JJ)J"⟩
def RX5 : String := "AgedAssetsModel"
def TX5 : u_T := fun k => match k with
  | 0 => ("AgedAssetsModel", "code", "I", false)
  | 1 => ("AgedAssetsModel", "parts", "I", false)
  | 2 => ("AgedAssetsModel", "costs", "[J", true)
  | 3 => ("AgedAssetsModel", "residuals", "[J", true)
  | 4 => ("AgedAssetsModel", "firsts", "[I", true)
  | 5 => ("AgedAssetsModel", "lives", "[I", true)
  | 6 => ("AgedAssetsModel", "methods", "[I", true)
  | 7 => ("AgedAssetsModel", "rates", "[I", true)
  | 8 => ("AgedAssetsModel", "used", "[I", true)
  | 9 => ("AgedAssetsModel", "posted", "[J", true)
  | 10 => ("AgedAssetsModel", "months", "I", false)
  | 11 => ("AgedAssetsModel", "events", "I", false)
  | 12 => ("AgedAssetsModel", "of", "[I", true)
  | 13 => ("AgedAssetsModel", "when", "[I", true)
  | 14 => ("AgedAssetsModel", "kinds", "[I", true)
  | 15 => ("AgedAssetsModel", "amounts", "[J", true)
  | 16 => ("AgedAssetsModel", "numbers", "[I", true)
  | 17 => ("AgedAssetsModel", "cost", "J", false)
  | 18 => ("AgedAssetsModel", "allowance", "J", false)
  | 19 => ("AgedAssetsModel", "reserve", "J", false)
  | 20 => ("AgedAssetsModel", "losses", "J", false)
  | 21 => ("AgedAssetsModel", "residual", "J", false)
  | 22 => ("AgedAssetsModel", "rest", "I", false)
  | 23 => ("AgedAssetsModel", "held", "Z", false)
  | 24 => ("AgedAssetsModel", "gone", "Z", false)
  | 25 => ("AgedAssetsModel", "spent", "I", false)
  | 26 => ("AgedAssetsModel", "base", "J", false)
  | 27 => ("AgedAssetsModel", "length", "I", false)
  | 28 => ("AgedAssetsModel", "left", "I", false)
  | 29 => ("AgedAssetsModel", "charged", "I", false)
  | 30 => ("AgedAssetsModel", "stretchUnits", "I", false)
  | 31 => ("AgedAssetsModel", "done", "J", false)
  | 32 => ("AgedAssetsModel", "last", "J", false)
  | 33 => ("AgedAssetsModel", "sum", "J", false)
  | 34 => ("AgedAssetsModel", "before", "[J", true)
  | 35 => ("AgedAssetsModel", "behind", "[J", true)
  | _ => ("AgedAssetsModel", "bad", "I", false)
def tyX5 : Nat → FieldType := fun k => match k with
  | 0 => .int
  | 1 => .int
  | 2 => .array .long
  | 3 => .array .long
  | 4 => .array .int
  | 5 => .array .int
  | 6 => .array .int
  | 7 => .array .int
  | 8 => .array .int
  | 9 => .array .long
  | 10 => .int
  | 11 => .int
  | 12 => .array .int
  | 13 => .array .int
  | 14 => .array .int
  | 15 => .array .long
  | 16 => .array .int
  | 17 => .long
  | 18 => .long
  | 19 => .long
  | 20 => .long
  | 21 => .long
  | 22 => .int
  | 23 => .boolean
  | 24 => .boolean
  | 25 => .int
  | 26 => .long
  | 27 => .int
  | 28 => .int
  | 29 => .int
  | 30 => .int
  | 31 => .long
  | 32 => .long
  | 33 => .long
  | 34 => .array .long
  | 35 => .array .long
  | _ => .int
abbrev wsX50 : List Cond := u_ws RX5 TX5 37
theorem nmX5 : ∀ a, a < 37 → ∀ b, b < 37 → a ≠ b → (TX5 a).2.1 ≠ (TX5 b).2.1 := by decide +kernel
theorem tyX5_ok : ∀ k, k < 37 → parseFieldDescriptor (TX5 k).2.2.1 = some (tyX5 k) := by decide +kernel
abbrev cX5_init : ByteArray := prog_7_method_1_code
def yX5_init : MethodName := ⟨RX5, "<init>", "()V"⟩
abbrev cX5_thrown : ByteArray := prog_7_method_2_code
def yX5_thrown : MethodName := ⟨RX5, "thrown", "()I"⟩
abbrev cX5_isIn : ByteArray := prog_7_method_3_code
def yX5_isIn : MethodName := ⟨RX5, "isIn", "(JJJ)Z"⟩
abbrev cX5_rounded : ByteArray := prog_7_method_4_code
def yX5_rounded : MethodName := ⟨RX5, "rounded", "(JJ)J"⟩
abbrev cX5_isPart : ByteArray := prog_7_method_5_code
def yX5_isPart : MethodName := ⟨RX5, "isPart", "(I)Z"⟩
abbrev cX5_isMonth : ByteArray := prog_7_method_6_code
def yX5_isMonth : MethodName := ⟨RX5, "isMonth", "(I)Z"⟩
abbrev cX5_book : ByteArray := prog_7_method_7_code
def yX5_book : MethodName := ⟨RX5, "book", "()J"⟩
abbrev cX5_eventIn : ByteArray := prog_7_method_8_code
def yX5_eventIn : MethodName := ⟨RX5, "eventIn", "(II)I"⟩
abbrev cX5_stretch : ByteArray := prog_7_method_9_code
def yX5_stretch : MethodName := ⟨RX5, "stretch", "(I)V"⟩
abbrev cX5_fall : ByteArray := prog_7_method_10_code
def yX5_fall : MethodName := ⟨RX5, "fall", "(J)V"⟩
abbrev cX5_impairs : ByteArray := prog_7_method_11_code
def yX5_impairs : MethodName := ⟨RX5, "impairs", "(J)Z"⟩
abbrev cX5_restores : ByteArray := prog_7_method_12_code
def yX5_restores : MethodName := ⟨RX5, "restores", "(JI)Z"⟩
abbrev cX5_values : ByteArray := prog_7_method_13_code
def yX5_values : MethodName := ⟨RX5, "values", "(J)V"⟩
abbrev cX5_less : ByteArray := prog_7_method_14_code
def yX5_less : MethodName := ⟨RX5, "less", "(JI)J"⟩
abbrev cX5_sells : ByteArray := prog_7_method_15_code
def yX5_sells : MethodName := ⟨RX5, "sells", "(I)V"⟩
abbrev cX5_happens : ByteArray := prog_7_method_16_code
def yX5_happens : MethodName := ⟨RX5, "happens", "(II)Z"⟩
abbrev cX5_together : ByteArray := prog_7_method_17_code
def yX5_together : MethodName := ⟨RX5, "together", "(I)J"⟩
abbrev cX5_declining : ByteArray := prog_7_method_18_code
def yX5_declining : MethodName := ⟨RX5, "declining", "(II)J"⟩
abbrev cX5_writeOff : ByteArray := prog_7_method_19_code
def yX5_writeOff : MethodName := ⟨RX5, "writeOff", "(II)V"⟩
abbrev cX5_clear : ByteArray := prog_7_method_20_code
def yX5_clear : MethodName := ⟨RX5, "clear", "()V"⟩
abbrev cX5_go : ByteArray := prog_7_method_21_code
def yX5_go : MethodName := ⟨RX5, "go", "(IIZ)I"⟩
abbrev cX5_reckon : ByteArray := prog_7_method_22_code
def yX5_reckon : MethodName := ⟨RX5, "reckon", "(II)Z"⟩
abbrev cX5_part : ByteArray := prog_7_method_23_code
def yX5_part : MethodName := ⟨RX5, "part", "(JJIIII)I"⟩
abbrev cX5_units : ByteArray := prog_7_method_24_code
def yX5_units : MethodName := ⟨RX5, "units", "(III)I"⟩
abbrev cX5_countOf : ByteArray := prog_7_method_25_code
def yX5_countOf : MethodName := ⟨RX5, "countOf", "(I)I"⟩
abbrev cX5_event : ByteArray := prog_7_method_26_code
def yX5_event : MethodName := ⟨RX5, "event", "(IIIJI)I"⟩
abbrev cX5_isEvent : ByteArray := prog_7_method_27_code
def yX5_isEvent : MethodName := ⟨RX5, "isEvent", "(I)Z"⟩
abbrev cX5_strike : ByteArray := prog_7_method_28_code
def yX5_strike : MethodName := ⟨RX5, "strike", "(I)Z"⟩
abbrev cX5_told : ByteArray := prog_7_method_29_code
def yX5_told : MethodName := ⟨RX5, "told", "(II)I"⟩
abbrev cX5_value : ByteArray := prog_7_method_30_code
def yX5_value : MethodName := ⟨RX5, "value", "(III)J"⟩
abbrev cX5_charge : ByteArray := prog_7_method_31_code
def yX5_charge : MethodName := ⟨RX5, "charge", "(II)J"⟩
abbrev cX5_without : ByteArray := prog_7_method_32_code
def yX5_without : MethodName := ⟨RX5, "without", "(II)J"⟩
abbrev cX5_post : ByteArray := prog_7_method_33_code
def yX5_post : MethodName := ⟨RX5, "post", "()J"⟩
abbrev cX5_totalOf : ByteArray := prog_7_method_34_code
def yX5_totalOf : MethodName := ⟨RX5, "totalOf", "(I)J"⟩
abbrev cX5_months : ByteArray := prog_7_method_35_code
def yX5_months : MethodName := ⟨RX5, "months", "()I"⟩
abbrev cX5_posted : ByteArray := prog_7_method_36_code
def yX5_posted : MethodName := ⟨RX5, "posted", "(II)J"⟩
abbrev cX5_total : ByteArray := prog_7_method_37_code
def yX5_total : MethodName := ⟨RX5, "total", "(I)J"⟩
abbrev cX5_parts : ByteArray := prog_7_method_38_code
def yX5_parts : MethodName := ⟨RX5, "parts", "()I"⟩
def RJ9 : String := "java/lang/Math"
def TJ9 : u_T := fun k => match k with
  | _ => ("", "", "", false)
def tyJ9 : Nat → FieldType := fun k => match k with
  | _ => .int
abbrev wsJ90 : List Cond := u_ws RJ9 TJ9 0
theorem nmJ9 : ∀ a, a < 0 → ∀ b, b < 0 → a ≠ b → (TJ9 a).2.1 ≠ (TJ9 b).2.1 := by decide +kernel
theorem tyJ9_ok : ∀ k, k < 0 → parseFieldDescriptor (TJ9 k).2.2.1 = some (tyJ9 k) := by decide +kernel
abbrev cJ9_max_f86c9 : ByteArray := prog_11_method_66_code
def yJ9_max_f86c9 : MethodName := ⟨RJ9, "max", "(JJ)J"⟩
abbrev cJ9_min_f86c9 : ByteArray := prog_11_method_70_code
def yJ9_min_f86c9 : MethodName := ⟨RJ9, "min", "(JJ)J"⟩
def RJ0 : String := "java/lang/String"
def TJ0 : u_T := fun k => match k with
  | _ => ("", "", "", false)
def tyJ0 : Nat → FieldType := fun k => match k with
  | _ => .int
abbrev wsJ00 : List Cond := u_ws RJ0 TJ0 0
theorem nmJ0 : ∀ a, a < 0 → ∀ b, b < 0 → a ≠ b → (TJ0 a).2.1 ≠ (TJ0 b).2.1 := by decide +kernel
theorem tyJ0_ok : ∀ k, k < 0 → parseFieldDescriptor (TJ0 k).2.2.1 = some (tyJ0 k) := by decide +kernel
def RL : String := "AgedAssetsLaw"
abbrev cL_part : ByteArray := method_3_code
def yL_part : MethodName := ⟨RL, "part", "(LAgedAssets;JJIIII[J)I"⟩
abbrev cL_units : ByteArray := method_4_code
def yL_units : MethodName := ⟨RL, "units", "(LAgedAssets;III[J)I"⟩
abbrev cL_event : ByteArray := method_5_code
def yL_event : MethodName := ⟨RL, "event", "(LAgedAssets;IIIJI[J)I"⟩
abbrev cL_value : ByteArray := method_6_code
def yL_value : MethodName := ⟨RL, "value", "(LAgedAssets;III[J)I"⟩
abbrev cL_charge : ByteArray := method_7_code
def yL_charge : MethodName := ⟨RL, "charge", "(LAgedAssets;II[J)I"⟩
abbrev cL_without : ByteArray := method_8_code
def yL_without : MethodName := ⟨RL, "without", "(LAgedAssets;II[J)I"⟩
abbrev cL_post : ByteArray := method_9_code
def yL_post : MethodName := ⟨RL, "post", "(LAgedAssets;[J)I"⟩
abbrev cL_posted : ByteArray := method_10_code
def yL_posted : MethodName := ⟨RL, "posted", "(LAgedAssets;II[J)I"⟩
abbrev cL_total : ByteArray := method_11_code
def yL_total : MethodName := ⟨RL, "total", "(LAgedAssets;I[J)I"⟩
abbrev cL_law : ByteArray := code
def yL_law : MethodName := ⟨RL, "law", "([I)Z"⟩
def wsX3_init : List Cond := .code yX3_init cX3_init 1 none :: ([.methodLink RX3 3 objectInit, .instanceMethod objectInit, .code objectInit ⟨#[0xb1]⟩ 1 none])
def wsX0_init : List Cond := .code yX0_init cX0_init 1 none :: ([.methodLink RX0 3 objectInit, .instanceMethod objectInit, .code objectInit ⟨#[0xb1]⟩ 1 none, .classLink RX0 9 RX3, .instantiable RX3 6, .initialized RX3, .fieldLink RX0 12 "AgedAssets$Course" "stretch" "LAgedAssets$Stretch;", .instanceMethod yX3_init, .code yX3_init cX3_init 1 none, .methodLink RX3 3 objectInit] ++ wsX30 ++ wsX00)
def wsX0_book : List Cond := .code yX0_book cX0_book 1 (some .long) :: ([.fieldLink RX0 33 "AgedAssets$Course" "cost" "J", .fieldLink RX0 34 "AgedAssets$Course" "allowance" "J"] ++ wsX00)
def wsX3_begin : List Cond := .code yX3_begin cX3_begin 7 none :: ([.fieldLink RX3 9 "AgedAssets$Stretch" "base" "J", .fieldLink RX3 15 "AgedAssets$Stretch" "length" "J", .fieldLink RX3 18 "AgedAssets$Stretch" "unitsLeft" "J", .fieldLink RX3 21 "AgedAssets$Stretch" "monthsCharged" "J", .fieldLink RX3 24 "AgedAssets$Stretch" "unitsCharged" "J", .fieldLink RX3 27 "AgedAssets$Stretch" "charged" "J"] ++ wsX30)
def wsX0_beginStretch_r1 : List Cond := [Cond.fieldLink RX0 12 "AgedAssets$Course" "stretch" "LAgedAssets$Stretch;", Cond.fieldLink RX0 46 "AgedAssets$Course" "residual" "J", Cond.methodLink RX0 136 Lib.MathLoose.max_long.x, Cond.static Lib.MathLoose.max_long.x, Cond.initialized "java/lang/Math", Cond.code Lib.MathLoose.max_long.x Lib.MathLoose.max_long.code 4 (some .long), Cond.fieldLink RX0 50 "AgedAssets$Course" "restOfLife" "I", Cond.fieldLink RX0 28 "AgedAssets$Course" "rate" "I", Cond.fieldLink RX0 63 "AgedAssets$Course" "chargedUnits" "J", Cond.methodLink RX0 77 yX0_book, Cond.instanceMethod yX0_book, Cond.selects RX0 yX0_book yX0_book, Cond.initialized RX0, Cond.code yX0_book cX0_book 1 (some .long), Cond.fieldLink RX0 33 "AgedAssets$Course" "cost" "J", Cond.fieldLink RX0 34 "AgedAssets$Course" "allowance" "J", Cond.methodLink RX0 139 yX3_begin, Cond.instanceMethod yX3_begin, Cond.selects RX3 yX3_begin yX3_begin, Cond.initialized RX3, Cond.code yX3_begin cX3_begin 7 none, Cond.fieldLink RX3 9 "AgedAssets$Stretch" "base" "J", Cond.fieldLink RX3 15 "AgedAssets$Stretch" "length" "J", Cond.fieldLink RX3 18 "AgedAssets$Stretch" "unitsLeft" "J"]
def wsX0_beginStretch_r2 : List Cond := [Cond.fieldLink RX3 21 "AgedAssets$Stretch" "monthsCharged" "J", Cond.fieldLink RX3 24 "AgedAssets$Stretch" "unitsCharged" "J", Cond.fieldLink RX3 27 "AgedAssets$Stretch" "charged" "J"]
def wsX0_beginStretch : List Cond := .code yX0_beginStretch cX0_beginStretch 1 none :: ((wsX0_beginStretch_r1 ++ wsX0_beginStretch_r2) ++ wsX00 ++ wsX30)
def wsX0_open_r1 : List Cond := [Cond.fieldLink RX0 18 "AgedAssets$Part" "method" "I", Cond.fieldLink RX0 24 "AgedAssets$Course" "method" "I", Cond.fieldLink RX0 25 "AgedAssets$Part" "rate" "I", Cond.fieldLink RX0 28 "AgedAssets$Course" "rate" "I", Cond.fieldLink RX0 29 "AgedAssets$Part" "cost" "J", Cond.fieldLink RX0 33 "AgedAssets$Course" "cost" "J", Cond.fieldLink RX0 34 "AgedAssets$Course" "allowance" "J", Cond.fieldLink RX0 37 "AgedAssets$Course" "reserve" "J", Cond.fieldLink RX0 40 "AgedAssets$Course" "losses" "J", Cond.fieldLink RX0 43 "AgedAssets$Part" "residual" "J", Cond.fieldLink RX0 46 "AgedAssets$Course" "residual" "J", Cond.fieldLink RX0 47 "AgedAssets$Part" "life" "I", Cond.fieldLink RX0 50 "AgedAssets$Course" "restOfLife" "I", Cond.fieldLink RX0 53 "AgedAssets$Course" "held" "Z", Cond.fieldLink RX0 57 "AgedAssets$Course" "gone" "Z", Cond.fieldLink RX0 60 "AgedAssets$Course" "breached" "Z", Cond.fieldLink RX0 63 "AgedAssets$Course" "chargedUnits" "J", Cond.fieldLink RX0 66 "AgedAssets$Course" "lastCharge" "J", Cond.fieldLink RX0 69 "AgedAssets$Course" "allCharges" "J", Cond.methodLink RX0 72 yX0_beginStretch, Cond.instanceMethod yX0_beginStretch, Cond.selects RX0 yX0_beginStretch yX0_beginStretch, Cond.initialized RX0, Cond.code yX0_beginStretch cX0_beginStretch 1 none]
def wsX0_open_r2 : List Cond := [Cond.fieldLink RX0 12 "AgedAssets$Course" "stretch" "LAgedAssets$Stretch;", Cond.methodLink RX0 136 Lib.MathLoose.max_long.x, Cond.static Lib.MathLoose.max_long.x, Cond.initialized "java/lang/Math", Cond.code Lib.MathLoose.max_long.x Lib.MathLoose.max_long.code 4 (some .long), Cond.methodLink RX0 77 yX0_book, Cond.instanceMethod yX0_book, Cond.selects RX0 yX0_book yX0_book, Cond.code yX0_book cX0_book 1 (some .long), Cond.methodLink RX0 139 yX3_begin, Cond.instanceMethod yX3_begin, Cond.selects RX3 yX3_begin yX3_begin, Cond.initialized RX3, Cond.code yX3_begin cX3_begin 7 none, Cond.fieldLink RX3 9 "AgedAssets$Stretch" "base" "J", Cond.fieldLink RX3 15 "AgedAssets$Stretch" "length" "J", Cond.fieldLink RX3 18 "AgedAssets$Stretch" "unitsLeft" "J", Cond.fieldLink RX3 21 "AgedAssets$Stretch" "monthsCharged" "J", Cond.fieldLink RX3 24 "AgedAssets$Stretch" "unitsCharged" "J", Cond.fieldLink RX3 27 "AgedAssets$Stretch" "charged" "J"]
def wsX0_open : List Cond := .code yX0_open cX0_open 2 none :: ((wsX0_open_r1 ++ wsX0_open_r2) ++ wsX20 ++ wsX00 ++ wsX30)
def wsX0_bookOrNone : List Cond := .code yX0_bookOrNone cX0_bookOrNone 1 (some .long) :: ([.fieldLink RX0 60 "AgedAssets$Course" "breached" "Z", .constantLong RX0 75 (-1), .methodLink RX0 77 yX0_book, .instanceMethod yX0_book, .selects RX0 yX0_book yX0_book, .initialized RX0, .code yX0_book cX0_book 1 (some .long), .fieldLink RX0 33 "AgedAssets$Course" "cost" "J", .fieldLink RX0 34 "AgedAssets$Course" "allowance" "J"] ++ wsX00)
def wsX0_isBreach : List Cond := .code yX0_isBreach cX0_isBreach 4 (some .boolean) :: ([.fieldLink RX0 57 "AgedAssets$Course" "gone" "Z", .fieldLink RX0 53 "AgedAssets$Course" "held" "Z", .fieldLink RX0 89 "AgedAssets$Event" "kind" "I", .fieldLink RX0 50 "AgedAssets$Course" "restOfLife" "I", .fieldLink RX0 46 "AgedAssets$Course" "residual" "J", .fieldLink RX0 101 "AgedAssets$Event" "amount" "J", .fieldLink RX0 34 "AgedAssets$Course" "allowance" "J", .methodLink RX0 77 yX0_book, .instanceMethod yX0_book, .selects RX0 yX0_book yX0_book, .initialized RX0, .code yX0_book cX0_book 1 (some .long), .fieldLink RX0 33 "AgedAssets$Course" "cost" "J"] ++ wsX00 ++ wsX10)
def wsX0_lose : List Cond := .code yX0_lose cX0_lose 5 none :: ([.fieldLink RX0 37 "AgedAssets$Course" "reserve" "J", .methodLink RX0 124 Lib.MathLoose.min_long.x, .static Lib.MathLoose.min_long.x, .initialized "java/lang/Math", .code Lib.MathLoose.min_long.x Lib.MathLoose.min_long.code 4 (some .long), .fieldLink RX0 40 "AgedAssets$Course" "losses" "J"] ++ wsX00)
def wsX0_revalue : List Cond := .code yX0_revalue cX0_revalue 3 none :: ([.fieldLink RX0 37 "AgedAssets$Course" "reserve" "J", .fieldLink RX0 33 "AgedAssets$Course" "cost" "J", .fieldLink RX0 34 "AgedAssets$Course" "allowance" "J", .methodLink RX0 77 yX0_book, .instanceMethod yX0_book, .selects RX0 yX0_book yX0_book, .initialized RX0, .code yX0_book cX0_book 1 (some .long), .methodLink RX0 121 yX0_lose, .instanceMethod yX0_lose, .selects RX0 yX0_lose yX0_lose, .code yX0_lose cX0_lose 5 none, .methodLink RX0 124 Lib.MathLoose.min_long.x, .static Lib.MathLoose.min_long.x, .initialized "java/lang/Math", .code Lib.MathLoose.min_long.x Lib.MathLoose.min_long.code 4 (some .long), .fieldLink RX0 40 "AgedAssets$Course" "losses" "J"] ++ wsX00)
def wsX0_impair : List Cond := .code yX0_impair cX0_impair 3 none :: ([.fieldLink RX0 34 "AgedAssets$Course" "allowance" "J", .methodLink RX0 121 yX0_lose, .instanceMethod yX0_lose, .selects RX0 yX0_lose yX0_lose, .initialized RX0, .code yX0_lose cX0_lose 5 none, .fieldLink RX0 37 "AgedAssets$Course" "reserve" "J", .methodLink RX0 124 Lib.MathLoose.min_long.x, .static Lib.MathLoose.min_long.x, .initialized "java/lang/Math", .code Lib.MathLoose.min_long.x Lib.MathLoose.min_long.code 4 (some .long), .fieldLink RX0 40 "AgedAssets$Course" "losses" "J"] ++ wsX00)
def wsX0_restore : List Cond := .code yX0_restore cX0_restore 3 none :: ([.fieldLink RX0 34 "AgedAssets$Course" "allowance" "J", .fieldLink RX0 40 "AgedAssets$Course" "losses" "J", .methodLink RX0 124 Lib.MathLoose.min_long.x, .static Lib.MathLoose.min_long.x, .initialized "java/lang/Math", .code Lib.MathLoose.min_long.x Lib.MathLoose.min_long.code 4 (some .long)] ++ wsX00)
def wsX4_rounded : List Cond := .code yX4_rounded cX4_rounded 4 (some .long) :: ([.constantLong RX4 197 (2)])
def wsX0_sell : List Cond := .code yX0_sell cX0_sell 2 none :: ([.fieldLink RX0 33 "AgedAssets$Course" "cost" "J", .constantLong RX0 130 (1000000), .fieldLink RX0 34 "AgedAssets$Course" "allowance" "J", .fieldLink RX0 37 "AgedAssets$Course" "reserve" "J", .fieldLink RX0 46 "AgedAssets$Course" "residual" "J", .constant RX0 135 (1000000), .fieldLink RX0 57 "AgedAssets$Course" "gone" "Z", .static yX4_rounded, .initialized RX4, .code yX4_rounded cX4_rounded 4 (some .long), .constantLong RX4 197 (2)] ++ wsX00)
def wsX0_apply_r1 : List Cond := [Cond.fieldLink RX0 89 "AgedAssets$Event" "kind" "I", Cond.fieldLink RX0 33 "AgedAssets$Course" "cost" "J", Cond.fieldLink RX0 101 "AgedAssets$Event" "amount" "J", Cond.fieldLink RX0 46 "AgedAssets$Course" "residual" "J", Cond.fieldLink RX0 104 "AgedAssets$Event" "number" "I", Cond.fieldLink RX0 50 "AgedAssets$Course" "restOfLife" "I", Cond.fieldLink RX0 53 "AgedAssets$Course" "held" "Z", Cond.methodLink RX0 107 yX0_revalue, Cond.instanceMethod yX0_revalue, Cond.selects RX0 yX0_revalue yX0_revalue, Cond.initialized RX0, Cond.code yX0_revalue cX0_revalue 3 none, Cond.fieldLink RX0 37 "AgedAssets$Course" "reserve" "J", Cond.fieldLink RX0 34 "AgedAssets$Course" "allowance" "J", Cond.methodLink RX0 77 yX0_book, Cond.instanceMethod yX0_book, Cond.selects RX0 yX0_book yX0_book, Cond.code yX0_book cX0_book 1 (some .long), Cond.methodLink RX0 121 yX0_lose, Cond.instanceMethod yX0_lose, Cond.selects RX0 yX0_lose yX0_lose, Cond.code yX0_lose cX0_lose 5 none, Cond.methodLink RX0 124 Lib.MathLoose.min_long.x, Cond.static Lib.MathLoose.min_long.x]
def wsX0_apply_r2 : List Cond := [Cond.initialized "java/lang/Math", Cond.code Lib.MathLoose.min_long.x Lib.MathLoose.min_long.code 4 (some .long), Cond.fieldLink RX0 40 "AgedAssets$Course" "losses" "J", Cond.methodLink RX0 111 yX0_impair, Cond.instanceMethod yX0_impair, Cond.selects RX0 yX0_impair yX0_impair, Cond.code yX0_impair cX0_impair 3 none, Cond.methodLink RX0 114 yX0_restore, Cond.instanceMethod yX0_restore, Cond.selects RX0 yX0_restore yX0_restore, Cond.code yX0_restore cX0_restore 3 none, Cond.methodLink RX0 117 yX0_sell, Cond.instanceMethod yX0_sell, Cond.selects RX0 yX0_sell yX0_sell, Cond.code yX0_sell cX0_sell 2 none, Cond.constantLong RX0 130 (1000000), Cond.constant RX0 135 (1000000), Cond.fieldLink RX0 57 "AgedAssets$Course" "gone" "Z", Cond.static yX4_rounded, Cond.initialized RX4, Cond.code yX4_rounded cX4_rounded 4 (some .long), Cond.constantLong RX4 197 (2)]
def wsX0_apply : List Cond := .code yX0_apply cX0_apply 2 none :: ((wsX0_apply_r1 ++ wsX0_apply_r2) ++ wsX10 ++ wsX00)
def wsX0_meet_r1 : List Cond := [Cond.fieldLink RX0 60 "AgedAssets$Course" "breached" "Z", Cond.fieldLink RX0 89 "AgedAssets$Event" "kind" "I", Cond.methodLink RX0 81 yX0_isBreach, Cond.instanceMethod yX0_isBreach, Cond.selects RX0 yX0_isBreach yX0_isBreach, Cond.initialized RX0, Cond.code yX0_isBreach cX0_isBreach 4 (some .boolean), Cond.fieldLink RX0 57 "AgedAssets$Course" "gone" "Z", Cond.fieldLink RX0 53 "AgedAssets$Course" "held" "Z", Cond.fieldLink RX0 50 "AgedAssets$Course" "restOfLife" "I", Cond.fieldLink RX0 46 "AgedAssets$Course" "residual" "J", Cond.fieldLink RX0 101 "AgedAssets$Event" "amount" "J", Cond.fieldLink RX0 34 "AgedAssets$Course" "allowance" "J", Cond.methodLink RX0 77 yX0_book, Cond.instanceMethod yX0_book, Cond.selects RX0 yX0_book yX0_book, Cond.code yX0_book cX0_book 1 (some .long), Cond.fieldLink RX0 33 "AgedAssets$Course" "cost" "J", Cond.methodLink RX0 85 yX0_apply, Cond.instanceMethod yX0_apply, Cond.selects RX0 yX0_apply yX0_apply, Cond.code yX0_apply cX0_apply 2 none, Cond.fieldLink RX0 104 "AgedAssets$Event" "number" "I", Cond.methodLink RX0 107 yX0_revalue]
def wsX0_meet_r2 : List Cond := [Cond.instanceMethod yX0_revalue, Cond.selects RX0 yX0_revalue yX0_revalue, Cond.code yX0_revalue cX0_revalue 3 none, Cond.fieldLink RX0 37 "AgedAssets$Course" "reserve" "J", Cond.methodLink RX0 121 yX0_lose, Cond.instanceMethod yX0_lose, Cond.selects RX0 yX0_lose yX0_lose, Cond.code yX0_lose cX0_lose 5 none, Cond.methodLink RX0 124 Lib.MathLoose.min_long.x, Cond.static Lib.MathLoose.min_long.x, Cond.initialized "java/lang/Math", Cond.code Lib.MathLoose.min_long.x Lib.MathLoose.min_long.code 4 (some .long), Cond.fieldLink RX0 40 "AgedAssets$Course" "losses" "J", Cond.methodLink RX0 111 yX0_impair, Cond.instanceMethod yX0_impair, Cond.selects RX0 yX0_impair yX0_impair, Cond.code yX0_impair cX0_impair 3 none, Cond.methodLink RX0 114 yX0_restore, Cond.instanceMethod yX0_restore, Cond.selects RX0 yX0_restore yX0_restore, Cond.code yX0_restore cX0_restore 3 none, Cond.methodLink RX0 117 yX0_sell, Cond.instanceMethod yX0_sell, Cond.selects RX0 yX0_sell yX0_sell]
def wsX0_meet_r3 : List Cond := [Cond.code yX0_sell cX0_sell 2 none, Cond.constantLong RX0 130 (1000000), Cond.constant RX0 135 (1000000), Cond.static yX4_rounded, Cond.initialized RX4, Cond.code yX4_rounded cX4_rounded 4 (some .long), Cond.constantLong RX4 197 (2), Cond.methodLink RX0 72 yX0_beginStretch, Cond.instanceMethod yX0_beginStretch, Cond.selects RX0 yX0_beginStretch yX0_beginStretch, Cond.code yX0_beginStretch cX0_beginStretch 1 none, Cond.fieldLink RX0 12 "AgedAssets$Course" "stretch" "LAgedAssets$Stretch;", Cond.methodLink RX0 136 Lib.MathLoose.max_long.x, Cond.static Lib.MathLoose.max_long.x, Cond.code Lib.MathLoose.max_long.x Lib.MathLoose.max_long.code 4 (some .long), Cond.fieldLink RX0 28 "AgedAssets$Course" "rate" "I", Cond.fieldLink RX0 63 "AgedAssets$Course" "chargedUnits" "J", Cond.methodLink RX0 139 yX3_begin, Cond.instanceMethod yX3_begin, Cond.selects RX3 yX3_begin yX3_begin, Cond.initialized RX3, Cond.code yX3_begin cX3_begin 7 none, Cond.fieldLink RX3 9 "AgedAssets$Stretch" "base" "J", Cond.fieldLink RX3 15 "AgedAssets$Stretch" "length" "J"]
def wsX0_meet_r4 : List Cond := [Cond.fieldLink RX3 18 "AgedAssets$Stretch" "unitsLeft" "J", Cond.fieldLink RX3 21 "AgedAssets$Stretch" "monthsCharged" "J", Cond.fieldLink RX3 24 "AgedAssets$Stretch" "unitsCharged" "J", Cond.fieldLink RX3 27 "AgedAssets$Stretch" "charged" "J"]
def wsX0_meet : List Cond := .code yX0_meet cX0_meet 4 none :: ((wsX0_meet_r1 ++ (wsX0_meet_r2 ++ (wsX0_meet_r3 ++ wsX0_meet_r4))) ++ wsX00 ++ wsX10 ++ wsX30)
def wsX0_decliningCharge : List Cond := .code yX0_decliningCharge cX0_decliningCharge 7 (some .long) :: ([.fieldLink RX0 46 "AgedAssets$Course" "residual" "J", .fieldLink RX0 50 "AgedAssets$Course" "restOfLife" "I", .fieldLink RX0 28 "AgedAssets$Course" "rate" "I", .constantLong RX0 130 (1000000), .methodLink RX0 136 Lib.MathLoose.max_long.x, .static Lib.MathLoose.max_long.x, .initialized "java/lang/Math", .code Lib.MathLoose.max_long.x Lib.MathLoose.max_long.code 4 (some .long), .methodLink RX0 124 Lib.MathLoose.min_long.x, .static Lib.MathLoose.min_long.x, .code Lib.MathLoose.min_long.x Lib.MathLoose.min_long.code 4 (some .long), .methodLink RX0 77 yX0_book, .instanceMethod yX0_book, .selects RX0 yX0_book yX0_book, .initialized RX0, .code yX0_book cX0_book 1 (some .long), .fieldLink RX0 33 "AgedAssets$Course" "cost" "J", .fieldLink RX0 34 "AgedAssets$Course" "allowance" "J", .static yX4_rounded, .initialized RX4, .code yX4_rounded cX4_rounded 4 (some .long), .constantLong RX4 197 (2)] ++ wsX00)
def wsX3_sumUpTo : List Cond := .code yX3_sumUpTo cX3_sumUpTo 2 (some .long) :: ([.constantLong RX3 47 (2)])
def wsX3_chargesTogether : List Cond := .code yX3_chargesTogether cX3_chargesTogether 2 (some .long) :: ([.fieldLink RX3 9 "AgedAssets$Stretch" "base" "J", .fieldLink RX3 21 "AgedAssets$Stretch" "monthsCharged" "J", .fieldLink RX3 15 "AgedAssets$Stretch" "length" "J", .fieldLink RX3 18 "AgedAssets$Stretch" "unitsLeft" "J", .fieldLink RX3 24 "AgedAssets$Stretch" "unitsCharged" "J", .methodLink RX3 42 Lib.MathLoose.min_long.x, .static Lib.MathLoose.min_long.x, .initialized "java/lang/Math", .code Lib.MathLoose.min_long.x Lib.MathLoose.min_long.code 4 (some .long), .static yX4_rounded, .initialized RX4, .code yX4_rounded cX4_rounded 4 (some .long), .constantLong RX4 197 (2), .methodLink RX3 38 yX3_sumUpTo, .static yX3_sumUpTo, .initialized RX3, .code yX3_sumUpTo cX3_sumUpTo 2 (some .long), .constantLong RX3 47 (2)] ++ wsX30)
def wsX3_nextCharge : List Cond := .code yX3_nextCharge cX3_nextCharge 5 (some .long) :: ([.fieldLink RX3 21 "AgedAssets$Stretch" "monthsCharged" "J", .fieldLink RX3 24 "AgedAssets$Stretch" "unitsCharged" "J", .fieldLink RX3 27 "AgedAssets$Stretch" "charged" "J", .methodLink RX3 30 yX3_chargesTogether, .instanceMethod yX3_chargesTogether, .selects RX3 yX3_chargesTogether yX3_chargesTogether, .initialized RX3, .code yX3_chargesTogether cX3_chargesTogether 2 (some .long), .fieldLink RX3 9 "AgedAssets$Stretch" "base" "J", .fieldLink RX3 15 "AgedAssets$Stretch" "length" "J", .fieldLink RX3 18 "AgedAssets$Stretch" "unitsLeft" "J", .methodLink RX3 42 Lib.MathLoose.min_long.x, .static Lib.MathLoose.min_long.x, .initialized "java/lang/Math", .code Lib.MathLoose.min_long.x Lib.MathLoose.min_long.code 4 (some .long), .static yX4_rounded, .initialized RX4, .code yX4_rounded cX4_rounded 4 (some .long), .constantLong RX4 197 (2), .methodLink RX3 38 yX3_sumUpTo, .static yX3_sumUpTo, .code yX3_sumUpTo cX3_sumUpTo 2 (some .long), .constantLong RX3 47 (2)] ++ wsX30)
def wsX0_chargeMonth_r1 : List Cond := [Cond.fieldLink RX0 66 "AgedAssets$Course" "lastCharge" "J", Cond.fieldLink RX0 53 "AgedAssets$Course" "held" "Z", Cond.fieldLink RX0 57 "AgedAssets$Course" "gone" "Z", Cond.fieldLink RX0 50 "AgedAssets$Course" "restOfLife" "I", Cond.fieldLink RX0 24 "AgedAssets$Course" "method" "I", Cond.fieldLink RX0 12 "AgedAssets$Course" "stretch" "LAgedAssets$Stretch;", Cond.fieldLink RX0 63 "AgedAssets$Course" "chargedUnits" "J", Cond.fieldLink RX0 34 "AgedAssets$Course" "allowance" "J", Cond.fieldLink RX0 69 "AgedAssets$Course" "allCharges" "J", Cond.methodLink RX0 94 yX0_decliningCharge, Cond.instanceMethod yX0_decliningCharge, Cond.selects RX0 yX0_decliningCharge yX0_decliningCharge, Cond.initialized RX0, Cond.code yX0_decliningCharge cX0_decliningCharge 7 (some .long), Cond.fieldLink RX0 46 "AgedAssets$Course" "residual" "J", Cond.fieldLink RX0 28 "AgedAssets$Course" "rate" "I", Cond.constantLong RX0 130 (1000000), Cond.methodLink RX0 136 Lib.MathLoose.max_long.x, Cond.static Lib.MathLoose.max_long.x, Cond.initialized "java/lang/Math", Cond.code Lib.MathLoose.max_long.x Lib.MathLoose.max_long.code 4 (some .long), Cond.methodLink RX0 124 Lib.MathLoose.min_long.x, Cond.static Lib.MathLoose.min_long.x, Cond.code Lib.MathLoose.min_long.x Lib.MathLoose.min_long.code 4 (some .long)]
def wsX0_chargeMonth_r2 : List Cond := [Cond.methodLink RX0 77 yX0_book, Cond.instanceMethod yX0_book, Cond.selects RX0 yX0_book yX0_book, Cond.code yX0_book cX0_book 1 (some .long), Cond.fieldLink RX0 33 "AgedAssets$Course" "cost" "J", Cond.static yX4_rounded, Cond.initialized RX4, Cond.code yX4_rounded cX4_rounded 4 (some .long), Cond.constantLong RX4 197 (2), Cond.methodLink RX0 97 yX3_nextCharge, Cond.instanceMethod yX3_nextCharge, Cond.selects RX3 yX3_nextCharge yX3_nextCharge, Cond.initialized RX3, Cond.code yX3_nextCharge cX3_nextCharge 5 (some .long), Cond.fieldLink RX3 21 "AgedAssets$Stretch" "monthsCharged" "J", Cond.fieldLink RX3 24 "AgedAssets$Stretch" "unitsCharged" "J", Cond.fieldLink RX3 27 "AgedAssets$Stretch" "charged" "J", Cond.methodLink RX3 30 yX3_chargesTogether, Cond.instanceMethod yX3_chargesTogether, Cond.selects RX3 yX3_chargesTogether yX3_chargesTogether, Cond.code yX3_chargesTogether cX3_chargesTogether 2 (some .long), Cond.fieldLink RX3 9 "AgedAssets$Stretch" "base" "J", Cond.fieldLink RX3 15 "AgedAssets$Stretch" "length" "J", Cond.fieldLink RX3 18 "AgedAssets$Stretch" "unitsLeft" "J"]
def wsX0_chargeMonth_r3 : List Cond := [Cond.methodLink RX3 42 Lib.MathLoose.min_long.x, Cond.methodLink RX3 38 yX3_sumUpTo, Cond.static yX3_sumUpTo, Cond.code yX3_sumUpTo cX3_sumUpTo 2 (some .long), Cond.constantLong RX3 47 (2)]
def wsX0_chargeMonth : List Cond := .code yX0_chargeMonth cX0_chargeMonth 2 none :: ((wsX0_chargeMonth_r1 ++ (wsX0_chargeMonth_r2 ++ wsX0_chargeMonth_r3)) ++ wsX00 ++ wsX30)
def wsX1_init : List Cond := .code yX1_init cX1_init 7 none :: ([.methodLink RX1 1 objectInit, .instanceMethod objectInit, .code objectInit ⟨#[0xb1]⟩ 1 none, .fieldLink RX1 7 "AgedAssets$Event" "partNumber" "I", .fieldLink RX1 13 "AgedAssets$Event" "month" "I", .fieldLink RX1 16 "AgedAssets$Event" "kind" "I", .fieldLink RX1 19 "AgedAssets$Event" "amount" "J", .fieldLink RX1 23 "AgedAssets$Event" "number" "I"] ++ wsX10)
def wsX2_init : List Cond := .code yX2_init cX2_init 9 none :: ([.methodLink RX2 3 objectInit, .instanceMethod objectInit, .code objectInit ⟨#[0xb1]⟩ 1 none, .fieldLink RX2 9 "AgedAssets$Part" "cost" "J", .fieldLink RX2 15 "AgedAssets$Part" "residual" "J", .fieldLink RX2 18 "AgedAssets$Part" "firstMonth" "I", .fieldLink RX2 22 "AgedAssets$Part" "life" "I", .fieldLink RX2 25 "AgedAssets$Part" "method" "I", .fieldLink RX2 28 "AgedAssets$Part" "rate" "I", .arrayClass .int, .fieldLink RX2 31 "AgedAssets$Part" "unitsIn" "[I", .classLink RX2 35 RX1, .fieldLink RX2 37 "AgedAssets$Part" "eventIn" "[LAgedAssets$Event;", .arrayClass .long, .fieldLink RX2 41 "AgedAssets$Part" "postedIn" "[J"] ++ wsX20)
def wsX4_init : List Cond := .code yX4_init cX4_init 1 none :: ([.methodLink RX4 1 objectInit, .instanceMethod objectInit, .code objectInit ⟨#[0xb1]⟩ 1 none, .classLink RX4 9 RX2, .fieldLink RX4 11 "AgedAssets" "partRow" "[LAgedAssets$Part;", .classLink RX4 15 RX1, .fieldLink RX4 17 "AgedAssets" "eventRow" "[LAgedAssets$Event;", .classLink RX4 21 RX0, .instantiable RX0 15, .initialized RX0, .fieldLink RX4 24 "AgedAssets" "full" "LAgedAssets$Course;", .fieldLink RX4 28 "AgedAssets" "bare" "LAgedAssets$Course;", .methodLink RX4 23 yX0_init, .instanceMethod yX0_init, .code yX0_init cX0_init 1 none, .methodLink RX0 3 objectInit, .classLink RX0 9 RX3, .instantiable RX3 6, .initialized RX3, .fieldLink RX0 12 "AgedAssets$Course" "stretch" "LAgedAssets$Stretch;", .instanceMethod yX3_init, .code yX3_init cX3_init 1 none, .methodLink RX3 3 objectInit] ++ wsX40 ++ wsX00 ++ wsX30)
def wsX4_isWithin : List Cond := .code yX4_isWithin cX4_isWithin 6 (some .boolean) :: ([])
def wsX4_isMonth : List Cond := .code yX4_isMonth cX4_isMonth 1 (some .boolean) :: ([])
def wsX4_isRateOf : List Cond := .code yX4_isRateOf cX4_isRateOf 2 (some .boolean) :: ([.constantLong RX4 70 (1000000), .methodLink RX4 33 yX4_isWithin, .static yX4_isWithin, .initialized RX4, .code yX4_isWithin cX4_isWithin 6 (some .boolean)])
def wsX4_part_r1 : List Cond := [Cond.classLink RX4 47 "java/lang/IllegalArgumentException", Cond.initialized "java/lang/IllegalArgumentException", Cond.classLink RX4 58 "java/lang/IllegalStateException", Cond.initialized "java/lang/IllegalStateException", Cond.constantLong RX4 31 (1000000000), Cond.constantLong RX4 41 (36), Cond.fieldLink RX4 54 "AgedAssets" "partCount" "I", Cond.fieldLink RX4 11 "AgedAssets" "partRow" "[LAgedAssets$Part;", Cond.classLink RX4 9 RX2, Cond.instantiable RX2 11, Cond.initialized RX2, Cond.methodLink RX4 33 yX4_isWithin, Cond.static yX4_isWithin, Cond.initialized RX4, Cond.code yX4_isWithin cX4_isWithin 6 (some .boolean), Cond.methodLink RX4 37 yX4_isMonth, Cond.static yX4_isMonth, Cond.code yX4_isMonth cX4_isMonth 1 (some .boolean), Cond.methodLink RX4 43 yX4_isRateOf, Cond.static yX4_isRateOf, Cond.code yX4_isRateOf cX4_isRateOf 2 (some .boolean), Cond.constantLong RX4 70 (1000000), Cond.methodLink RX4 63 yX2_init, Cond.instanceMethod yX2_init]
def wsX4_part_r2 : List Cond := [Cond.code yX2_init cX2_init 9 none, Cond.methodLink RX2 3 objectInit, Cond.instanceMethod objectInit, Cond.code objectInit ⟨#[0xb1]⟩ 1 none, Cond.fieldLink RX2 9 "AgedAssets$Part" "cost" "J", Cond.fieldLink RX2 15 "AgedAssets$Part" "residual" "J", Cond.fieldLink RX2 18 "AgedAssets$Part" "firstMonth" "I", Cond.fieldLink RX2 22 "AgedAssets$Part" "life" "I", Cond.fieldLink RX2 25 "AgedAssets$Part" "method" "I", Cond.fieldLink RX2 28 "AgedAssets$Part" "rate" "I", Cond.arrayClass .int, Cond.fieldLink RX2 31 "AgedAssets$Part" "unitsIn" "[I", Cond.classLink RX2 35 RX1, Cond.fieldLink RX2 37 "AgedAssets$Part" "eventIn" "[LAgedAssets$Event;", Cond.arrayClass .long, Cond.fieldLink RX2 41 "AgedAssets$Part" "postedIn" "[J"]
def wsX4_part : List Cond := .code yX4_part cX4_part 11 (some .int) :: ((wsX4_part_r1 ++ wsX4_part_r2) ++ wsX40 ++ wsX20 ++ (vx_atS RX4 51 "java/lang/IllegalArgumentException" ["java/lang/RuntimeException", "java/lang/Exception"]).filter goodWord ++ (vx_atS RX4 62 "java/lang/IllegalStateException" ["java/lang/RuntimeException", "java/lang/Exception"]).filter goodWord)
def wsX4_partOf : List Cond := .code yX4_partOf cX4_partOf 2 (some (.object "AgedAssets$Part")) :: ([.fieldLink RX4 54 "AgedAssets" "partCount" "I", .fieldLink RX4 11 "AgedAssets" "partRow" "[LAgedAssets$Part;"] ++ wsX40)
def wsX4_follow_r1 : List Cond := [Cond.fieldLink RX4 24 "AgedAssets" "full" "LAgedAssets$Course;", Cond.fieldLink RX4 28 "AgedAssets" "bare" "LAgedAssets$Course;", Cond.fieldLink RX4 84 "AgedAssets$Part" "firstMonth" "I", Cond.fieldLink RX4 93 "AgedAssets$Part" "eventIn" "[LAgedAssets$Event;", Cond.fieldLink RX4 117 "AgedAssets$Event" "kind" "I", Cond.constantLong RX4 191 (-1), Cond.fieldLink RX4 74 "AgedAssets$Part" "unitsIn" "[I", Cond.methodLink RX4 183 yX0_open, Cond.instanceMethod yX0_open, Cond.selects RX0 yX0_open yX0_open, Cond.initialized RX0, Cond.code yX0_open cX0_open 2 none, Cond.fieldLink RX0 18 "AgedAssets$Part" "method" "I", Cond.fieldLink RX0 24 "AgedAssets$Course" "method" "I", Cond.fieldLink RX0 25 "AgedAssets$Part" "rate" "I", Cond.fieldLink RX0 28 "AgedAssets$Course" "rate" "I", Cond.fieldLink RX0 29 "AgedAssets$Part" "cost" "J", Cond.fieldLink RX0 33 "AgedAssets$Course" "cost" "J", Cond.fieldLink RX0 34 "AgedAssets$Course" "allowance" "J", Cond.fieldLink RX0 37 "AgedAssets$Course" "reserve" "J", Cond.fieldLink RX0 40 "AgedAssets$Course" "losses" "J", Cond.fieldLink RX0 43 "AgedAssets$Part" "residual" "J", Cond.fieldLink RX0 46 "AgedAssets$Course" "residual" "J", Cond.fieldLink RX0 47 "AgedAssets$Part" "life" "I"]
def wsX4_follow_r2 : List Cond := [Cond.fieldLink RX0 50 "AgedAssets$Course" "restOfLife" "I", Cond.fieldLink RX0 53 "AgedAssets$Course" "held" "Z", Cond.fieldLink RX0 57 "AgedAssets$Course" "gone" "Z", Cond.fieldLink RX0 60 "AgedAssets$Course" "breached" "Z", Cond.fieldLink RX0 63 "AgedAssets$Course" "chargedUnits" "J", Cond.fieldLink RX0 66 "AgedAssets$Course" "lastCharge" "J", Cond.fieldLink RX0 69 "AgedAssets$Course" "allCharges" "J", Cond.methodLink RX0 72 yX0_beginStretch, Cond.instanceMethod yX0_beginStretch, Cond.selects RX0 yX0_beginStretch yX0_beginStretch, Cond.code yX0_beginStretch cX0_beginStretch 1 none, Cond.fieldLink RX0 12 "AgedAssets$Course" "stretch" "LAgedAssets$Stretch;", Cond.methodLink RX0 136 Lib.MathLoose.max_long.x, Cond.static Lib.MathLoose.max_long.x, Cond.initialized "java/lang/Math", Cond.code Lib.MathLoose.max_long.x Lib.MathLoose.max_long.code 4 (some .long), Cond.methodLink RX0 77 yX0_book, Cond.instanceMethod yX0_book, Cond.selects RX0 yX0_book yX0_book, Cond.code yX0_book cX0_book 1 (some .long), Cond.methodLink RX0 139 yX3_begin, Cond.instanceMethod yX3_begin, Cond.selects RX3 yX3_begin yX3_begin, Cond.initialized RX3]
def wsX4_follow_r3 : List Cond := [Cond.code yX3_begin cX3_begin 7 none, Cond.fieldLink RX3 9 "AgedAssets$Stretch" "base" "J", Cond.fieldLink RX3 15 "AgedAssets$Stretch" "length" "J", Cond.fieldLink RX3 18 "AgedAssets$Stretch" "unitsLeft" "J", Cond.fieldLink RX3 21 "AgedAssets$Stretch" "monthsCharged" "J", Cond.fieldLink RX3 24 "AgedAssets$Stretch" "unitsCharged" "J", Cond.fieldLink RX3 27 "AgedAssets$Stretch" "charged" "J", Cond.methodLink RX4 159 yX0_bookOrNone, Cond.instanceMethod yX0_bookOrNone, Cond.selects RX0 yX0_bookOrNone yX0_bookOrNone, Cond.code yX0_bookOrNone cX0_bookOrNone 1 (some .long), Cond.constantLong RX0 75 (-1), Cond.methodLink RX4 187 yX0_meet, Cond.instanceMethod yX0_meet, Cond.selects RX0 yX0_meet yX0_meet, Cond.code yX0_meet cX0_meet 4 none, Cond.fieldLink RX0 89 "AgedAssets$Event" "kind" "I", Cond.methodLink RX0 81 yX0_isBreach, Cond.instanceMethod yX0_isBreach, Cond.selects RX0 yX0_isBreach yX0_isBreach, Cond.code yX0_isBreach cX0_isBreach 4 (some .boolean), Cond.fieldLink RX0 101 "AgedAssets$Event" "amount" "J", Cond.methodLink RX0 85 yX0_apply, Cond.instanceMethod yX0_apply]
def wsX4_follow_r4 : List Cond := [Cond.selects RX0 yX0_apply yX0_apply, Cond.code yX0_apply cX0_apply 2 none, Cond.fieldLink RX0 104 "AgedAssets$Event" "number" "I", Cond.methodLink RX0 107 yX0_revalue, Cond.instanceMethod yX0_revalue, Cond.selects RX0 yX0_revalue yX0_revalue, Cond.code yX0_revalue cX0_revalue 3 none, Cond.methodLink RX0 121 yX0_lose, Cond.instanceMethod yX0_lose, Cond.selects RX0 yX0_lose yX0_lose, Cond.code yX0_lose cX0_lose 5 none, Cond.methodLink RX0 124 Lib.MathLoose.min_long.x, Cond.static Lib.MathLoose.min_long.x, Cond.code Lib.MathLoose.min_long.x Lib.MathLoose.min_long.code 4 (some .long), Cond.methodLink RX0 111 yX0_impair, Cond.instanceMethod yX0_impair, Cond.selects RX0 yX0_impair yX0_impair, Cond.code yX0_impair cX0_impair 3 none, Cond.methodLink RX0 114 yX0_restore, Cond.instanceMethod yX0_restore, Cond.selects RX0 yX0_restore yX0_restore, Cond.code yX0_restore cX0_restore 3 none, Cond.methodLink RX0 117 yX0_sell, Cond.instanceMethod yX0_sell]
def wsX4_follow_r5 : List Cond := [Cond.selects RX0 yX0_sell yX0_sell, Cond.code yX0_sell cX0_sell 2 none, Cond.constantLong RX0 130 (1000000), Cond.constant RX0 135 (1000000), Cond.static yX4_rounded, Cond.initialized RX4, Cond.code yX4_rounded cX4_rounded 4 (some .long), Cond.constantLong RX4 197 (2), Cond.methodLink RX4 193 yX0_chargeMonth, Cond.instanceMethod yX0_chargeMonth, Cond.selects RX0 yX0_chargeMonth yX0_chargeMonth, Cond.code yX0_chargeMonth cX0_chargeMonth 2 none, Cond.methodLink RX0 94 yX0_decliningCharge, Cond.instanceMethod yX0_decliningCharge, Cond.selects RX0 yX0_decliningCharge yX0_decliningCharge, Cond.code yX0_decliningCharge cX0_decliningCharge 7 (some .long), Cond.methodLink RX0 97 yX3_nextCharge, Cond.instanceMethod yX3_nextCharge, Cond.selects RX3 yX3_nextCharge yX3_nextCharge, Cond.code yX3_nextCharge cX3_nextCharge 5 (some .long), Cond.methodLink RX3 30 yX3_chargesTogether, Cond.instanceMethod yX3_chargesTogether, Cond.selects RX3 yX3_chargesTogether yX3_chargesTogether, Cond.code yX3_chargesTogether cX3_chargesTogether 2 (some .long)]
def wsX4_follow_r6 : List Cond := [Cond.methodLink RX3 42 Lib.MathLoose.min_long.x, Cond.methodLink RX3 38 yX3_sumUpTo, Cond.static yX3_sumUpTo, Cond.code yX3_sumUpTo cX3_sumUpTo 2 (some .long), Cond.constantLong RX3 47 (2)]
def wsX4_follow : List Cond := .code yX4_follow cX4_follow 5 none :: ((wsX4_follow_r1 ++ (wsX4_follow_r2 ++ (wsX4_follow_r3 ++ (wsX4_follow_r4 ++ (wsX4_follow_r5 ++ wsX4_follow_r6))))) ++ wsX40 ++ wsX20 ++ wsX10 ++ wsX00 ++ wsX30)
def wsX4_hasBreach_r1 : List Cond := [Cond.fieldLink RX4 24 "AgedAssets" "full" "LAgedAssets$Course;", Cond.methodLink RX4 127 yX4_follow, Cond.instanceMethod yX4_follow, Cond.selects RX4 yX4_follow yX4_follow, Cond.initialized RX4, Cond.code yX4_follow cX4_follow 5 none, Cond.fieldLink RX4 28 "AgedAssets" "bare" "LAgedAssets$Course;", Cond.fieldLink RX4 84 "AgedAssets$Part" "firstMonth" "I", Cond.fieldLink RX4 93 "AgedAssets$Part" "eventIn" "[LAgedAssets$Event;", Cond.fieldLink RX4 117 "AgedAssets$Event" "kind" "I", Cond.constantLong RX4 191 (-1), Cond.fieldLink RX4 74 "AgedAssets$Part" "unitsIn" "[I", Cond.methodLink RX4 183 yX0_open, Cond.instanceMethod yX0_open, Cond.selects RX0 yX0_open yX0_open, Cond.initialized RX0, Cond.code yX0_open cX0_open 2 none, Cond.fieldLink RX0 18 "AgedAssets$Part" "method" "I", Cond.fieldLink RX0 24 "AgedAssets$Course" "method" "I", Cond.fieldLink RX0 25 "AgedAssets$Part" "rate" "I", Cond.fieldLink RX0 28 "AgedAssets$Course" "rate" "I", Cond.fieldLink RX0 29 "AgedAssets$Part" "cost" "J", Cond.fieldLink RX0 33 "AgedAssets$Course" "cost" "J", Cond.fieldLink RX0 34 "AgedAssets$Course" "allowance" "J"]
def wsX4_hasBreach_r2 : List Cond := [Cond.fieldLink RX0 37 "AgedAssets$Course" "reserve" "J", Cond.fieldLink RX0 40 "AgedAssets$Course" "losses" "J", Cond.fieldLink RX0 43 "AgedAssets$Part" "residual" "J", Cond.fieldLink RX0 46 "AgedAssets$Course" "residual" "J", Cond.fieldLink RX0 47 "AgedAssets$Part" "life" "I", Cond.fieldLink RX0 50 "AgedAssets$Course" "restOfLife" "I", Cond.fieldLink RX0 53 "AgedAssets$Course" "held" "Z", Cond.fieldLink RX0 57 "AgedAssets$Course" "gone" "Z", Cond.fieldLink RX0 60 "AgedAssets$Course" "breached" "Z", Cond.fieldLink RX0 63 "AgedAssets$Course" "chargedUnits" "J", Cond.fieldLink RX0 66 "AgedAssets$Course" "lastCharge" "J", Cond.fieldLink RX0 69 "AgedAssets$Course" "allCharges" "J", Cond.methodLink RX0 72 yX0_beginStretch, Cond.instanceMethod yX0_beginStretch, Cond.selects RX0 yX0_beginStretch yX0_beginStretch, Cond.code yX0_beginStretch cX0_beginStretch 1 none, Cond.fieldLink RX0 12 "AgedAssets$Course" "stretch" "LAgedAssets$Stretch;", Cond.methodLink RX0 136 Lib.MathLoose.max_long.x, Cond.static Lib.MathLoose.max_long.x, Cond.initialized "java/lang/Math", Cond.code Lib.MathLoose.max_long.x Lib.MathLoose.max_long.code 4 (some .long), Cond.methodLink RX0 77 yX0_book, Cond.instanceMethod yX0_book, Cond.selects RX0 yX0_book yX0_book]
def wsX4_hasBreach_r3 : List Cond := [Cond.code yX0_book cX0_book 1 (some .long), Cond.methodLink RX0 139 yX3_begin, Cond.instanceMethod yX3_begin, Cond.selects RX3 yX3_begin yX3_begin, Cond.initialized RX3, Cond.code yX3_begin cX3_begin 7 none, Cond.fieldLink RX3 9 "AgedAssets$Stretch" "base" "J", Cond.fieldLink RX3 15 "AgedAssets$Stretch" "length" "J", Cond.fieldLink RX3 18 "AgedAssets$Stretch" "unitsLeft" "J", Cond.fieldLink RX3 21 "AgedAssets$Stretch" "monthsCharged" "J", Cond.fieldLink RX3 24 "AgedAssets$Stretch" "unitsCharged" "J", Cond.fieldLink RX3 27 "AgedAssets$Stretch" "charged" "J", Cond.methodLink RX4 159 yX0_bookOrNone, Cond.instanceMethod yX0_bookOrNone, Cond.selects RX0 yX0_bookOrNone yX0_bookOrNone, Cond.code yX0_bookOrNone cX0_bookOrNone 1 (some .long), Cond.constantLong RX0 75 (-1), Cond.methodLink RX4 187 yX0_meet, Cond.instanceMethod yX0_meet, Cond.selects RX0 yX0_meet yX0_meet, Cond.code yX0_meet cX0_meet 4 none, Cond.fieldLink RX0 89 "AgedAssets$Event" "kind" "I", Cond.methodLink RX0 81 yX0_isBreach, Cond.instanceMethod yX0_isBreach]
def wsX4_hasBreach_r4 : List Cond := [Cond.selects RX0 yX0_isBreach yX0_isBreach, Cond.code yX0_isBreach cX0_isBreach 4 (some .boolean), Cond.fieldLink RX0 101 "AgedAssets$Event" "amount" "J", Cond.methodLink RX0 85 yX0_apply, Cond.instanceMethod yX0_apply, Cond.selects RX0 yX0_apply yX0_apply, Cond.code yX0_apply cX0_apply 2 none, Cond.fieldLink RX0 104 "AgedAssets$Event" "number" "I", Cond.methodLink RX0 107 yX0_revalue, Cond.instanceMethod yX0_revalue, Cond.selects RX0 yX0_revalue yX0_revalue, Cond.code yX0_revalue cX0_revalue 3 none, Cond.methodLink RX0 121 yX0_lose, Cond.instanceMethod yX0_lose, Cond.selects RX0 yX0_lose yX0_lose, Cond.code yX0_lose cX0_lose 5 none, Cond.methodLink RX0 124 Lib.MathLoose.min_long.x, Cond.static Lib.MathLoose.min_long.x, Cond.code Lib.MathLoose.min_long.x Lib.MathLoose.min_long.code 4 (some .long), Cond.methodLink RX0 111 yX0_impair, Cond.instanceMethod yX0_impair, Cond.selects RX0 yX0_impair yX0_impair, Cond.code yX0_impair cX0_impair 3 none, Cond.methodLink RX0 114 yX0_restore]
def wsX4_hasBreach_r5 : List Cond := [Cond.instanceMethod yX0_restore, Cond.selects RX0 yX0_restore yX0_restore, Cond.code yX0_restore cX0_restore 3 none, Cond.methodLink RX0 117 yX0_sell, Cond.instanceMethod yX0_sell, Cond.selects RX0 yX0_sell yX0_sell, Cond.code yX0_sell cX0_sell 2 none, Cond.constantLong RX0 130 (1000000), Cond.constant RX0 135 (1000000), Cond.static yX4_rounded, Cond.code yX4_rounded cX4_rounded 4 (some .long), Cond.constantLong RX4 197 (2), Cond.methodLink RX4 193 yX0_chargeMonth, Cond.instanceMethod yX0_chargeMonth, Cond.selects RX0 yX0_chargeMonth yX0_chargeMonth, Cond.code yX0_chargeMonth cX0_chargeMonth 2 none, Cond.methodLink RX0 94 yX0_decliningCharge, Cond.instanceMethod yX0_decliningCharge, Cond.selects RX0 yX0_decliningCharge yX0_decliningCharge, Cond.code yX0_decliningCharge cX0_decliningCharge 7 (some .long), Cond.methodLink RX0 97 yX3_nextCharge, Cond.instanceMethod yX3_nextCharge, Cond.selects RX3 yX3_nextCharge yX3_nextCharge, Cond.code yX3_nextCharge cX3_nextCharge 5 (some .long)]
def wsX4_hasBreach_r6 : List Cond := [Cond.methodLink RX3 30 yX3_chargesTogether, Cond.instanceMethod yX3_chargesTogether, Cond.selects RX3 yX3_chargesTogether yX3_chargesTogether, Cond.code yX3_chargesTogether cX3_chargesTogether 2 (some .long), Cond.methodLink RX3 42 Lib.MathLoose.min_long.x, Cond.methodLink RX3 38 yX3_sumUpTo, Cond.static yX3_sumUpTo, Cond.code yX3_sumUpTo cX3_sumUpTo 2 (some .long), Cond.constantLong RX3 47 (2)]
def wsX4_hasBreach : List Cond := .code yX4_hasBreach cX4_hasBreach 2 (some .boolean) :: ((wsX4_hasBreach_r1 ++ (wsX4_hasBreach_r2 ++ (wsX4_hasBreach_r3 ++ (wsX4_hasBreach_r4 ++ (wsX4_hasBreach_r5 ++ wsX4_hasBreach_r6))))) ++ wsX40 ++ wsX00 ++ wsX20 ++ wsX10 ++ wsX30)
def wsX4_units_r1 : List Cond := [Cond.classLink RX4 47 "java/lang/IllegalArgumentException", Cond.initialized "java/lang/IllegalArgumentException", Cond.classLink RX4 58 "java/lang/IllegalStateException", Cond.initialized "java/lang/IllegalStateException", Cond.constantLong RX4 70 (1000000), Cond.fieldLink RX4 74 "AgedAssets$Part" "unitsIn" "[I", Cond.methodLink RX4 66 yX4_partOf, Cond.instanceMethod yX4_partOf, Cond.selects RX4 yX4_partOf yX4_partOf, Cond.initialized RX4, Cond.code yX4_partOf cX4_partOf 2 (some (.object "AgedAssets$Part")), Cond.fieldLink RX4 54 "AgedAssets" "partCount" "I", Cond.fieldLink RX4 11 "AgedAssets" "partRow" "[LAgedAssets$Part;", Cond.methodLink RX4 37 yX4_isMonth, Cond.static yX4_isMonth, Cond.code yX4_isMonth cX4_isMonth 1 (some .boolean), Cond.methodLink RX4 33 yX4_isWithin, Cond.static yX4_isWithin, Cond.code yX4_isWithin cX4_isWithin 6 (some .boolean), Cond.methodLink RX4 78 yX4_hasBreach, Cond.instanceMethod yX4_hasBreach, Cond.selects RX4 yX4_hasBreach yX4_hasBreach, Cond.code yX4_hasBreach cX4_hasBreach 2 (some .boolean), Cond.fieldLink RX4 24 "AgedAssets" "full" "LAgedAssets$Course;"]
def wsX4_units_r2 : List Cond := [Cond.methodLink RX4 127 yX4_follow, Cond.instanceMethod yX4_follow, Cond.selects RX4 yX4_follow yX4_follow, Cond.code yX4_follow cX4_follow 5 none, Cond.fieldLink RX4 28 "AgedAssets" "bare" "LAgedAssets$Course;", Cond.fieldLink RX4 84 "AgedAssets$Part" "firstMonth" "I", Cond.fieldLink RX4 93 "AgedAssets$Part" "eventIn" "[LAgedAssets$Event;", Cond.fieldLink RX4 117 "AgedAssets$Event" "kind" "I", Cond.constantLong RX4 191 (-1), Cond.methodLink RX4 183 yX0_open, Cond.instanceMethod yX0_open, Cond.selects RX0 yX0_open yX0_open, Cond.initialized RX0, Cond.code yX0_open cX0_open 2 none, Cond.fieldLink RX0 18 "AgedAssets$Part" "method" "I", Cond.fieldLink RX0 24 "AgedAssets$Course" "method" "I", Cond.fieldLink RX0 25 "AgedAssets$Part" "rate" "I", Cond.fieldLink RX0 28 "AgedAssets$Course" "rate" "I", Cond.fieldLink RX0 29 "AgedAssets$Part" "cost" "J", Cond.fieldLink RX0 33 "AgedAssets$Course" "cost" "J", Cond.fieldLink RX0 34 "AgedAssets$Course" "allowance" "J", Cond.fieldLink RX0 37 "AgedAssets$Course" "reserve" "J", Cond.fieldLink RX0 40 "AgedAssets$Course" "losses" "J", Cond.fieldLink RX0 43 "AgedAssets$Part" "residual" "J"]
def wsX4_units_r3 : List Cond := [Cond.fieldLink RX0 46 "AgedAssets$Course" "residual" "J", Cond.fieldLink RX0 47 "AgedAssets$Part" "life" "I", Cond.fieldLink RX0 50 "AgedAssets$Course" "restOfLife" "I", Cond.fieldLink RX0 53 "AgedAssets$Course" "held" "Z", Cond.fieldLink RX0 57 "AgedAssets$Course" "gone" "Z", Cond.fieldLink RX0 60 "AgedAssets$Course" "breached" "Z", Cond.fieldLink RX0 63 "AgedAssets$Course" "chargedUnits" "J", Cond.fieldLink RX0 66 "AgedAssets$Course" "lastCharge" "J", Cond.fieldLink RX0 69 "AgedAssets$Course" "allCharges" "J", Cond.methodLink RX0 72 yX0_beginStretch, Cond.instanceMethod yX0_beginStretch, Cond.selects RX0 yX0_beginStretch yX0_beginStretch, Cond.code yX0_beginStretch cX0_beginStretch 1 none, Cond.fieldLink RX0 12 "AgedAssets$Course" "stretch" "LAgedAssets$Stretch;", Cond.methodLink RX0 136 Lib.MathLoose.max_long.x, Cond.static Lib.MathLoose.max_long.x, Cond.initialized "java/lang/Math", Cond.code Lib.MathLoose.max_long.x Lib.MathLoose.max_long.code 4 (some .long), Cond.methodLink RX0 77 yX0_book, Cond.instanceMethod yX0_book, Cond.selects RX0 yX0_book yX0_book, Cond.code yX0_book cX0_book 1 (some .long), Cond.methodLink RX0 139 yX3_begin, Cond.instanceMethod yX3_begin]
def wsX4_units_r4 : List Cond := [Cond.selects RX3 yX3_begin yX3_begin, Cond.initialized RX3, Cond.code yX3_begin cX3_begin 7 none, Cond.fieldLink RX3 9 "AgedAssets$Stretch" "base" "J", Cond.fieldLink RX3 15 "AgedAssets$Stretch" "length" "J", Cond.fieldLink RX3 18 "AgedAssets$Stretch" "unitsLeft" "J", Cond.fieldLink RX3 21 "AgedAssets$Stretch" "monthsCharged" "J", Cond.fieldLink RX3 24 "AgedAssets$Stretch" "unitsCharged" "J", Cond.fieldLink RX3 27 "AgedAssets$Stretch" "charged" "J", Cond.methodLink RX4 159 yX0_bookOrNone, Cond.instanceMethod yX0_bookOrNone, Cond.selects RX0 yX0_bookOrNone yX0_bookOrNone, Cond.code yX0_bookOrNone cX0_bookOrNone 1 (some .long), Cond.constantLong RX0 75 (-1), Cond.methodLink RX4 187 yX0_meet, Cond.instanceMethod yX0_meet, Cond.selects RX0 yX0_meet yX0_meet, Cond.code yX0_meet cX0_meet 4 none, Cond.fieldLink RX0 89 "AgedAssets$Event" "kind" "I", Cond.methodLink RX0 81 yX0_isBreach, Cond.instanceMethod yX0_isBreach, Cond.selects RX0 yX0_isBreach yX0_isBreach, Cond.code yX0_isBreach cX0_isBreach 4 (some .boolean), Cond.fieldLink RX0 101 "AgedAssets$Event" "amount" "J"]
def wsX4_units_r5 : List Cond := [Cond.methodLink RX0 85 yX0_apply, Cond.instanceMethod yX0_apply, Cond.selects RX0 yX0_apply yX0_apply, Cond.code yX0_apply cX0_apply 2 none, Cond.fieldLink RX0 104 "AgedAssets$Event" "number" "I", Cond.methodLink RX0 107 yX0_revalue, Cond.instanceMethod yX0_revalue, Cond.selects RX0 yX0_revalue yX0_revalue, Cond.code yX0_revalue cX0_revalue 3 none, Cond.methodLink RX0 121 yX0_lose, Cond.instanceMethod yX0_lose, Cond.selects RX0 yX0_lose yX0_lose, Cond.code yX0_lose cX0_lose 5 none, Cond.methodLink RX0 124 Lib.MathLoose.min_long.x, Cond.static Lib.MathLoose.min_long.x, Cond.code Lib.MathLoose.min_long.x Lib.MathLoose.min_long.code 4 (some .long), Cond.methodLink RX0 111 yX0_impair, Cond.instanceMethod yX0_impair, Cond.selects RX0 yX0_impair yX0_impair, Cond.code yX0_impair cX0_impair 3 none, Cond.methodLink RX0 114 yX0_restore, Cond.instanceMethod yX0_restore, Cond.selects RX0 yX0_restore yX0_restore, Cond.code yX0_restore cX0_restore 3 none]
def wsX4_units_r6 : List Cond := [Cond.methodLink RX0 117 yX0_sell, Cond.instanceMethod yX0_sell, Cond.selects RX0 yX0_sell yX0_sell, Cond.code yX0_sell cX0_sell 2 none, Cond.constantLong RX0 130 (1000000), Cond.constant RX0 135 (1000000), Cond.static yX4_rounded, Cond.code yX4_rounded cX4_rounded 4 (some .long), Cond.constantLong RX4 197 (2), Cond.methodLink RX4 193 yX0_chargeMonth, Cond.instanceMethod yX0_chargeMonth, Cond.selects RX0 yX0_chargeMonth yX0_chargeMonth, Cond.code yX0_chargeMonth cX0_chargeMonth 2 none, Cond.methodLink RX0 94 yX0_decliningCharge, Cond.instanceMethod yX0_decliningCharge, Cond.selects RX0 yX0_decliningCharge yX0_decliningCharge, Cond.code yX0_decliningCharge cX0_decliningCharge 7 (some .long), Cond.methodLink RX0 97 yX3_nextCharge, Cond.instanceMethod yX3_nextCharge, Cond.selects RX3 yX3_nextCharge yX3_nextCharge, Cond.code yX3_nextCharge cX3_nextCharge 5 (some .long), Cond.methodLink RX3 30 yX3_chargesTogether, Cond.instanceMethod yX3_chargesTogether, Cond.selects RX3 yX3_chargesTogether yX3_chargesTogether]
def wsX4_units_r7 : List Cond := [Cond.code yX3_chargesTogether cX3_chargesTogether 2 (some .long), Cond.methodLink RX3 42 Lib.MathLoose.min_long.x, Cond.methodLink RX3 38 yX3_sumUpTo, Cond.static yX3_sumUpTo, Cond.code yX3_sumUpTo cX3_sumUpTo 2 (some .long), Cond.constantLong RX3 47 (2)]
def wsX4_units : List Cond := .code yX4_units cX4_units 6 (some .int) :: ((wsX4_units_r1 ++ (wsX4_units_r2 ++ (wsX4_units_r3 ++ (wsX4_units_r4 ++ (wsX4_units_r5 ++ (wsX4_units_r6 ++ wsX4_units_r7)))))) ++ wsX20 ++ wsX40 ++ wsX00 ++ wsX10 ++ wsX30 ++ (vx_atS RX4 51 "java/lang/IllegalArgumentException" ["java/lang/RuntimeException", "java/lang/Exception"]).filter goodWord ++ (vx_atS RX4 62 "java/lang/IllegalStateException" ["java/lang/RuntimeException", "java/lang/Exception"]).filter goodWord)
def wsX4_isEvent : List Cond := .code yX4_isEvent cX4_isEvent 4 (some .boolean) :: ([.constantLong RX4 31 (1000000000), .constantLong RX4 41 (36), .constantLong RX4 70 (1000000), .methodLink RX4 33 yX4_isWithin, .static yX4_isWithin, .initialized RX4, .code yX4_isWithin cX4_isWithin 6 (some .boolean)])
def wsX4_event_r1 : List Cond := [Cond.classLink RX4 47 "java/lang/IllegalArgumentException", Cond.initialized "java/lang/IllegalArgumentException", Cond.classLink RX4 58 "java/lang/IllegalStateException", Cond.initialized "java/lang/IllegalStateException", Cond.fieldLink RX4 84 "AgedAssets$Part" "firstMonth" "I", Cond.fieldLink RX4 93 "AgedAssets$Part" "eventIn" "[LAgedAssets$Event;", Cond.fieldLink RX4 96 "AgedAssets$Part" "eventCount" "I", Cond.fieldLink RX4 99 "AgedAssets" "eventCount" "I", Cond.classLink RX4 15 RX1, Cond.instantiable RX1 5, Cond.initialized RX1, Cond.fieldLink RX4 17 "AgedAssets" "eventRow" "[LAgedAssets$Event;", Cond.methodLink RX4 66 yX4_partOf, Cond.instanceMethod yX4_partOf, Cond.selects RX4 yX4_partOf yX4_partOf, Cond.initialized RX4, Cond.code yX4_partOf cX4_partOf 2 (some (.object "AgedAssets$Part")), Cond.fieldLink RX4 54 "AgedAssets" "partCount" "I", Cond.fieldLink RX4 11 "AgedAssets" "partRow" "[LAgedAssets$Part;", Cond.methodLink RX4 37 yX4_isMonth, Cond.static yX4_isMonth, Cond.code yX4_isMonth cX4_isMonth 1 (some .boolean), Cond.methodLink RX4 87 yX4_isEvent, Cond.static yX4_isEvent]
def wsX4_event_r2 : List Cond := [Cond.code yX4_isEvent cX4_isEvent 4 (some .boolean), Cond.constantLong RX4 31 (1000000000), Cond.constantLong RX4 41 (36), Cond.constantLong RX4 70 (1000000), Cond.methodLink RX4 33 yX4_isWithin, Cond.static yX4_isWithin, Cond.code yX4_isWithin cX4_isWithin 6 (some .boolean), Cond.methodLink RX4 102 yX1_init, Cond.instanceMethod yX1_init, Cond.code yX1_init cX1_init 7 none, Cond.methodLink RX1 1 objectInit, Cond.instanceMethod objectInit, Cond.code objectInit ⟨#[0xb1]⟩ 1 none, Cond.fieldLink RX1 7 "AgedAssets$Event" "partNumber" "I", Cond.fieldLink RX1 13 "AgedAssets$Event" "month" "I", Cond.fieldLink RX1 16 "AgedAssets$Event" "kind" "I", Cond.fieldLink RX1 19 "AgedAssets$Event" "amount" "J", Cond.fieldLink RX1 23 "AgedAssets$Event" "number" "I", Cond.methodLink RX4 78 yX4_hasBreach, Cond.instanceMethod yX4_hasBreach, Cond.selects RX4 yX4_hasBreach yX4_hasBreach, Cond.code yX4_hasBreach cX4_hasBreach 2 (some .boolean), Cond.fieldLink RX4 24 "AgedAssets" "full" "LAgedAssets$Course;", Cond.methodLink RX4 127 yX4_follow]
def wsX4_event_r3 : List Cond := [Cond.instanceMethod yX4_follow, Cond.selects RX4 yX4_follow yX4_follow, Cond.code yX4_follow cX4_follow 5 none, Cond.fieldLink RX4 28 "AgedAssets" "bare" "LAgedAssets$Course;", Cond.fieldLink RX4 117 "AgedAssets$Event" "kind" "I", Cond.constantLong RX4 191 (-1), Cond.fieldLink RX4 74 "AgedAssets$Part" "unitsIn" "[I", Cond.methodLink RX4 183 yX0_open, Cond.instanceMethod yX0_open, Cond.selects RX0 yX0_open yX0_open, Cond.initialized RX0, Cond.code yX0_open cX0_open 2 none, Cond.fieldLink RX0 18 "AgedAssets$Part" "method" "I", Cond.fieldLink RX0 24 "AgedAssets$Course" "method" "I", Cond.fieldLink RX0 25 "AgedAssets$Part" "rate" "I", Cond.fieldLink RX0 28 "AgedAssets$Course" "rate" "I", Cond.fieldLink RX0 29 "AgedAssets$Part" "cost" "J", Cond.fieldLink RX0 33 "AgedAssets$Course" "cost" "J", Cond.fieldLink RX0 34 "AgedAssets$Course" "allowance" "J", Cond.fieldLink RX0 37 "AgedAssets$Course" "reserve" "J", Cond.fieldLink RX0 40 "AgedAssets$Course" "losses" "J", Cond.fieldLink RX0 43 "AgedAssets$Part" "residual" "J", Cond.fieldLink RX0 46 "AgedAssets$Course" "residual" "J", Cond.fieldLink RX0 47 "AgedAssets$Part" "life" "I"]
def wsX4_event_r4 : List Cond := [Cond.fieldLink RX0 50 "AgedAssets$Course" "restOfLife" "I", Cond.fieldLink RX0 53 "AgedAssets$Course" "held" "Z", Cond.fieldLink RX0 57 "AgedAssets$Course" "gone" "Z", Cond.fieldLink RX0 60 "AgedAssets$Course" "breached" "Z", Cond.fieldLink RX0 63 "AgedAssets$Course" "chargedUnits" "J", Cond.fieldLink RX0 66 "AgedAssets$Course" "lastCharge" "J", Cond.fieldLink RX0 69 "AgedAssets$Course" "allCharges" "J", Cond.methodLink RX0 72 yX0_beginStretch, Cond.instanceMethod yX0_beginStretch, Cond.selects RX0 yX0_beginStretch yX0_beginStretch, Cond.code yX0_beginStretch cX0_beginStretch 1 none, Cond.fieldLink RX0 12 "AgedAssets$Course" "stretch" "LAgedAssets$Stretch;", Cond.methodLink RX0 136 Lib.MathLoose.max_long.x, Cond.static Lib.MathLoose.max_long.x, Cond.initialized "java/lang/Math", Cond.code Lib.MathLoose.max_long.x Lib.MathLoose.max_long.code 4 (some .long), Cond.methodLink RX0 77 yX0_book, Cond.instanceMethod yX0_book, Cond.selects RX0 yX0_book yX0_book, Cond.code yX0_book cX0_book 1 (some .long), Cond.methodLink RX0 139 yX3_begin, Cond.instanceMethod yX3_begin, Cond.selects RX3 yX3_begin yX3_begin, Cond.initialized RX3]
def wsX4_event_r5 : List Cond := [Cond.code yX3_begin cX3_begin 7 none, Cond.fieldLink RX3 9 "AgedAssets$Stretch" "base" "J", Cond.fieldLink RX3 15 "AgedAssets$Stretch" "length" "J", Cond.fieldLink RX3 18 "AgedAssets$Stretch" "unitsLeft" "J", Cond.fieldLink RX3 21 "AgedAssets$Stretch" "monthsCharged" "J", Cond.fieldLink RX3 24 "AgedAssets$Stretch" "unitsCharged" "J", Cond.fieldLink RX3 27 "AgedAssets$Stretch" "charged" "J", Cond.methodLink RX4 159 yX0_bookOrNone, Cond.instanceMethod yX0_bookOrNone, Cond.selects RX0 yX0_bookOrNone yX0_bookOrNone, Cond.code yX0_bookOrNone cX0_bookOrNone 1 (some .long), Cond.constantLong RX0 75 (-1), Cond.methodLink RX4 187 yX0_meet, Cond.instanceMethod yX0_meet, Cond.selects RX0 yX0_meet yX0_meet, Cond.code yX0_meet cX0_meet 4 none, Cond.fieldLink RX0 89 "AgedAssets$Event" "kind" "I", Cond.methodLink RX0 81 yX0_isBreach, Cond.instanceMethod yX0_isBreach, Cond.selects RX0 yX0_isBreach yX0_isBreach, Cond.code yX0_isBreach cX0_isBreach 4 (some .boolean), Cond.fieldLink RX0 101 "AgedAssets$Event" "amount" "J", Cond.methodLink RX0 85 yX0_apply, Cond.instanceMethod yX0_apply]
def wsX4_event_r6 : List Cond := [Cond.selects RX0 yX0_apply yX0_apply, Cond.code yX0_apply cX0_apply 2 none, Cond.fieldLink RX0 104 "AgedAssets$Event" "number" "I", Cond.methodLink RX0 107 yX0_revalue, Cond.instanceMethod yX0_revalue, Cond.selects RX0 yX0_revalue yX0_revalue, Cond.code yX0_revalue cX0_revalue 3 none, Cond.methodLink RX0 121 yX0_lose, Cond.instanceMethod yX0_lose, Cond.selects RX0 yX0_lose yX0_lose, Cond.code yX0_lose cX0_lose 5 none, Cond.methodLink RX0 124 Lib.MathLoose.min_long.x, Cond.static Lib.MathLoose.min_long.x, Cond.code Lib.MathLoose.min_long.x Lib.MathLoose.min_long.code 4 (some .long), Cond.methodLink RX0 111 yX0_impair, Cond.instanceMethod yX0_impair, Cond.selects RX0 yX0_impair yX0_impair, Cond.code yX0_impair cX0_impair 3 none, Cond.methodLink RX0 114 yX0_restore, Cond.instanceMethod yX0_restore, Cond.selects RX0 yX0_restore yX0_restore, Cond.code yX0_restore cX0_restore 3 none, Cond.methodLink RX0 117 yX0_sell, Cond.instanceMethod yX0_sell]
def wsX4_event_r7 : List Cond := [Cond.selects RX0 yX0_sell yX0_sell, Cond.code yX0_sell cX0_sell 2 none, Cond.constantLong RX0 130 (1000000), Cond.constant RX0 135 (1000000), Cond.static yX4_rounded, Cond.code yX4_rounded cX4_rounded 4 (some .long), Cond.constantLong RX4 197 (2), Cond.methodLink RX4 193 yX0_chargeMonth, Cond.instanceMethod yX0_chargeMonth, Cond.selects RX0 yX0_chargeMonth yX0_chargeMonth, Cond.code yX0_chargeMonth cX0_chargeMonth 2 none, Cond.methodLink RX0 94 yX0_decliningCharge, Cond.instanceMethod yX0_decliningCharge, Cond.selects RX0 yX0_decliningCharge yX0_decliningCharge, Cond.code yX0_decliningCharge cX0_decliningCharge 7 (some .long), Cond.methodLink RX0 97 yX3_nextCharge, Cond.instanceMethod yX3_nextCharge, Cond.selects RX3 yX3_nextCharge yX3_nextCharge, Cond.code yX3_nextCharge cX3_nextCharge 5 (some .long), Cond.methodLink RX3 30 yX3_chargesTogether, Cond.instanceMethod yX3_chargesTogether, Cond.selects RX3 yX3_chargesTogether yX3_chargesTogether, Cond.code yX3_chargesTogether cX3_chargesTogether 2 (some .long), Cond.methodLink RX3 42 Lib.MathLoose.min_long.x]
def wsX4_event_r8 : List Cond := [Cond.methodLink RX3 38 yX3_sumUpTo, Cond.static yX3_sumUpTo, Cond.code yX3_sumUpTo cX3_sumUpTo 2 (some .long), Cond.constantLong RX3 47 (2)]
def wsX4_event : List Cond := .code yX4_event cX4_event 9 (some .int) :: ((wsX4_event_r1 ++ (wsX4_event_r2 ++ (wsX4_event_r3 ++ (wsX4_event_r4 ++ (wsX4_event_r5 ++ (wsX4_event_r6 ++ (wsX4_event_r7 ++ wsX4_event_r8))))))) ++ wsX20 ++ wsX40 ++ wsX10 ++ wsX00 ++ wsX30 ++ (vx_atS RX4 51 "java/lang/IllegalArgumentException" ["java/lang/RuntimeException", "java/lang/Exception"]).filter goodWord ++ (vx_atS RX4 62 "java/lang/IllegalStateException" ["java/lang/RuntimeException", "java/lang/Exception"]).filter goodWord)
def wsX4_eventOf : List Cond := .code yX4_eventOf cX4_eventOf 2 (some (.object "AgedAssets$Event")) :: ([.fieldLink RX4 99 "AgedAssets" "eventCount" "I", .fieldLink RX4 17 "AgedAssets" "eventRow" "[LAgedAssets$Event;"] ++ wsX40)
def wsX4_strike_r1 : List Cond := [Cond.fieldLink RX4 111 "AgedAssets$Event" "partNumber" "I", Cond.fieldLink RX4 93 "AgedAssets$Part" "eventIn" "[LAgedAssets$Event;", Cond.fieldLink RX4 114 "AgedAssets$Event" "month" "I", Cond.fieldLink RX4 96 "AgedAssets$Part" "eventCount" "I", Cond.fieldLink RX4 17 "AgedAssets" "eventRow" "[LAgedAssets$Event;", Cond.methodLink RX4 107 yX4_eventOf, Cond.instanceMethod yX4_eventOf, Cond.selects RX4 yX4_eventOf yX4_eventOf, Cond.initialized RX4, Cond.code yX4_eventOf cX4_eventOf 2 (some (.object "AgedAssets$Event")), Cond.fieldLink RX4 99 "AgedAssets" "eventCount" "I", Cond.methodLink RX4 66 yX4_partOf, Cond.instanceMethod yX4_partOf, Cond.selects RX4 yX4_partOf yX4_partOf, Cond.code yX4_partOf cX4_partOf 2 (some (.object "AgedAssets$Part")), Cond.fieldLink RX4 54 "AgedAssets" "partCount" "I", Cond.fieldLink RX4 11 "AgedAssets" "partRow" "[LAgedAssets$Part;", Cond.methodLink RX4 78 yX4_hasBreach, Cond.instanceMethod yX4_hasBreach, Cond.selects RX4 yX4_hasBreach yX4_hasBreach, Cond.code yX4_hasBreach cX4_hasBreach 2 (some .boolean), Cond.fieldLink RX4 24 "AgedAssets" "full" "LAgedAssets$Course;", Cond.methodLink RX4 127 yX4_follow, Cond.instanceMethod yX4_follow]
def wsX4_strike_r2 : List Cond := [Cond.selects RX4 yX4_follow yX4_follow, Cond.code yX4_follow cX4_follow 5 none, Cond.fieldLink RX4 28 "AgedAssets" "bare" "LAgedAssets$Course;", Cond.fieldLink RX4 84 "AgedAssets$Part" "firstMonth" "I", Cond.fieldLink RX4 117 "AgedAssets$Event" "kind" "I", Cond.constantLong RX4 191 (-1), Cond.fieldLink RX4 74 "AgedAssets$Part" "unitsIn" "[I", Cond.methodLink RX4 183 yX0_open, Cond.instanceMethod yX0_open, Cond.selects RX0 yX0_open yX0_open, Cond.initialized RX0, Cond.code yX0_open cX0_open 2 none, Cond.fieldLink RX0 18 "AgedAssets$Part" "method" "I", Cond.fieldLink RX0 24 "AgedAssets$Course" "method" "I", Cond.fieldLink RX0 25 "AgedAssets$Part" "rate" "I", Cond.fieldLink RX0 28 "AgedAssets$Course" "rate" "I", Cond.fieldLink RX0 29 "AgedAssets$Part" "cost" "J", Cond.fieldLink RX0 33 "AgedAssets$Course" "cost" "J", Cond.fieldLink RX0 34 "AgedAssets$Course" "allowance" "J", Cond.fieldLink RX0 37 "AgedAssets$Course" "reserve" "J", Cond.fieldLink RX0 40 "AgedAssets$Course" "losses" "J", Cond.fieldLink RX0 43 "AgedAssets$Part" "residual" "J", Cond.fieldLink RX0 46 "AgedAssets$Course" "residual" "J", Cond.fieldLink RX0 47 "AgedAssets$Part" "life" "I"]
def wsX4_strike_r3 : List Cond := [Cond.fieldLink RX0 50 "AgedAssets$Course" "restOfLife" "I", Cond.fieldLink RX0 53 "AgedAssets$Course" "held" "Z", Cond.fieldLink RX0 57 "AgedAssets$Course" "gone" "Z", Cond.fieldLink RX0 60 "AgedAssets$Course" "breached" "Z", Cond.fieldLink RX0 63 "AgedAssets$Course" "chargedUnits" "J", Cond.fieldLink RX0 66 "AgedAssets$Course" "lastCharge" "J", Cond.fieldLink RX0 69 "AgedAssets$Course" "allCharges" "J", Cond.methodLink RX0 72 yX0_beginStretch, Cond.instanceMethod yX0_beginStretch, Cond.selects RX0 yX0_beginStretch yX0_beginStretch, Cond.code yX0_beginStretch cX0_beginStretch 1 none, Cond.fieldLink RX0 12 "AgedAssets$Course" "stretch" "LAgedAssets$Stretch;", Cond.methodLink RX0 136 Lib.MathLoose.max_long.x, Cond.static Lib.MathLoose.max_long.x, Cond.initialized "java/lang/Math", Cond.code Lib.MathLoose.max_long.x Lib.MathLoose.max_long.code 4 (some .long), Cond.methodLink RX0 77 yX0_book, Cond.instanceMethod yX0_book, Cond.selects RX0 yX0_book yX0_book, Cond.code yX0_book cX0_book 1 (some .long), Cond.methodLink RX0 139 yX3_begin, Cond.instanceMethod yX3_begin, Cond.selects RX3 yX3_begin yX3_begin, Cond.initialized RX3]
def wsX4_strike_r4 : List Cond := [Cond.code yX3_begin cX3_begin 7 none, Cond.fieldLink RX3 9 "AgedAssets$Stretch" "base" "J", Cond.fieldLink RX3 15 "AgedAssets$Stretch" "length" "J", Cond.fieldLink RX3 18 "AgedAssets$Stretch" "unitsLeft" "J", Cond.fieldLink RX3 21 "AgedAssets$Stretch" "monthsCharged" "J", Cond.fieldLink RX3 24 "AgedAssets$Stretch" "unitsCharged" "J", Cond.fieldLink RX3 27 "AgedAssets$Stretch" "charged" "J", Cond.methodLink RX4 159 yX0_bookOrNone, Cond.instanceMethod yX0_bookOrNone, Cond.selects RX0 yX0_bookOrNone yX0_bookOrNone, Cond.code yX0_bookOrNone cX0_bookOrNone 1 (some .long), Cond.constantLong RX0 75 (-1), Cond.methodLink RX4 187 yX0_meet, Cond.instanceMethod yX0_meet, Cond.selects RX0 yX0_meet yX0_meet, Cond.code yX0_meet cX0_meet 4 none, Cond.fieldLink RX0 89 "AgedAssets$Event" "kind" "I", Cond.methodLink RX0 81 yX0_isBreach, Cond.instanceMethod yX0_isBreach, Cond.selects RX0 yX0_isBreach yX0_isBreach, Cond.code yX0_isBreach cX0_isBreach 4 (some .boolean), Cond.fieldLink RX0 101 "AgedAssets$Event" "amount" "J", Cond.methodLink RX0 85 yX0_apply, Cond.instanceMethod yX0_apply]
def wsX4_strike_r5 : List Cond := [Cond.selects RX0 yX0_apply yX0_apply, Cond.code yX0_apply cX0_apply 2 none, Cond.fieldLink RX0 104 "AgedAssets$Event" "number" "I", Cond.methodLink RX0 107 yX0_revalue, Cond.instanceMethod yX0_revalue, Cond.selects RX0 yX0_revalue yX0_revalue, Cond.code yX0_revalue cX0_revalue 3 none, Cond.methodLink RX0 121 yX0_lose, Cond.instanceMethod yX0_lose, Cond.selects RX0 yX0_lose yX0_lose, Cond.code yX0_lose cX0_lose 5 none, Cond.methodLink RX0 124 Lib.MathLoose.min_long.x, Cond.static Lib.MathLoose.min_long.x, Cond.code Lib.MathLoose.min_long.x Lib.MathLoose.min_long.code 4 (some .long), Cond.methodLink RX0 111 yX0_impair, Cond.instanceMethod yX0_impair, Cond.selects RX0 yX0_impair yX0_impair, Cond.code yX0_impair cX0_impair 3 none, Cond.methodLink RX0 114 yX0_restore, Cond.instanceMethod yX0_restore, Cond.selects RX0 yX0_restore yX0_restore, Cond.code yX0_restore cX0_restore 3 none, Cond.methodLink RX0 117 yX0_sell, Cond.instanceMethod yX0_sell]
def wsX4_strike_r6 : List Cond := [Cond.selects RX0 yX0_sell yX0_sell, Cond.code yX0_sell cX0_sell 2 none, Cond.constantLong RX0 130 (1000000), Cond.constant RX0 135 (1000000), Cond.static yX4_rounded, Cond.code yX4_rounded cX4_rounded 4 (some .long), Cond.constantLong RX4 197 (2), Cond.methodLink RX4 193 yX0_chargeMonth, Cond.instanceMethod yX0_chargeMonth, Cond.selects RX0 yX0_chargeMonth yX0_chargeMonth, Cond.code yX0_chargeMonth cX0_chargeMonth 2 none, Cond.methodLink RX0 94 yX0_decliningCharge, Cond.instanceMethod yX0_decliningCharge, Cond.selects RX0 yX0_decliningCharge yX0_decliningCharge, Cond.code yX0_decliningCharge cX0_decliningCharge 7 (some .long), Cond.methodLink RX0 97 yX3_nextCharge, Cond.instanceMethod yX3_nextCharge, Cond.selects RX3 yX3_nextCharge yX3_nextCharge, Cond.code yX3_nextCharge cX3_nextCharge 5 (some .long), Cond.methodLink RX3 30 yX3_chargesTogether, Cond.instanceMethod yX3_chargesTogether, Cond.selects RX3 yX3_chargesTogether yX3_chargesTogether, Cond.code yX3_chargesTogether cX3_chargesTogether 2 (some .long), Cond.methodLink RX3 42 Lib.MathLoose.min_long.x]
def wsX4_strike_r7 : List Cond := [Cond.methodLink RX3 38 yX3_sumUpTo, Cond.static yX3_sumUpTo, Cond.code yX3_sumUpTo cX3_sumUpTo 2 (some .long), Cond.constantLong RX3 47 (2)]
def wsX4_strike : List Cond := .code yX4_strike cX4_strike 4 (some .boolean) :: ((wsX4_strike_r1 ++ (wsX4_strike_r2 ++ (wsX4_strike_r3 ++ (wsX4_strike_r4 ++ (wsX4_strike_r5 ++ (wsX4_strike_r6 ++ wsX4_strike_r7)))))) ++ wsX10 ++ wsX20 ++ wsX40 ++ wsX00 ++ wsX30)
def wsX4_told : List Cond := .code yX4_told cX4_told 4 (some .int) :: ([.fieldLink RX4 111 "AgedAssets$Event" "partNumber" "I", .fieldLink RX4 114 "AgedAssets$Event" "month" "I", .fieldLink RX4 117 "AgedAssets$Event" "kind" "I", .fieldLink RX4 120 "AgedAssets$Event" "number" "I", .methodLink RX4 107 yX4_eventOf, .instanceMethod yX4_eventOf, .selects RX4 yX4_eventOf yX4_eventOf, .initialized RX4, .code yX4_eventOf cX4_eventOf 2 (some (.object "AgedAssets$Event")), .fieldLink RX4 99 "AgedAssets" "eventCount" "I", .fieldLink RX4 17 "AgedAssets" "eventRow" "[LAgedAssets$Event;"] ++ wsX10 ++ wsX40)
def wsX4_value_r1 : List Cond := [Cond.classLink RX4 47 "java/lang/IllegalArgumentException", Cond.initialized "java/lang/IllegalArgumentException", Cond.constantLong RX4 123 (6), Cond.fieldLink RX4 84 "AgedAssets$Part" "firstMonth" "I", Cond.fieldLink RX4 24 "AgedAssets" "full" "LAgedAssets$Course;", Cond.methodLink RX4 66 yX4_partOf, Cond.instanceMethod yX4_partOf, Cond.selects RX4 yX4_partOf yX4_partOf, Cond.initialized RX4, Cond.code yX4_partOf cX4_partOf 2 (some (.object "AgedAssets$Part")), Cond.fieldLink RX4 54 "AgedAssets" "partCount" "I", Cond.fieldLink RX4 11 "AgedAssets" "partRow" "[LAgedAssets$Part;", Cond.methodLink RX4 37 yX4_isMonth, Cond.static yX4_isMonth, Cond.code yX4_isMonth cX4_isMonth 1 (some .boolean), Cond.methodLink RX4 33 yX4_isWithin, Cond.static yX4_isWithin, Cond.code yX4_isWithin cX4_isWithin 6 (some .boolean), Cond.methodLink RX4 127 yX4_follow, Cond.instanceMethod yX4_follow, Cond.selects RX4 yX4_follow yX4_follow, Cond.code yX4_follow cX4_follow 5 none, Cond.fieldLink RX4 28 "AgedAssets" "bare" "LAgedAssets$Course;", Cond.fieldLink RX4 93 "AgedAssets$Part" "eventIn" "[LAgedAssets$Event;"]
def wsX4_value_r2 : List Cond := [Cond.fieldLink RX4 117 "AgedAssets$Event" "kind" "I", Cond.constantLong RX4 191 (-1), Cond.fieldLink RX4 74 "AgedAssets$Part" "unitsIn" "[I", Cond.methodLink RX4 183 yX0_open, Cond.instanceMethod yX0_open, Cond.selects RX0 yX0_open yX0_open, Cond.initialized RX0, Cond.code yX0_open cX0_open 2 none, Cond.fieldLink RX0 18 "AgedAssets$Part" "method" "I", Cond.fieldLink RX0 24 "AgedAssets$Course" "method" "I", Cond.fieldLink RX0 25 "AgedAssets$Part" "rate" "I", Cond.fieldLink RX0 28 "AgedAssets$Course" "rate" "I", Cond.fieldLink RX0 29 "AgedAssets$Part" "cost" "J", Cond.fieldLink RX0 33 "AgedAssets$Course" "cost" "J", Cond.fieldLink RX0 34 "AgedAssets$Course" "allowance" "J", Cond.fieldLink RX0 37 "AgedAssets$Course" "reserve" "J", Cond.fieldLink RX0 40 "AgedAssets$Course" "losses" "J", Cond.fieldLink RX0 43 "AgedAssets$Part" "residual" "J", Cond.fieldLink RX0 46 "AgedAssets$Course" "residual" "J", Cond.fieldLink RX0 47 "AgedAssets$Part" "life" "I", Cond.fieldLink RX0 50 "AgedAssets$Course" "restOfLife" "I", Cond.fieldLink RX0 53 "AgedAssets$Course" "held" "Z", Cond.fieldLink RX0 57 "AgedAssets$Course" "gone" "Z", Cond.fieldLink RX0 60 "AgedAssets$Course" "breached" "Z"]
def wsX4_value_r3 : List Cond := [Cond.fieldLink RX0 63 "AgedAssets$Course" "chargedUnits" "J", Cond.fieldLink RX0 66 "AgedAssets$Course" "lastCharge" "J", Cond.fieldLink RX0 69 "AgedAssets$Course" "allCharges" "J", Cond.methodLink RX0 72 yX0_beginStretch, Cond.instanceMethod yX0_beginStretch, Cond.selects RX0 yX0_beginStretch yX0_beginStretch, Cond.code yX0_beginStretch cX0_beginStretch 1 none, Cond.fieldLink RX0 12 "AgedAssets$Course" "stretch" "LAgedAssets$Stretch;", Cond.methodLink RX0 136 Lib.MathLoose.max_long.x, Cond.static Lib.MathLoose.max_long.x, Cond.initialized "java/lang/Math", Cond.code Lib.MathLoose.max_long.x Lib.MathLoose.max_long.code 4 (some .long), Cond.methodLink RX0 77 yX0_book, Cond.instanceMethod yX0_book, Cond.selects RX0 yX0_book yX0_book, Cond.code yX0_book cX0_book 1 (some .long), Cond.methodLink RX0 139 yX3_begin, Cond.instanceMethod yX3_begin, Cond.selects RX3 yX3_begin yX3_begin, Cond.initialized RX3, Cond.code yX3_begin cX3_begin 7 none, Cond.fieldLink RX3 9 "AgedAssets$Stretch" "base" "J", Cond.fieldLink RX3 15 "AgedAssets$Stretch" "length" "J", Cond.fieldLink RX3 18 "AgedAssets$Stretch" "unitsLeft" "J"]
def wsX4_value_r4 : List Cond := [Cond.fieldLink RX3 21 "AgedAssets$Stretch" "monthsCharged" "J", Cond.fieldLink RX3 24 "AgedAssets$Stretch" "unitsCharged" "J", Cond.fieldLink RX3 27 "AgedAssets$Stretch" "charged" "J", Cond.methodLink RX4 159 yX0_bookOrNone, Cond.instanceMethod yX0_bookOrNone, Cond.selects RX0 yX0_bookOrNone yX0_bookOrNone, Cond.code yX0_bookOrNone cX0_bookOrNone 1 (some .long), Cond.constantLong RX0 75 (-1), Cond.methodLink RX4 187 yX0_meet, Cond.instanceMethod yX0_meet, Cond.selects RX0 yX0_meet yX0_meet, Cond.code yX0_meet cX0_meet 4 none, Cond.fieldLink RX0 89 "AgedAssets$Event" "kind" "I", Cond.methodLink RX0 81 yX0_isBreach, Cond.instanceMethod yX0_isBreach, Cond.selects RX0 yX0_isBreach yX0_isBreach, Cond.code yX0_isBreach cX0_isBreach 4 (some .boolean), Cond.fieldLink RX0 101 "AgedAssets$Event" "amount" "J", Cond.methodLink RX0 85 yX0_apply, Cond.instanceMethod yX0_apply, Cond.selects RX0 yX0_apply yX0_apply, Cond.code yX0_apply cX0_apply 2 none, Cond.fieldLink RX0 104 "AgedAssets$Event" "number" "I", Cond.methodLink RX0 107 yX0_revalue]
def wsX4_value_r5 : List Cond := [Cond.instanceMethod yX0_revalue, Cond.selects RX0 yX0_revalue yX0_revalue, Cond.code yX0_revalue cX0_revalue 3 none, Cond.methodLink RX0 121 yX0_lose, Cond.instanceMethod yX0_lose, Cond.selects RX0 yX0_lose yX0_lose, Cond.code yX0_lose cX0_lose 5 none, Cond.methodLink RX0 124 Lib.MathLoose.min_long.x, Cond.static Lib.MathLoose.min_long.x, Cond.code Lib.MathLoose.min_long.x Lib.MathLoose.min_long.code 4 (some .long), Cond.methodLink RX0 111 yX0_impair, Cond.instanceMethod yX0_impair, Cond.selects RX0 yX0_impair yX0_impair, Cond.code yX0_impair cX0_impair 3 none, Cond.methodLink RX0 114 yX0_restore, Cond.instanceMethod yX0_restore, Cond.selects RX0 yX0_restore yX0_restore, Cond.code yX0_restore cX0_restore 3 none, Cond.methodLink RX0 117 yX0_sell, Cond.instanceMethod yX0_sell, Cond.selects RX0 yX0_sell yX0_sell, Cond.code yX0_sell cX0_sell 2 none, Cond.constantLong RX0 130 (1000000), Cond.constant RX0 135 (1000000)]
def wsX4_value_r6 : List Cond := [Cond.static yX4_rounded, Cond.code yX4_rounded cX4_rounded 4 (some .long), Cond.constantLong RX4 197 (2), Cond.methodLink RX4 193 yX0_chargeMonth, Cond.instanceMethod yX0_chargeMonth, Cond.selects RX0 yX0_chargeMonth yX0_chargeMonth, Cond.code yX0_chargeMonth cX0_chargeMonth 2 none, Cond.methodLink RX0 94 yX0_decliningCharge, Cond.instanceMethod yX0_decliningCharge, Cond.selects RX0 yX0_decliningCharge yX0_decliningCharge, Cond.code yX0_decliningCharge cX0_decliningCharge 7 (some .long), Cond.methodLink RX0 97 yX3_nextCharge, Cond.instanceMethod yX3_nextCharge, Cond.selects RX3 yX3_nextCharge yX3_nextCharge, Cond.code yX3_nextCharge cX3_nextCharge 5 (some .long), Cond.methodLink RX3 30 yX3_chargesTogether, Cond.instanceMethod yX3_chargesTogether, Cond.selects RX3 yX3_chargesTogether yX3_chargesTogether, Cond.code yX3_chargesTogether cX3_chargesTogether 2 (some .long), Cond.methodLink RX3 42 Lib.MathLoose.min_long.x, Cond.methodLink RX3 38 yX3_sumUpTo, Cond.static yX3_sumUpTo, Cond.code yX3_sumUpTo cX3_sumUpTo 2 (some .long), Cond.constantLong RX3 47 (2)]
def wsX4_value_r7 : List Cond := [Cond.methodLink RX4 138 yX0_book]
def wsX4_value : List Cond := .code yX4_value cX4_value 5 (some .long) :: ((wsX4_value_r1 ++ (wsX4_value_r2 ++ (wsX4_value_r3 ++ (wsX4_value_r4 ++ (wsX4_value_r5 ++ (wsX4_value_r6 ++ wsX4_value_r7)))))) ++ wsX20 ++ wsX40 ++ wsX00 ++ wsX10 ++ wsX30 ++ (vx_atS RX4 51 "java/lang/IllegalArgumentException" ["java/lang/RuntimeException", "java/lang/Exception"]).filter goodWord)
def wsX4_charge_r1 : List Cond := [Cond.classLink RX4 47 "java/lang/IllegalArgumentException", Cond.initialized "java/lang/IllegalArgumentException", Cond.fieldLink RX4 84 "AgedAssets$Part" "firstMonth" "I", Cond.fieldLink RX4 24 "AgedAssets" "full" "LAgedAssets$Course;", Cond.methodLink RX4 66 yX4_partOf, Cond.instanceMethod yX4_partOf, Cond.selects RX4 yX4_partOf yX4_partOf, Cond.initialized RX4, Cond.code yX4_partOf cX4_partOf 2 (some (.object "AgedAssets$Part")), Cond.fieldLink RX4 54 "AgedAssets" "partCount" "I", Cond.fieldLink RX4 11 "AgedAssets" "partRow" "[LAgedAssets$Part;", Cond.methodLink RX4 37 yX4_isMonth, Cond.static yX4_isMonth, Cond.code yX4_isMonth cX4_isMonth 1 (some .boolean), Cond.methodLink RX4 127 yX4_follow, Cond.instanceMethod yX4_follow, Cond.selects RX4 yX4_follow yX4_follow, Cond.code yX4_follow cX4_follow 5 none, Cond.fieldLink RX4 28 "AgedAssets" "bare" "LAgedAssets$Course;", Cond.fieldLink RX4 93 "AgedAssets$Part" "eventIn" "[LAgedAssets$Event;", Cond.fieldLink RX4 117 "AgedAssets$Event" "kind" "I", Cond.constantLong RX4 191 (-1), Cond.fieldLink RX4 74 "AgedAssets$Part" "unitsIn" "[I", Cond.methodLink RX4 183 yX0_open]
def wsX4_charge_r2 : List Cond := [Cond.instanceMethod yX0_open, Cond.selects RX0 yX0_open yX0_open, Cond.initialized RX0, Cond.code yX0_open cX0_open 2 none, Cond.fieldLink RX0 18 "AgedAssets$Part" "method" "I", Cond.fieldLink RX0 24 "AgedAssets$Course" "method" "I", Cond.fieldLink RX0 25 "AgedAssets$Part" "rate" "I", Cond.fieldLink RX0 28 "AgedAssets$Course" "rate" "I", Cond.fieldLink RX0 29 "AgedAssets$Part" "cost" "J", Cond.fieldLink RX0 33 "AgedAssets$Course" "cost" "J", Cond.fieldLink RX0 34 "AgedAssets$Course" "allowance" "J", Cond.fieldLink RX0 37 "AgedAssets$Course" "reserve" "J", Cond.fieldLink RX0 40 "AgedAssets$Course" "losses" "J", Cond.fieldLink RX0 43 "AgedAssets$Part" "residual" "J", Cond.fieldLink RX0 46 "AgedAssets$Course" "residual" "J", Cond.fieldLink RX0 47 "AgedAssets$Part" "life" "I", Cond.fieldLink RX0 50 "AgedAssets$Course" "restOfLife" "I", Cond.fieldLink RX0 53 "AgedAssets$Course" "held" "Z", Cond.fieldLink RX0 57 "AgedAssets$Course" "gone" "Z", Cond.fieldLink RX0 60 "AgedAssets$Course" "breached" "Z", Cond.fieldLink RX0 63 "AgedAssets$Course" "chargedUnits" "J", Cond.fieldLink RX0 66 "AgedAssets$Course" "lastCharge" "J", Cond.fieldLink RX0 69 "AgedAssets$Course" "allCharges" "J", Cond.methodLink RX0 72 yX0_beginStretch]
def wsX4_charge_r3 : List Cond := [Cond.instanceMethod yX0_beginStretch, Cond.selects RX0 yX0_beginStretch yX0_beginStretch, Cond.code yX0_beginStretch cX0_beginStretch 1 none, Cond.fieldLink RX0 12 "AgedAssets$Course" "stretch" "LAgedAssets$Stretch;", Cond.methodLink RX0 136 Lib.MathLoose.max_long.x, Cond.static Lib.MathLoose.max_long.x, Cond.initialized "java/lang/Math", Cond.code Lib.MathLoose.max_long.x Lib.MathLoose.max_long.code 4 (some .long), Cond.methodLink RX0 77 yX0_book, Cond.instanceMethod yX0_book, Cond.selects RX0 yX0_book yX0_book, Cond.code yX0_book cX0_book 1 (some .long), Cond.methodLink RX0 139 yX3_begin, Cond.instanceMethod yX3_begin, Cond.selects RX3 yX3_begin yX3_begin, Cond.initialized RX3, Cond.code yX3_begin cX3_begin 7 none, Cond.fieldLink RX3 9 "AgedAssets$Stretch" "base" "J", Cond.fieldLink RX3 15 "AgedAssets$Stretch" "length" "J", Cond.fieldLink RX3 18 "AgedAssets$Stretch" "unitsLeft" "J", Cond.fieldLink RX3 21 "AgedAssets$Stretch" "monthsCharged" "J", Cond.fieldLink RX3 24 "AgedAssets$Stretch" "unitsCharged" "J", Cond.fieldLink RX3 27 "AgedAssets$Stretch" "charged" "J", Cond.methodLink RX4 159 yX0_bookOrNone]
def wsX4_charge_r4 : List Cond := [Cond.instanceMethod yX0_bookOrNone, Cond.selects RX0 yX0_bookOrNone yX0_bookOrNone, Cond.code yX0_bookOrNone cX0_bookOrNone 1 (some .long), Cond.constantLong RX0 75 (-1), Cond.methodLink RX4 187 yX0_meet, Cond.instanceMethod yX0_meet, Cond.selects RX0 yX0_meet yX0_meet, Cond.code yX0_meet cX0_meet 4 none, Cond.fieldLink RX0 89 "AgedAssets$Event" "kind" "I", Cond.methodLink RX0 81 yX0_isBreach, Cond.instanceMethod yX0_isBreach, Cond.selects RX0 yX0_isBreach yX0_isBreach, Cond.code yX0_isBreach cX0_isBreach 4 (some .boolean), Cond.fieldLink RX0 101 "AgedAssets$Event" "amount" "J", Cond.methodLink RX0 85 yX0_apply, Cond.instanceMethod yX0_apply, Cond.selects RX0 yX0_apply yX0_apply, Cond.code yX0_apply cX0_apply 2 none, Cond.fieldLink RX0 104 "AgedAssets$Event" "number" "I", Cond.methodLink RX0 107 yX0_revalue, Cond.instanceMethod yX0_revalue, Cond.selects RX0 yX0_revalue yX0_revalue, Cond.code yX0_revalue cX0_revalue 3 none, Cond.methodLink RX0 121 yX0_lose]
def wsX4_charge_r5 : List Cond := [Cond.instanceMethod yX0_lose, Cond.selects RX0 yX0_lose yX0_lose, Cond.code yX0_lose cX0_lose 5 none, Cond.methodLink RX0 124 Lib.MathLoose.min_long.x, Cond.static Lib.MathLoose.min_long.x, Cond.code Lib.MathLoose.min_long.x Lib.MathLoose.min_long.code 4 (some .long), Cond.methodLink RX0 111 yX0_impair, Cond.instanceMethod yX0_impair, Cond.selects RX0 yX0_impair yX0_impair, Cond.code yX0_impair cX0_impair 3 none, Cond.methodLink RX0 114 yX0_restore, Cond.instanceMethod yX0_restore, Cond.selects RX0 yX0_restore yX0_restore, Cond.code yX0_restore cX0_restore 3 none, Cond.methodLink RX0 117 yX0_sell, Cond.instanceMethod yX0_sell, Cond.selects RX0 yX0_sell yX0_sell, Cond.code yX0_sell cX0_sell 2 none, Cond.constantLong RX0 130 (1000000), Cond.constant RX0 135 (1000000), Cond.static yX4_rounded, Cond.code yX4_rounded cX4_rounded 4 (some .long), Cond.constantLong RX4 197 (2), Cond.methodLink RX4 193 yX0_chargeMonth]
def wsX4_charge_r6 : List Cond := [Cond.instanceMethod yX0_chargeMonth, Cond.selects RX0 yX0_chargeMonth yX0_chargeMonth, Cond.code yX0_chargeMonth cX0_chargeMonth 2 none, Cond.methodLink RX0 94 yX0_decliningCharge, Cond.instanceMethod yX0_decliningCharge, Cond.selects RX0 yX0_decliningCharge yX0_decliningCharge, Cond.code yX0_decliningCharge cX0_decliningCharge 7 (some .long), Cond.methodLink RX0 97 yX3_nextCharge, Cond.instanceMethod yX3_nextCharge, Cond.selects RX3 yX3_nextCharge yX3_nextCharge, Cond.code yX3_nextCharge cX3_nextCharge 5 (some .long), Cond.methodLink RX3 30 yX3_chargesTogether, Cond.instanceMethod yX3_chargesTogether, Cond.selects RX3 yX3_chargesTogether yX3_chargesTogether, Cond.code yX3_chargesTogether cX3_chargesTogether 2 (some .long), Cond.methodLink RX3 42 Lib.MathLoose.min_long.x, Cond.methodLink RX3 38 yX3_sumUpTo, Cond.static yX3_sumUpTo, Cond.code yX3_sumUpTo cX3_sumUpTo 2 (some .long), Cond.constantLong RX3 47 (2)]
def wsX4_charge : List Cond := .code yX4_charge cX4_charge 4 (some .long) :: ((wsX4_charge_r1 ++ (wsX4_charge_r2 ++ (wsX4_charge_r3 ++ (wsX4_charge_r4 ++ (wsX4_charge_r5 ++ wsX4_charge_r6))))) ++ wsX20 ++ wsX40 ++ wsX00 ++ wsX10 ++ wsX30 ++ (vx_atS RX4 51 "java/lang/IllegalArgumentException" ["java/lang/RuntimeException", "java/lang/Exception"]).filter goodWord)
def wsX4_without_r1 : List Cond := [Cond.classLink RX4 47 "java/lang/IllegalArgumentException", Cond.initialized "java/lang/IllegalArgumentException", Cond.fieldLink RX4 84 "AgedAssets$Part" "firstMonth" "I", Cond.fieldLink RX4 28 "AgedAssets" "bare" "LAgedAssets$Course;", Cond.methodLink RX4 66 yX4_partOf, Cond.instanceMethod yX4_partOf, Cond.selects RX4 yX4_partOf yX4_partOf, Cond.initialized RX4, Cond.code yX4_partOf cX4_partOf 2 (some (.object "AgedAssets$Part")), Cond.fieldLink RX4 54 "AgedAssets" "partCount" "I", Cond.fieldLink RX4 11 "AgedAssets" "partRow" "[LAgedAssets$Part;", Cond.methodLink RX4 37 yX4_isMonth, Cond.static yX4_isMonth, Cond.code yX4_isMonth cX4_isMonth 1 (some .boolean), Cond.methodLink RX4 127 yX4_follow, Cond.instanceMethod yX4_follow, Cond.selects RX4 yX4_follow yX4_follow, Cond.code yX4_follow cX4_follow 5 none, Cond.fieldLink RX4 24 "AgedAssets" "full" "LAgedAssets$Course;", Cond.fieldLink RX4 93 "AgedAssets$Part" "eventIn" "[LAgedAssets$Event;", Cond.fieldLink RX4 117 "AgedAssets$Event" "kind" "I", Cond.constantLong RX4 191 (-1), Cond.fieldLink RX4 74 "AgedAssets$Part" "unitsIn" "[I", Cond.methodLink RX4 183 yX0_open]
def wsX4_without_r2 : List Cond := [Cond.instanceMethod yX0_open, Cond.selects RX0 yX0_open yX0_open, Cond.initialized RX0, Cond.code yX0_open cX0_open 2 none, Cond.fieldLink RX0 18 "AgedAssets$Part" "method" "I", Cond.fieldLink RX0 24 "AgedAssets$Course" "method" "I", Cond.fieldLink RX0 25 "AgedAssets$Part" "rate" "I", Cond.fieldLink RX0 28 "AgedAssets$Course" "rate" "I", Cond.fieldLink RX0 29 "AgedAssets$Part" "cost" "J", Cond.fieldLink RX0 33 "AgedAssets$Course" "cost" "J", Cond.fieldLink RX0 34 "AgedAssets$Course" "allowance" "J", Cond.fieldLink RX0 37 "AgedAssets$Course" "reserve" "J", Cond.fieldLink RX0 40 "AgedAssets$Course" "losses" "J", Cond.fieldLink RX0 43 "AgedAssets$Part" "residual" "J", Cond.fieldLink RX0 46 "AgedAssets$Course" "residual" "J", Cond.fieldLink RX0 47 "AgedAssets$Part" "life" "I", Cond.fieldLink RX0 50 "AgedAssets$Course" "restOfLife" "I", Cond.fieldLink RX0 53 "AgedAssets$Course" "held" "Z", Cond.fieldLink RX0 57 "AgedAssets$Course" "gone" "Z", Cond.fieldLink RX0 60 "AgedAssets$Course" "breached" "Z", Cond.fieldLink RX0 63 "AgedAssets$Course" "chargedUnits" "J", Cond.fieldLink RX0 66 "AgedAssets$Course" "lastCharge" "J", Cond.fieldLink RX0 69 "AgedAssets$Course" "allCharges" "J", Cond.methodLink RX0 72 yX0_beginStretch]
def wsX4_without_r3 : List Cond := [Cond.instanceMethod yX0_beginStretch, Cond.selects RX0 yX0_beginStretch yX0_beginStretch, Cond.code yX0_beginStretch cX0_beginStretch 1 none, Cond.fieldLink RX0 12 "AgedAssets$Course" "stretch" "LAgedAssets$Stretch;", Cond.methodLink RX0 136 Lib.MathLoose.max_long.x, Cond.static Lib.MathLoose.max_long.x, Cond.initialized "java/lang/Math", Cond.code Lib.MathLoose.max_long.x Lib.MathLoose.max_long.code 4 (some .long), Cond.methodLink RX0 77 yX0_book, Cond.instanceMethod yX0_book, Cond.selects RX0 yX0_book yX0_book, Cond.code yX0_book cX0_book 1 (some .long), Cond.methodLink RX0 139 yX3_begin, Cond.instanceMethod yX3_begin, Cond.selects RX3 yX3_begin yX3_begin, Cond.initialized RX3, Cond.code yX3_begin cX3_begin 7 none, Cond.fieldLink RX3 9 "AgedAssets$Stretch" "base" "J", Cond.fieldLink RX3 15 "AgedAssets$Stretch" "length" "J", Cond.fieldLink RX3 18 "AgedAssets$Stretch" "unitsLeft" "J", Cond.fieldLink RX3 21 "AgedAssets$Stretch" "monthsCharged" "J", Cond.fieldLink RX3 24 "AgedAssets$Stretch" "unitsCharged" "J", Cond.fieldLink RX3 27 "AgedAssets$Stretch" "charged" "J", Cond.methodLink RX4 159 yX0_bookOrNone]
def wsX4_without_r4 : List Cond := [Cond.instanceMethod yX0_bookOrNone, Cond.selects RX0 yX0_bookOrNone yX0_bookOrNone, Cond.code yX0_bookOrNone cX0_bookOrNone 1 (some .long), Cond.constantLong RX0 75 (-1), Cond.methodLink RX4 187 yX0_meet, Cond.instanceMethod yX0_meet, Cond.selects RX0 yX0_meet yX0_meet, Cond.code yX0_meet cX0_meet 4 none, Cond.fieldLink RX0 89 "AgedAssets$Event" "kind" "I", Cond.methodLink RX0 81 yX0_isBreach, Cond.instanceMethod yX0_isBreach, Cond.selects RX0 yX0_isBreach yX0_isBreach, Cond.code yX0_isBreach cX0_isBreach 4 (some .boolean), Cond.fieldLink RX0 101 "AgedAssets$Event" "amount" "J", Cond.methodLink RX0 85 yX0_apply, Cond.instanceMethod yX0_apply, Cond.selects RX0 yX0_apply yX0_apply, Cond.code yX0_apply cX0_apply 2 none, Cond.fieldLink RX0 104 "AgedAssets$Event" "number" "I", Cond.methodLink RX0 107 yX0_revalue, Cond.instanceMethod yX0_revalue, Cond.selects RX0 yX0_revalue yX0_revalue, Cond.code yX0_revalue cX0_revalue 3 none, Cond.methodLink RX0 121 yX0_lose]
def wsX4_without_r5 : List Cond := [Cond.instanceMethod yX0_lose, Cond.selects RX0 yX0_lose yX0_lose, Cond.code yX0_lose cX0_lose 5 none, Cond.methodLink RX0 124 Lib.MathLoose.min_long.x, Cond.static Lib.MathLoose.min_long.x, Cond.code Lib.MathLoose.min_long.x Lib.MathLoose.min_long.code 4 (some .long), Cond.methodLink RX0 111 yX0_impair, Cond.instanceMethod yX0_impair, Cond.selects RX0 yX0_impair yX0_impair, Cond.code yX0_impair cX0_impair 3 none, Cond.methodLink RX0 114 yX0_restore, Cond.instanceMethod yX0_restore, Cond.selects RX0 yX0_restore yX0_restore, Cond.code yX0_restore cX0_restore 3 none, Cond.methodLink RX0 117 yX0_sell, Cond.instanceMethod yX0_sell, Cond.selects RX0 yX0_sell yX0_sell, Cond.code yX0_sell cX0_sell 2 none, Cond.constantLong RX0 130 (1000000), Cond.constant RX0 135 (1000000), Cond.static yX4_rounded, Cond.code yX4_rounded cX4_rounded 4 (some .long), Cond.constantLong RX4 197 (2), Cond.methodLink RX4 193 yX0_chargeMonth]
def wsX4_without_r6 : List Cond := [Cond.instanceMethod yX0_chargeMonth, Cond.selects RX0 yX0_chargeMonth yX0_chargeMonth, Cond.code yX0_chargeMonth cX0_chargeMonth 2 none, Cond.methodLink RX0 94 yX0_decliningCharge, Cond.instanceMethod yX0_decliningCharge, Cond.selects RX0 yX0_decliningCharge yX0_decliningCharge, Cond.code yX0_decliningCharge cX0_decliningCharge 7 (some .long), Cond.methodLink RX0 97 yX3_nextCharge, Cond.instanceMethod yX3_nextCharge, Cond.selects RX3 yX3_nextCharge yX3_nextCharge, Cond.code yX3_nextCharge cX3_nextCharge 5 (some .long), Cond.methodLink RX3 30 yX3_chargesTogether, Cond.instanceMethod yX3_chargesTogether, Cond.selects RX3 yX3_chargesTogether yX3_chargesTogether, Cond.code yX3_chargesTogether cX3_chargesTogether 2 (some .long), Cond.methodLink RX3 42 Lib.MathLoose.min_long.x, Cond.methodLink RX3 38 yX3_sumUpTo, Cond.static yX3_sumUpTo, Cond.code yX3_sumUpTo cX3_sumUpTo 2 (some .long), Cond.constantLong RX3 47 (2)]
def wsX4_without : List Cond := .code yX4_without cX4_without 4 (some .long) :: ((wsX4_without_r1 ++ (wsX4_without_r2 ++ (wsX4_without_r3 ++ (wsX4_without_r4 ++ (wsX4_without_r5 ++ wsX4_without_r6))))) ++ wsX20 ++ wsX40 ++ wsX10 ++ wsX00 ++ wsX30 ++ (vx_atS RX4 51 "java/lang/IllegalArgumentException" ["java/lang/RuntimeException", "java/lang/Exception"]).filter goodWord)
def wsX4_post_r1 : List Cond := [Cond.classLink RX4 58 "java/lang/IllegalStateException", Cond.initialized "java/lang/IllegalStateException", Cond.fieldLink RX4 162 "AgedAssets" "monthCount" "I", Cond.fieldLink RX4 54 "AgedAssets" "partCount" "I", Cond.fieldLink RX4 84 "AgedAssets$Part" "firstMonth" "I", Cond.fieldLink RX4 167 "AgedAssets$Part" "postedIn" "[J", Cond.fieldLink RX4 24 "AgedAssets" "full" "LAgedAssets$Course;", Cond.fieldLink RX4 174 "AgedAssets$Part" "postedInAll" "J", Cond.methodLink RX4 66 yX4_partOf, Cond.instanceMethod yX4_partOf, Cond.selects RX4 yX4_partOf yX4_partOf, Cond.initialized RX4, Cond.code yX4_partOf cX4_partOf 2 (some (.object "AgedAssets$Part")), Cond.fieldLink RX4 11 "AgedAssets" "partRow" "[LAgedAssets$Part;", Cond.methodLink RX4 127 yX4_follow, Cond.instanceMethod yX4_follow, Cond.selects RX4 yX4_follow yX4_follow, Cond.code yX4_follow cX4_follow 5 none, Cond.fieldLink RX4 28 "AgedAssets" "bare" "LAgedAssets$Course;", Cond.fieldLink RX4 93 "AgedAssets$Part" "eventIn" "[LAgedAssets$Event;", Cond.fieldLink RX4 117 "AgedAssets$Event" "kind" "I", Cond.constantLong RX4 191 (-1), Cond.fieldLink RX4 74 "AgedAssets$Part" "unitsIn" "[I", Cond.methodLink RX4 183 yX0_open]
def wsX4_post_r2 : List Cond := [Cond.instanceMethod yX0_open, Cond.selects RX0 yX0_open yX0_open, Cond.initialized RX0, Cond.code yX0_open cX0_open 2 none, Cond.fieldLink RX0 18 "AgedAssets$Part" "method" "I", Cond.fieldLink RX0 24 "AgedAssets$Course" "method" "I", Cond.fieldLink RX0 25 "AgedAssets$Part" "rate" "I", Cond.fieldLink RX0 28 "AgedAssets$Course" "rate" "I", Cond.fieldLink RX0 29 "AgedAssets$Part" "cost" "J", Cond.fieldLink RX0 33 "AgedAssets$Course" "cost" "J", Cond.fieldLink RX0 34 "AgedAssets$Course" "allowance" "J", Cond.fieldLink RX0 37 "AgedAssets$Course" "reserve" "J", Cond.fieldLink RX0 40 "AgedAssets$Course" "losses" "J", Cond.fieldLink RX0 43 "AgedAssets$Part" "residual" "J", Cond.fieldLink RX0 46 "AgedAssets$Course" "residual" "J", Cond.fieldLink RX0 47 "AgedAssets$Part" "life" "I", Cond.fieldLink RX0 50 "AgedAssets$Course" "restOfLife" "I", Cond.fieldLink RX0 53 "AgedAssets$Course" "held" "Z", Cond.fieldLink RX0 57 "AgedAssets$Course" "gone" "Z", Cond.fieldLink RX0 60 "AgedAssets$Course" "breached" "Z", Cond.fieldLink RX0 63 "AgedAssets$Course" "chargedUnits" "J", Cond.fieldLink RX0 66 "AgedAssets$Course" "lastCharge" "J", Cond.fieldLink RX0 69 "AgedAssets$Course" "allCharges" "J", Cond.methodLink RX0 72 yX0_beginStretch]
def wsX4_post_r3 : List Cond := [Cond.instanceMethod yX0_beginStretch, Cond.selects RX0 yX0_beginStretch yX0_beginStretch, Cond.code yX0_beginStretch cX0_beginStretch 1 none, Cond.fieldLink RX0 12 "AgedAssets$Course" "stretch" "LAgedAssets$Stretch;", Cond.methodLink RX0 136 Lib.MathLoose.max_long.x, Cond.static Lib.MathLoose.max_long.x, Cond.initialized "java/lang/Math", Cond.code Lib.MathLoose.max_long.x Lib.MathLoose.max_long.code 4 (some .long), Cond.methodLink RX0 77 yX0_book, Cond.instanceMethod yX0_book, Cond.selects RX0 yX0_book yX0_book, Cond.code yX0_book cX0_book 1 (some .long), Cond.methodLink RX0 139 yX3_begin, Cond.instanceMethod yX3_begin, Cond.selects RX3 yX3_begin yX3_begin, Cond.initialized RX3, Cond.code yX3_begin cX3_begin 7 none, Cond.fieldLink RX3 9 "AgedAssets$Stretch" "base" "J", Cond.fieldLink RX3 15 "AgedAssets$Stretch" "length" "J", Cond.fieldLink RX3 18 "AgedAssets$Stretch" "unitsLeft" "J", Cond.fieldLink RX3 21 "AgedAssets$Stretch" "monthsCharged" "J", Cond.fieldLink RX3 24 "AgedAssets$Stretch" "unitsCharged" "J", Cond.fieldLink RX3 27 "AgedAssets$Stretch" "charged" "J", Cond.methodLink RX4 159 yX0_bookOrNone]
def wsX4_post_r4 : List Cond := [Cond.instanceMethod yX0_bookOrNone, Cond.selects RX0 yX0_bookOrNone yX0_bookOrNone, Cond.code yX0_bookOrNone cX0_bookOrNone 1 (some .long), Cond.constantLong RX0 75 (-1), Cond.methodLink RX4 187 yX0_meet, Cond.instanceMethod yX0_meet, Cond.selects RX0 yX0_meet yX0_meet, Cond.code yX0_meet cX0_meet 4 none, Cond.fieldLink RX0 89 "AgedAssets$Event" "kind" "I", Cond.methodLink RX0 81 yX0_isBreach, Cond.instanceMethod yX0_isBreach, Cond.selects RX0 yX0_isBreach yX0_isBreach, Cond.code yX0_isBreach cX0_isBreach 4 (some .boolean), Cond.fieldLink RX0 101 "AgedAssets$Event" "amount" "J", Cond.methodLink RX0 85 yX0_apply, Cond.instanceMethod yX0_apply, Cond.selects RX0 yX0_apply yX0_apply, Cond.code yX0_apply cX0_apply 2 none, Cond.fieldLink RX0 104 "AgedAssets$Event" "number" "I", Cond.methodLink RX0 107 yX0_revalue, Cond.instanceMethod yX0_revalue, Cond.selects RX0 yX0_revalue yX0_revalue, Cond.code yX0_revalue cX0_revalue 3 none, Cond.methodLink RX0 121 yX0_lose]
def wsX4_post_r5 : List Cond := [Cond.instanceMethod yX0_lose, Cond.selects RX0 yX0_lose yX0_lose, Cond.code yX0_lose cX0_lose 5 none, Cond.methodLink RX0 124 Lib.MathLoose.min_long.x, Cond.static Lib.MathLoose.min_long.x, Cond.code Lib.MathLoose.min_long.x Lib.MathLoose.min_long.code 4 (some .long), Cond.methodLink RX0 111 yX0_impair, Cond.instanceMethod yX0_impair, Cond.selects RX0 yX0_impair yX0_impair, Cond.code yX0_impair cX0_impair 3 none, Cond.methodLink RX0 114 yX0_restore, Cond.instanceMethod yX0_restore, Cond.selects RX0 yX0_restore yX0_restore, Cond.code yX0_restore cX0_restore 3 none, Cond.methodLink RX0 117 yX0_sell, Cond.instanceMethod yX0_sell, Cond.selects RX0 yX0_sell yX0_sell, Cond.code yX0_sell cX0_sell 2 none, Cond.constantLong RX0 130 (1000000), Cond.constant RX0 135 (1000000), Cond.static yX4_rounded, Cond.code yX4_rounded cX4_rounded 4 (some .long), Cond.constantLong RX4 197 (2), Cond.methodLink RX4 193 yX0_chargeMonth]
def wsX4_post_r6 : List Cond := [Cond.instanceMethod yX0_chargeMonth, Cond.selects RX0 yX0_chargeMonth yX0_chargeMonth, Cond.code yX0_chargeMonth cX0_chargeMonth 2 none, Cond.methodLink RX0 94 yX0_decliningCharge, Cond.instanceMethod yX0_decliningCharge, Cond.selects RX0 yX0_decliningCharge yX0_decliningCharge, Cond.code yX0_decliningCharge cX0_decliningCharge 7 (some .long), Cond.methodLink RX0 97 yX3_nextCharge, Cond.instanceMethod yX3_nextCharge, Cond.selects RX3 yX3_nextCharge yX3_nextCharge, Cond.code yX3_nextCharge cX3_nextCharge 5 (some .long), Cond.methodLink RX3 30 yX3_chargesTogether, Cond.instanceMethod yX3_chargesTogether, Cond.selects RX3 yX3_chargesTogether yX3_chargesTogether, Cond.code yX3_chargesTogether cX3_chargesTogether 2 (some .long), Cond.methodLink RX3 42 Lib.MathLoose.min_long.x, Cond.methodLink RX3 38 yX3_sumUpTo, Cond.static yX3_sumUpTo, Cond.code yX3_sumUpTo cX3_sumUpTo 2 (some .long), Cond.constantLong RX3 47 (2)]
def wsX4_post : List Cond := .code yX4_post cX4_post 6 (some .long) :: ((wsX4_post_r1 ++ (wsX4_post_r2 ++ (wsX4_post_r3 ++ (wsX4_post_r4 ++ (wsX4_post_r5 ++ wsX4_post_r6))))) ++ wsX40 ++ wsX20 ++ wsX00 ++ wsX10 ++ wsX30 ++ (vx_atS RX4 62 "java/lang/IllegalStateException" ["java/lang/RuntimeException", "java/lang/Exception"]).filter goodWord)
def wsX4_months : List Cond := .code yX4_months cX4_months 1 (some .int) :: ([.fieldLink RX4 162 "AgedAssets" "monthCount" "I"] ++ wsX40)
def wsX4_posted : List Cond := .code yX4_posted cX4_posted 4 (some .long) :: ([.classLink RX4 47 "java/lang/IllegalArgumentException", .initialized "java/lang/IllegalArgumentException", .fieldLink RX4 167 "AgedAssets$Part" "postedIn" "[J", .methodLink RX4 66 yX4_partOf, .instanceMethod yX4_partOf, .selects RX4 yX4_partOf yX4_partOf, .initialized RX4, .code yX4_partOf cX4_partOf 2 (some (.object "AgedAssets$Part")), .fieldLink RX4 54 "AgedAssets" "partCount" "I", .fieldLink RX4 11 "AgedAssets" "partRow" "[LAgedAssets$Part;", .methodLink RX4 37 yX4_isMonth, .static yX4_isMonth, .code yX4_isMonth cX4_isMonth 1 (some .boolean)] ++ wsX20 ++ wsX40 ++ (vx_atS RX4 51 "java/lang/IllegalArgumentException" ["java/lang/RuntimeException", "java/lang/Exception"]).filter goodWord)
def wsX4_total : List Cond := .code yX4_total cX4_total 3 (some .long) :: ([.classLink RX4 47 "java/lang/IllegalArgumentException", .initialized "java/lang/IllegalArgumentException", .fieldLink RX4 174 "AgedAssets$Part" "postedInAll" "J", .methodLink RX4 66 yX4_partOf, .instanceMethod yX4_partOf, .selects RX4 yX4_partOf yX4_partOf, .initialized RX4, .code yX4_partOf cX4_partOf 2 (some (.object "AgedAssets$Part")), .fieldLink RX4 54 "AgedAssets" "partCount" "I", .fieldLink RX4 11 "AgedAssets" "partRow" "[LAgedAssets$Part;"] ++ wsX20 ++ wsX40 ++ (vx_atS RX4 51 "java/lang/IllegalArgumentException" ["java/lang/RuntimeException", "java/lang/Exception"]).filter goodWord)
def wsX4_parts : List Cond := .code yX4_parts cX4_parts 1 (some .int) :: ([.fieldLink RX4 54 "AgedAssets" "partCount" "I"] ++ wsX40)
def wsX5_init : List Cond := .code yX5_init cX5_init 1 none :: ([.methodLink RX5 1 objectInit, .instanceMethod objectInit, .code objectInit ⟨#[0xb1]⟩ 1 none, .arrayClass .long, .fieldLink RX5 7 "AgedAssetsModel" "costs" "[J", .fieldLink RX5 13 "AgedAssetsModel" "residuals" "[J", .arrayClass .int, .fieldLink RX5 16 "AgedAssetsModel" "firsts" "[I", .fieldLink RX5 20 "AgedAssetsModel" "lives" "[I", .fieldLink RX5 23 "AgedAssetsModel" "methods" "[I", .fieldLink RX5 26 "AgedAssetsModel" "rates" "[I", .fieldLink RX5 29 "AgedAssetsModel" "used" "[I", .fieldLink RX5 32 "AgedAssetsModel" "posted" "[J", .fieldLink RX5 35 "AgedAssetsModel" "of" "[I", .fieldLink RX5 38 "AgedAssetsModel" "when" "[I", .fieldLink RX5 41 "AgedAssetsModel" "kinds" "[I", .fieldLink RX5 44 "AgedAssetsModel" "amounts" "[J", .fieldLink RX5 47 "AgedAssetsModel" "numbers" "[I", .fieldLink RX5 50 "AgedAssetsModel" "before" "[J", .fieldLink RX5 53 "AgedAssetsModel" "behind" "[J"] ++ wsX50)
def wsX5_thrown : List Cond := .code yX5_thrown cX5_thrown 1 (some .int) :: ([.fieldLink RX5 56 "AgedAssetsModel" "code" "I"] ++ wsX50)
def wsX5_isIn : List Cond := .code yX5_isIn cX5_isIn 6 (some .boolean) :: ([])
def wsX5_rounded : List Cond := .code yX5_rounded cX5_rounded 4 (some .long) :: ([.constantLong RX5 60 (2)])
def wsX5_isPart : List Cond := .code yX5_isPart cX5_isPart 2 (some .boolean) :: ([.fieldLink RX5 62 "AgedAssetsModel" "parts" "I"] ++ wsX50)
def wsX5_isMonth : List Cond := .code yX5_isMonth cX5_isMonth 1 (some .boolean) :: ([])
def wsX5_book : List Cond := .code yX5_book cX5_book 1 (some .long) :: ([.fieldLink RX5 65 "AgedAssetsModel" "cost" "J", .fieldLink RX5 69 "AgedAssetsModel" "allowance" "J"] ++ wsX50)
def wsX5_eventIn : List Cond := .code yX5_eventIn cX5_eventIn 5 (some .int) :: ([.fieldLink RX5 72 "AgedAssetsModel" "events" "I", .fieldLink RX5 35 "AgedAssetsModel" "of" "[I", .fieldLink RX5 38 "AgedAssetsModel" "when" "[I"] ++ wsX50)
def wsX5_stretch : List Cond := .code yX5_stretch cX5_stretch 2 none :: ([.fieldLink RX5 79 "AgedAssetsModel" "residual" "J", .fieldLink RX5 82 "AgedAssetsModel" "base" "J", .fieldLink RX5 85 "AgedAssetsModel" "rest" "I", .fieldLink RX5 88 "AgedAssetsModel" "length" "I", .fieldLink RX5 26 "AgedAssetsModel" "rates" "[I", .fieldLink RX5 91 "AgedAssetsModel" "spent" "I", .fieldLink RX5 94 "AgedAssetsModel" "left" "I", .fieldLink RX5 97 "AgedAssetsModel" "charged" "I", .fieldLink RX5 100 "AgedAssetsModel" "stretchUnits" "I", .fieldLink RX5 103 "AgedAssetsModel" "done" "J", .methodLink RX5 75 yX5_book, .instanceMethod yX5_book, .selects RX5 yX5_book yX5_book, .initialized RX5, .code yX5_book cX5_book 1 (some .long), .fieldLink RX5 65 "AgedAssetsModel" "cost" "J", .fieldLink RX5 69 "AgedAssetsModel" "allowance" "J"] ++ wsX50)
def wsX5_fall : List Cond := .code yX5_fall cX5_fall 5 none :: ([.fieldLink RX5 106 "AgedAssetsModel" "reserve" "J", .fieldLink RX5 109 "AgedAssetsModel" "losses" "J"] ++ wsX50)
def wsX5_impairs : List Cond := .code yX5_impairs cX5_impairs 3 (some .boolean) :: ([.fieldLink RX5 65 "AgedAssetsModel" "cost" "J", .fieldLink RX5 69 "AgedAssetsModel" "allowance" "J", .methodLink RX5 75 yX5_book, .instanceMethod yX5_book, .selects RX5 yX5_book yX5_book, .initialized RX5, .code yX5_book cX5_book 1 (some .long), .methodLink RX5 112 yX5_fall, .instanceMethod yX5_fall, .selects RX5 yX5_fall yX5_fall, .code yX5_fall cX5_fall 5 none, .fieldLink RX5 106 "AgedAssetsModel" "reserve" "J", .fieldLink RX5 109 "AgedAssetsModel" "losses" "J"] ++ wsX50)
def wsX5_restores : List Cond := .code yX5_restores cX5_restores 6 (some .boolean) :: ([.fieldLink RX5 116 "AgedAssetsModel" "bad" "I", .fieldLink RX5 50 "AgedAssetsModel" "before" "[J", .fieldLink RX5 69 "AgedAssetsModel" "allowance" "J", .fieldLink RX5 109 "AgedAssetsModel" "losses" "J", .fieldLink RX5 79 "AgedAssetsModel" "residual" "J", .methodLink RX5 75 yX5_book, .instanceMethod yX5_book, .selects RX5 yX5_book yX5_book, .initialized RX5, .code yX5_book cX5_book 1 (some .long), .fieldLink RX5 65 "AgedAssetsModel" "cost" "J"] ++ wsX50)
def wsX5_values : List Cond := .code yX5_values cX5_values 3 none :: ([.fieldLink RX5 106 "AgedAssetsModel" "reserve" "J", .fieldLink RX5 65 "AgedAssetsModel" "cost" "J", .fieldLink RX5 69 "AgedAssetsModel" "allowance" "J", .methodLink RX5 75 yX5_book, .instanceMethod yX5_book, .selects RX5 yX5_book yX5_book, .initialized RX5, .code yX5_book cX5_book 1 (some .long), .methodLink RX5 112 yX5_fall, .instanceMethod yX5_fall, .selects RX5 yX5_fall yX5_fall, .code yX5_fall cX5_fall 5 none, .fieldLink RX5 109 "AgedAssetsModel" "losses" "J"] ++ wsX50)
def wsX5_less : List Cond := .code yX5_less cX5_less 3 (some .long) :: ([.constantLong RX5 119 (1000000), .methodLink RX5 121 yX5_rounded, .static yX5_rounded, .initialized RX5, .code yX5_rounded cX5_rounded 4 (some .long), .constantLong RX5 60 (2)])
def wsX5_sells : List Cond := .code yX5_sells cX5_sells 2 none :: ([.fieldLink RX5 65 "AgedAssetsModel" "cost" "J", .fieldLink RX5 69 "AgedAssetsModel" "allowance" "J", .fieldLink RX5 106 "AgedAssetsModel" "reserve" "J", .fieldLink RX5 79 "AgedAssetsModel" "residual" "J", .constant RX5 129 (1000000), .fieldLink RX5 130 "AgedAssetsModel" "gone" "Z", .methodLink RX5 125 yX5_less, .static yX5_less, .initialized RX5, .code yX5_less cX5_less 3 (some .long), .constantLong RX5 119 (1000000), .methodLink RX5 121 yX5_rounded, .static yX5_rounded, .code yX5_rounded cX5_rounded 4 (some .long), .constantLong RX5 60 (2)] ++ wsX50)
def wsX5_happens_r1 : List Cond := [Cond.fieldLink RX5 41 "AgedAssetsModel" "kinds" "[I", Cond.fieldLink RX5 44 "AgedAssetsModel" "amounts" "[J", Cond.fieldLink RX5 130 "AgedAssetsModel" "gone" "Z", Cond.fieldLink RX5 134 "AgedAssetsModel" "held" "Z", Cond.fieldLink RX5 65 "AgedAssetsModel" "cost" "J", Cond.fieldLink RX5 85 "AgedAssetsModel" "rest" "I", Cond.fieldLink RX5 79 "AgedAssetsModel" "residual" "J", Cond.fieldLink RX5 47 "AgedAssetsModel" "numbers" "[I", Cond.methodLink RX5 75 yX5_book, Cond.instanceMethod yX5_book, Cond.selects RX5 yX5_book yX5_book, Cond.initialized RX5, Cond.code yX5_book cX5_book 1 (some .long), Cond.fieldLink RX5 69 "AgedAssetsModel" "allowance" "J", Cond.methodLink RX5 137 yX5_values, Cond.instanceMethod yX5_values, Cond.selects RX5 yX5_values yX5_values, Cond.code yX5_values cX5_values 3 none, Cond.fieldLink RX5 106 "AgedAssetsModel" "reserve" "J", Cond.methodLink RX5 112 yX5_fall, Cond.instanceMethod yX5_fall, Cond.selects RX5 yX5_fall yX5_fall, Cond.code yX5_fall cX5_fall 5 none, Cond.fieldLink RX5 109 "AgedAssetsModel" "losses" "J"]
def wsX5_happens_r2 : List Cond := [Cond.methodLink RX5 140 yX5_impairs, Cond.instanceMethod yX5_impairs, Cond.selects RX5 yX5_impairs yX5_impairs, Cond.code yX5_impairs cX5_impairs 3 (some .boolean), Cond.methodLink RX5 144 yX5_restores, Cond.instanceMethod yX5_restores, Cond.selects RX5 yX5_restores yX5_restores, Cond.code yX5_restores cX5_restores 6 (some .boolean), Cond.fieldLink RX5 116 "AgedAssetsModel" "bad" "I", Cond.fieldLink RX5 50 "AgedAssetsModel" "before" "[J", Cond.methodLink RX5 148 yX5_sells, Cond.instanceMethod yX5_sells, Cond.selects RX5 yX5_sells yX5_sells, Cond.code yX5_sells cX5_sells 2 none, Cond.constant RX5 129 (1000000), Cond.methodLink RX5 125 yX5_less, Cond.static yX5_less, Cond.code yX5_less cX5_less 3 (some .long), Cond.constantLong RX5 119 (1000000), Cond.methodLink RX5 121 yX5_rounded, Cond.static yX5_rounded, Cond.code yX5_rounded cX5_rounded 4 (some .long), Cond.constantLong RX5 60 (2)]
def wsX5_happens : List Cond := .code yX5_happens cX5_happens 7 (some .boolean) :: ((wsX5_happens_r1 ++ wsX5_happens_r2) ++ wsX50)
def wsX5_together : List Cond := .code yX5_together cX5_together 4 (some .long) :: ([.fieldLink RX5 23 "AgedAssetsModel" "methods" "[I", .fieldLink RX5 82 "AgedAssetsModel" "base" "J", .fieldLink RX5 97 "AgedAssetsModel" "charged" "I", .fieldLink RX5 88 "AgedAssetsModel" "length" "I", .constantLong RX5 60 (2), .fieldLink RX5 100 "AgedAssetsModel" "stretchUnits" "I", .fieldLink RX5 94 "AgedAssetsModel" "left" "I", .methodLink RX5 121 yX5_rounded, .static yX5_rounded, .initialized RX5, .code yX5_rounded cX5_rounded 4 (some .long)] ++ wsX50)
def wsX5_declining : List Cond := .code yX5_declining cX5_declining 11 (some .long) :: ([.fieldLink RX5 79 "AgedAssetsModel" "residual" "J", .fieldLink RX5 26 "AgedAssetsModel" "rates" "[I", .constantLong RX5 119 (1000000), .methodLink RX5 75 yX5_book, .instanceMethod yX5_book, .selects RX5 yX5_book yX5_book, .initialized RX5, .code yX5_book cX5_book 1 (some .long), .fieldLink RX5 65 "AgedAssetsModel" "cost" "J", .fieldLink RX5 69 "AgedAssetsModel" "allowance" "J", .methodLink RX5 121 yX5_rounded, .static yX5_rounded, .code yX5_rounded cX5_rounded 4 (some .long), .constantLong RX5 60 (2)] ++ wsX50)
def wsX5_writeOff_r1 : List Cond := [Cond.fieldLink RX5 152 "AgedAssetsModel" "last" "J", Cond.fieldLink RX5 134 "AgedAssetsModel" "held" "Z", Cond.fieldLink RX5 130 "AgedAssetsModel" "gone" "Z", Cond.fieldLink RX5 85 "AgedAssetsModel" "rest" "I", Cond.fieldLink RX5 97 "AgedAssetsModel" "charged" "I", Cond.fieldLink RX5 23 "AgedAssetsModel" "methods" "[I", Cond.fieldLink RX5 100 "AgedAssetsModel" "stretchUnits" "I", Cond.fieldLink RX5 29 "AgedAssetsModel" "used" "[I", Cond.fieldLink RX5 91 "AgedAssetsModel" "spent" "I", Cond.fieldLink RX5 103 "AgedAssetsModel" "done" "J", Cond.fieldLink RX5 69 "AgedAssetsModel" "allowance" "J", Cond.fieldLink RX5 163 "AgedAssetsModel" "sum" "J", Cond.methodLink RX5 155 yX5_declining, Cond.instanceMethod yX5_declining, Cond.selects RX5 yX5_declining yX5_declining, Cond.initialized RX5, Cond.code yX5_declining cX5_declining 11 (some .long), Cond.fieldLink RX5 79 "AgedAssetsModel" "residual" "J", Cond.fieldLink RX5 26 "AgedAssetsModel" "rates" "[I", Cond.constantLong RX5 119 (1000000), Cond.methodLink RX5 75 yX5_book, Cond.instanceMethod yX5_book, Cond.selects RX5 yX5_book yX5_book, Cond.code yX5_book cX5_book 1 (some .long)]
def wsX5_writeOff_r2 : List Cond := [Cond.fieldLink RX5 65 "AgedAssetsModel" "cost" "J", Cond.methodLink RX5 121 yX5_rounded, Cond.static yX5_rounded, Cond.code yX5_rounded cX5_rounded 4 (some .long), Cond.constantLong RX5 60 (2), Cond.methodLink RX5 159 yX5_together, Cond.instanceMethod yX5_together, Cond.selects RX5 yX5_together yX5_together, Cond.code yX5_together cX5_together 4 (some .long), Cond.fieldLink RX5 82 "AgedAssetsModel" "base" "J", Cond.fieldLink RX5 88 "AgedAssetsModel" "length" "I", Cond.fieldLink RX5 94 "AgedAssetsModel" "left" "I"]
def wsX5_writeOff : List Cond := .code yX5_writeOff cX5_writeOff 5 none :: ((wsX5_writeOff_r1 ++ wsX5_writeOff_r2) ++ wsX50)
def wsX5_clear : List Cond := .code yX5_clear cX5_clear 1 none :: ([.fieldLink RX5 65 "AgedAssetsModel" "cost" "J", .fieldLink RX5 69 "AgedAssetsModel" "allowance" "J", .fieldLink RX5 106 "AgedAssetsModel" "reserve" "J", .fieldLink RX5 109 "AgedAssetsModel" "losses" "J", .fieldLink RX5 79 "AgedAssetsModel" "residual" "J", .fieldLink RX5 85 "AgedAssetsModel" "rest" "I", .fieldLink RX5 134 "AgedAssetsModel" "held" "Z", .fieldLink RX5 130 "AgedAssetsModel" "gone" "Z", .fieldLink RX5 91 "AgedAssetsModel" "spent" "I", .fieldLink RX5 152 "AgedAssetsModel" "last" "J", .fieldLink RX5 163 "AgedAssetsModel" "sum" "J"] ++ wsX50)
def wsX5_go_r1 : List Cond := [Cond.fieldLink RX5 16 "AgedAssetsModel" "firsts" "[I", Cond.fieldLink RX5 7 "AgedAssetsModel" "costs" "[J", Cond.fieldLink RX5 65 "AgedAssetsModel" "cost" "J", Cond.fieldLink RX5 13 "AgedAssetsModel" "residuals" "[J", Cond.fieldLink RX5 79 "AgedAssetsModel" "residual" "J", Cond.fieldLink RX5 20 "AgedAssetsModel" "lives" "[I", Cond.fieldLink RX5 85 "AgedAssetsModel" "rest" "I", Cond.fieldLink RX5 41 "AgedAssetsModel" "kinds" "[I", Cond.fieldLink RX5 50 "AgedAssetsModel" "before" "[J", Cond.fieldLink RX5 53 "AgedAssetsModel" "behind" "[J", Cond.methodLink RX5 166 yX5_clear, Cond.instanceMethod yX5_clear, Cond.selects RX5 yX5_clear yX5_clear, Cond.initialized RX5, Cond.code yX5_clear cX5_clear 1 none, Cond.fieldLink RX5 69 "AgedAssetsModel" "allowance" "J", Cond.fieldLink RX5 106 "AgedAssetsModel" "reserve" "J", Cond.fieldLink RX5 109 "AgedAssetsModel" "losses" "J", Cond.fieldLink RX5 134 "AgedAssetsModel" "held" "Z", Cond.fieldLink RX5 130 "AgedAssetsModel" "gone" "Z", Cond.fieldLink RX5 91 "AgedAssetsModel" "spent" "I", Cond.fieldLink RX5 152 "AgedAssetsModel" "last" "J", Cond.fieldLink RX5 163 "AgedAssetsModel" "sum" "J", Cond.methodLink RX5 169 yX5_stretch]
def wsX5_go_r2 : List Cond := [Cond.instanceMethod yX5_stretch, Cond.selects RX5 yX5_stretch yX5_stretch, Cond.code yX5_stretch cX5_stretch 2 none, Cond.fieldLink RX5 82 "AgedAssetsModel" "base" "J", Cond.fieldLink RX5 88 "AgedAssetsModel" "length" "I", Cond.fieldLink RX5 26 "AgedAssetsModel" "rates" "[I", Cond.fieldLink RX5 94 "AgedAssetsModel" "left" "I", Cond.fieldLink RX5 97 "AgedAssetsModel" "charged" "I", Cond.fieldLink RX5 100 "AgedAssetsModel" "stretchUnits" "I", Cond.fieldLink RX5 103 "AgedAssetsModel" "done" "J", Cond.methodLink RX5 75 yX5_book, Cond.instanceMethod yX5_book, Cond.selects RX5 yX5_book yX5_book, Cond.code yX5_book cX5_book 1 (some .long), Cond.methodLink RX5 172 yX5_eventIn, Cond.instanceMethod yX5_eventIn, Cond.selects RX5 yX5_eventIn yX5_eventIn, Cond.code yX5_eventIn cX5_eventIn 5 (some .int), Cond.fieldLink RX5 72 "AgedAssetsModel" "events" "I", Cond.fieldLink RX5 35 "AgedAssetsModel" "of" "[I", Cond.fieldLink RX5 38 "AgedAssetsModel" "when" "[I", Cond.methodLink RX5 176 yX5_happens, Cond.instanceMethod yX5_happens, Cond.selects RX5 yX5_happens yX5_happens]
def wsX5_go_r3 : List Cond := [Cond.code yX5_happens cX5_happens 7 (some .boolean), Cond.fieldLink RX5 44 "AgedAssetsModel" "amounts" "[J", Cond.fieldLink RX5 47 "AgedAssetsModel" "numbers" "[I", Cond.methodLink RX5 137 yX5_values, Cond.instanceMethod yX5_values, Cond.selects RX5 yX5_values yX5_values, Cond.code yX5_values cX5_values 3 none, Cond.methodLink RX5 112 yX5_fall, Cond.instanceMethod yX5_fall, Cond.selects RX5 yX5_fall yX5_fall, Cond.code yX5_fall cX5_fall 5 none, Cond.methodLink RX5 140 yX5_impairs, Cond.instanceMethod yX5_impairs, Cond.selects RX5 yX5_impairs yX5_impairs, Cond.code yX5_impairs cX5_impairs 3 (some .boolean), Cond.methodLink RX5 144 yX5_restores, Cond.instanceMethod yX5_restores, Cond.selects RX5 yX5_restores yX5_restores, Cond.code yX5_restores cX5_restores 6 (some .boolean), Cond.fieldLink RX5 116 "AgedAssetsModel" "bad" "I", Cond.methodLink RX5 148 yX5_sells, Cond.instanceMethod yX5_sells, Cond.selects RX5 yX5_sells yX5_sells, Cond.code yX5_sells cX5_sells 2 none]
def wsX5_go_r4 : List Cond := [Cond.constant RX5 129 (1000000), Cond.methodLink RX5 125 yX5_less, Cond.static yX5_less, Cond.code yX5_less cX5_less 3 (some .long), Cond.constantLong RX5 119 (1000000), Cond.methodLink RX5 121 yX5_rounded, Cond.static yX5_rounded, Cond.code yX5_rounded cX5_rounded 4 (some .long), Cond.constantLong RX5 60 (2), Cond.methodLink RX5 180 yX5_writeOff, Cond.instanceMethod yX5_writeOff, Cond.selects RX5 yX5_writeOff yX5_writeOff, Cond.code yX5_writeOff cX5_writeOff 5 none, Cond.fieldLink RX5 23 "AgedAssetsModel" "methods" "[I", Cond.fieldLink RX5 29 "AgedAssetsModel" "used" "[I", Cond.methodLink RX5 155 yX5_declining, Cond.instanceMethod yX5_declining, Cond.selects RX5 yX5_declining yX5_declining, Cond.code yX5_declining cX5_declining 11 (some .long), Cond.methodLink RX5 159 yX5_together, Cond.instanceMethod yX5_together, Cond.selects RX5 yX5_together yX5_together, Cond.code yX5_together cX5_together 4 (some .long)]
def wsX5_go : List Cond := .code yX5_go cX5_go 7 (some .int) :: ((wsX5_go_r1 ++ (wsX5_go_r2 ++ (wsX5_go_r3 ++ wsX5_go_r4))) ++ wsX50)
def wsX5_reckon_r1 : List Cond := [Cond.fieldLink RX5 116 "AgedAssetsModel" "bad" "I", Cond.methodLink RX5 184 yX5_go, Cond.instanceMethod yX5_go, Cond.selects RX5 yX5_go yX5_go, Cond.initialized RX5, Cond.code yX5_go cX5_go 7 (some .int), Cond.fieldLink RX5 16 "AgedAssetsModel" "firsts" "[I", Cond.fieldLink RX5 7 "AgedAssetsModel" "costs" "[J", Cond.fieldLink RX5 65 "AgedAssetsModel" "cost" "J", Cond.fieldLink RX5 13 "AgedAssetsModel" "residuals" "[J", Cond.fieldLink RX5 79 "AgedAssetsModel" "residual" "J", Cond.fieldLink RX5 20 "AgedAssetsModel" "lives" "[I", Cond.fieldLink RX5 85 "AgedAssetsModel" "rest" "I", Cond.fieldLink RX5 41 "AgedAssetsModel" "kinds" "[I", Cond.fieldLink RX5 50 "AgedAssetsModel" "before" "[J", Cond.fieldLink RX5 53 "AgedAssetsModel" "behind" "[J", Cond.methodLink RX5 166 yX5_clear, Cond.instanceMethod yX5_clear, Cond.selects RX5 yX5_clear yX5_clear, Cond.code yX5_clear cX5_clear 1 none, Cond.fieldLink RX5 69 "AgedAssetsModel" "allowance" "J", Cond.fieldLink RX5 106 "AgedAssetsModel" "reserve" "J", Cond.fieldLink RX5 109 "AgedAssetsModel" "losses" "J", Cond.fieldLink RX5 134 "AgedAssetsModel" "held" "Z"]
def wsX5_reckon_r2 : List Cond := [Cond.fieldLink RX5 130 "AgedAssetsModel" "gone" "Z", Cond.fieldLink RX5 91 "AgedAssetsModel" "spent" "I", Cond.fieldLink RX5 152 "AgedAssetsModel" "last" "J", Cond.fieldLink RX5 163 "AgedAssetsModel" "sum" "J", Cond.methodLink RX5 169 yX5_stretch, Cond.instanceMethod yX5_stretch, Cond.selects RX5 yX5_stretch yX5_stretch, Cond.code yX5_stretch cX5_stretch 2 none, Cond.fieldLink RX5 82 "AgedAssetsModel" "base" "J", Cond.fieldLink RX5 88 "AgedAssetsModel" "length" "I", Cond.fieldLink RX5 26 "AgedAssetsModel" "rates" "[I", Cond.fieldLink RX5 94 "AgedAssetsModel" "left" "I", Cond.fieldLink RX5 97 "AgedAssetsModel" "charged" "I", Cond.fieldLink RX5 100 "AgedAssetsModel" "stretchUnits" "I", Cond.fieldLink RX5 103 "AgedAssetsModel" "done" "J", Cond.methodLink RX5 75 yX5_book, Cond.instanceMethod yX5_book, Cond.selects RX5 yX5_book yX5_book, Cond.code yX5_book cX5_book 1 (some .long), Cond.methodLink RX5 172 yX5_eventIn, Cond.instanceMethod yX5_eventIn, Cond.selects RX5 yX5_eventIn yX5_eventIn, Cond.code yX5_eventIn cX5_eventIn 5 (some .int), Cond.fieldLink RX5 72 "AgedAssetsModel" "events" "I"]
def wsX5_reckon_r3 : List Cond := [Cond.fieldLink RX5 35 "AgedAssetsModel" "of" "[I", Cond.fieldLink RX5 38 "AgedAssetsModel" "when" "[I", Cond.methodLink RX5 176 yX5_happens, Cond.instanceMethod yX5_happens, Cond.selects RX5 yX5_happens yX5_happens, Cond.code yX5_happens cX5_happens 7 (some .boolean), Cond.fieldLink RX5 44 "AgedAssetsModel" "amounts" "[J", Cond.fieldLink RX5 47 "AgedAssetsModel" "numbers" "[I", Cond.methodLink RX5 137 yX5_values, Cond.instanceMethod yX5_values, Cond.selects RX5 yX5_values yX5_values, Cond.code yX5_values cX5_values 3 none, Cond.methodLink RX5 112 yX5_fall, Cond.instanceMethod yX5_fall, Cond.selects RX5 yX5_fall yX5_fall, Cond.code yX5_fall cX5_fall 5 none, Cond.methodLink RX5 140 yX5_impairs, Cond.instanceMethod yX5_impairs, Cond.selects RX5 yX5_impairs yX5_impairs, Cond.code yX5_impairs cX5_impairs 3 (some .boolean), Cond.methodLink RX5 144 yX5_restores, Cond.instanceMethod yX5_restores, Cond.selects RX5 yX5_restores yX5_restores, Cond.code yX5_restores cX5_restores 6 (some .boolean)]
def wsX5_reckon_r4 : List Cond := [Cond.methodLink RX5 148 yX5_sells, Cond.instanceMethod yX5_sells, Cond.selects RX5 yX5_sells yX5_sells, Cond.code yX5_sells cX5_sells 2 none, Cond.constant RX5 129 (1000000), Cond.methodLink RX5 125 yX5_less, Cond.static yX5_less, Cond.code yX5_less cX5_less 3 (some .long), Cond.constantLong RX5 119 (1000000), Cond.methodLink RX5 121 yX5_rounded, Cond.static yX5_rounded, Cond.code yX5_rounded cX5_rounded 4 (some .long), Cond.constantLong RX5 60 (2), Cond.methodLink RX5 180 yX5_writeOff, Cond.instanceMethod yX5_writeOff, Cond.selects RX5 yX5_writeOff yX5_writeOff, Cond.code yX5_writeOff cX5_writeOff 5 none, Cond.fieldLink RX5 23 "AgedAssetsModel" "methods" "[I", Cond.fieldLink RX5 29 "AgedAssetsModel" "used" "[I", Cond.methodLink RX5 155 yX5_declining, Cond.instanceMethod yX5_declining, Cond.selects RX5 yX5_declining yX5_declining, Cond.code yX5_declining cX5_declining 11 (some .long), Cond.methodLink RX5 159 yX5_together]
def wsX5_reckon_r5 : List Cond := [Cond.instanceMethod yX5_together, Cond.selects RX5 yX5_together yX5_together, Cond.code yX5_together cX5_together 4 (some .long)]
def wsX5_reckon : List Cond := .code yX5_reckon cX5_reckon 3 (some .boolean) :: ((wsX5_reckon_r1 ++ (wsX5_reckon_r2 ++ (wsX5_reckon_r3 ++ (wsX5_reckon_r4 ++ wsX5_reckon_r5)))) ++ wsX50)
def wsX5_part : List Cond := .code yX5_part cX5_part 10 (some .int) :: ([.constantLong RX5 188 (1000000000), .constantLong RX5 198 (36), .constantLong RX5 200 (3), .constantLong RX5 119 (1000000), .fieldLink RX5 62 "AgedAssetsModel" "parts" "I", .fieldLink RX5 56 "AgedAssetsModel" "code" "I", .fieldLink RX5 7 "AgedAssetsModel" "costs" "[J", .fieldLink RX5 13 "AgedAssetsModel" "residuals" "[J", .fieldLink RX5 16 "AgedAssetsModel" "firsts" "[I", .fieldLink RX5 20 "AgedAssetsModel" "lives" "[I", .fieldLink RX5 23 "AgedAssetsModel" "methods" "[I", .fieldLink RX5 26 "AgedAssetsModel" "rates" "[I", .methodLink RX5 190 yX5_isIn, .static yX5_isIn, .initialized RX5, .code yX5_isIn cX5_isIn 6 (some .boolean), .methodLink RX5 194 yX5_isMonth, .static yX5_isMonth, .code yX5_isMonth cX5_isMonth 1 (some .boolean)] ++ wsX50)
def wsX5_units_r1 : List Cond := [Cond.constantLong RX5 119 (1000000), Cond.fieldLink RX5 56 "AgedAssetsModel" "code" "I", Cond.fieldLink RX5 29 "AgedAssetsModel" "used" "[I", Cond.methodLink RX5 202 yX5_isPart, Cond.instanceMethod yX5_isPart, Cond.selects RX5 yX5_isPart yX5_isPart, Cond.initialized RX5, Cond.code yX5_isPart cX5_isPart 2 (some .boolean), Cond.fieldLink RX5 62 "AgedAssetsModel" "parts" "I", Cond.methodLink RX5 194 yX5_isMonth, Cond.static yX5_isMonth, Cond.code yX5_isMonth cX5_isMonth 1 (some .boolean), Cond.methodLink RX5 190 yX5_isIn, Cond.static yX5_isIn, Cond.code yX5_isIn cX5_isIn 6 (some .boolean), Cond.methodLink RX5 205 yX5_reckon, Cond.instanceMethod yX5_reckon, Cond.selects RX5 yX5_reckon yX5_reckon, Cond.code yX5_reckon cX5_reckon 3 (some .boolean), Cond.fieldLink RX5 116 "AgedAssetsModel" "bad" "I", Cond.methodLink RX5 184 yX5_go, Cond.instanceMethod yX5_go, Cond.selects RX5 yX5_go yX5_go, Cond.code yX5_go cX5_go 7 (some .int)]
def wsX5_units_r2 : List Cond := [Cond.fieldLink RX5 16 "AgedAssetsModel" "firsts" "[I", Cond.fieldLink RX5 7 "AgedAssetsModel" "costs" "[J", Cond.fieldLink RX5 65 "AgedAssetsModel" "cost" "J", Cond.fieldLink RX5 13 "AgedAssetsModel" "residuals" "[J", Cond.fieldLink RX5 79 "AgedAssetsModel" "residual" "J", Cond.fieldLink RX5 20 "AgedAssetsModel" "lives" "[I", Cond.fieldLink RX5 85 "AgedAssetsModel" "rest" "I", Cond.fieldLink RX5 41 "AgedAssetsModel" "kinds" "[I", Cond.fieldLink RX5 50 "AgedAssetsModel" "before" "[J", Cond.fieldLink RX5 53 "AgedAssetsModel" "behind" "[J", Cond.methodLink RX5 166 yX5_clear, Cond.instanceMethod yX5_clear, Cond.selects RX5 yX5_clear yX5_clear, Cond.code yX5_clear cX5_clear 1 none, Cond.fieldLink RX5 69 "AgedAssetsModel" "allowance" "J", Cond.fieldLink RX5 106 "AgedAssetsModel" "reserve" "J", Cond.fieldLink RX5 109 "AgedAssetsModel" "losses" "J", Cond.fieldLink RX5 134 "AgedAssetsModel" "held" "Z", Cond.fieldLink RX5 130 "AgedAssetsModel" "gone" "Z", Cond.fieldLink RX5 91 "AgedAssetsModel" "spent" "I", Cond.fieldLink RX5 152 "AgedAssetsModel" "last" "J", Cond.fieldLink RX5 163 "AgedAssetsModel" "sum" "J", Cond.methodLink RX5 169 yX5_stretch, Cond.instanceMethod yX5_stretch]
def wsX5_units_r3 : List Cond := [Cond.selects RX5 yX5_stretch yX5_stretch, Cond.code yX5_stretch cX5_stretch 2 none, Cond.fieldLink RX5 82 "AgedAssetsModel" "base" "J", Cond.fieldLink RX5 88 "AgedAssetsModel" "length" "I", Cond.fieldLink RX5 26 "AgedAssetsModel" "rates" "[I", Cond.fieldLink RX5 94 "AgedAssetsModel" "left" "I", Cond.fieldLink RX5 97 "AgedAssetsModel" "charged" "I", Cond.fieldLink RX5 100 "AgedAssetsModel" "stretchUnits" "I", Cond.fieldLink RX5 103 "AgedAssetsModel" "done" "J", Cond.methodLink RX5 75 yX5_book, Cond.instanceMethod yX5_book, Cond.selects RX5 yX5_book yX5_book, Cond.code yX5_book cX5_book 1 (some .long), Cond.methodLink RX5 172 yX5_eventIn, Cond.instanceMethod yX5_eventIn, Cond.selects RX5 yX5_eventIn yX5_eventIn, Cond.code yX5_eventIn cX5_eventIn 5 (some .int), Cond.fieldLink RX5 72 "AgedAssetsModel" "events" "I", Cond.fieldLink RX5 35 "AgedAssetsModel" "of" "[I", Cond.fieldLink RX5 38 "AgedAssetsModel" "when" "[I", Cond.methodLink RX5 176 yX5_happens, Cond.instanceMethod yX5_happens, Cond.selects RX5 yX5_happens yX5_happens, Cond.code yX5_happens cX5_happens 7 (some .boolean)]
def wsX5_units_r4 : List Cond := [Cond.fieldLink RX5 44 "AgedAssetsModel" "amounts" "[J", Cond.fieldLink RX5 47 "AgedAssetsModel" "numbers" "[I", Cond.methodLink RX5 137 yX5_values, Cond.instanceMethod yX5_values, Cond.selects RX5 yX5_values yX5_values, Cond.code yX5_values cX5_values 3 none, Cond.methodLink RX5 112 yX5_fall, Cond.instanceMethod yX5_fall, Cond.selects RX5 yX5_fall yX5_fall, Cond.code yX5_fall cX5_fall 5 none, Cond.methodLink RX5 140 yX5_impairs, Cond.instanceMethod yX5_impairs, Cond.selects RX5 yX5_impairs yX5_impairs, Cond.code yX5_impairs cX5_impairs 3 (some .boolean), Cond.methodLink RX5 144 yX5_restores, Cond.instanceMethod yX5_restores, Cond.selects RX5 yX5_restores yX5_restores, Cond.code yX5_restores cX5_restores 6 (some .boolean), Cond.methodLink RX5 148 yX5_sells, Cond.instanceMethod yX5_sells, Cond.selects RX5 yX5_sells yX5_sells, Cond.code yX5_sells cX5_sells 2 none, Cond.constant RX5 129 (1000000), Cond.methodLink RX5 125 yX5_less]
def wsX5_units_r5 : List Cond := [Cond.static yX5_less, Cond.code yX5_less cX5_less 3 (some .long), Cond.methodLink RX5 121 yX5_rounded, Cond.static yX5_rounded, Cond.code yX5_rounded cX5_rounded 4 (some .long), Cond.constantLong RX5 60 (2), Cond.methodLink RX5 180 yX5_writeOff, Cond.instanceMethod yX5_writeOff, Cond.selects RX5 yX5_writeOff yX5_writeOff, Cond.code yX5_writeOff cX5_writeOff 5 none, Cond.fieldLink RX5 23 "AgedAssetsModel" "methods" "[I", Cond.methodLink RX5 155 yX5_declining, Cond.instanceMethod yX5_declining, Cond.selects RX5 yX5_declining yX5_declining, Cond.code yX5_declining cX5_declining 11 (some .long), Cond.methodLink RX5 159 yX5_together, Cond.instanceMethod yX5_together, Cond.selects RX5 yX5_together yX5_together, Cond.code yX5_together cX5_together 4 (some .long)]
def wsX5_units : List Cond := .code yX5_units cX5_units 5 (some .int) :: ((wsX5_units_r1 ++ (wsX5_units_r2 ++ (wsX5_units_r3 ++ (wsX5_units_r4 ++ wsX5_units_r5)))) ++ wsX50)
def wsX5_countOf : List Cond := .code yX5_countOf cX5_countOf 4 (some .int) :: ([.fieldLink RX5 72 "AgedAssetsModel" "events" "I", .fieldLink RX5 35 "AgedAssetsModel" "of" "[I"] ++ wsX50)
def wsX5_event_r1 : List Cond := [Cond.fieldLink RX5 16 "AgedAssetsModel" "firsts" "[I", Cond.constantLong RX5 208 (7), Cond.constantLong RX5 188 (1000000000), Cond.constantLong RX5 198 (36), Cond.constantLong RX5 119 (1000000), Cond.fieldLink RX5 72 "AgedAssetsModel" "events" "I", Cond.fieldLink RX5 56 "AgedAssetsModel" "code" "I", Cond.fieldLink RX5 35 "AgedAssetsModel" "of" "[I", Cond.fieldLink RX5 38 "AgedAssetsModel" "when" "[I", Cond.fieldLink RX5 41 "AgedAssetsModel" "kinds" "[I", Cond.fieldLink RX5 44 "AgedAssetsModel" "amounts" "[J", Cond.fieldLink RX5 47 "AgedAssetsModel" "numbers" "[I", Cond.methodLink RX5 202 yX5_isPart, Cond.instanceMethod yX5_isPart, Cond.selects RX5 yX5_isPart yX5_isPart, Cond.initialized RX5, Cond.code yX5_isPart cX5_isPart 2 (some .boolean), Cond.fieldLink RX5 62 "AgedAssetsModel" "parts" "I", Cond.methodLink RX5 194 yX5_isMonth, Cond.static yX5_isMonth, Cond.code yX5_isMonth cX5_isMonth 1 (some .boolean), Cond.methodLink RX5 190 yX5_isIn, Cond.static yX5_isIn, Cond.code yX5_isIn cX5_isIn 6 (some .boolean)]
def wsX5_event_r2 : List Cond := [Cond.methodLink RX5 172 yX5_eventIn, Cond.instanceMethod yX5_eventIn, Cond.selects RX5 yX5_eventIn yX5_eventIn, Cond.code yX5_eventIn cX5_eventIn 5 (some .int), Cond.methodLink RX5 210 yX5_countOf, Cond.instanceMethod yX5_countOf, Cond.selects RX5 yX5_countOf yX5_countOf, Cond.code yX5_countOf cX5_countOf 4 (some .int), Cond.methodLink RX5 205 yX5_reckon, Cond.instanceMethod yX5_reckon, Cond.selects RX5 yX5_reckon yX5_reckon, Cond.code yX5_reckon cX5_reckon 3 (some .boolean), Cond.fieldLink RX5 116 "AgedAssetsModel" "bad" "I", Cond.methodLink RX5 184 yX5_go, Cond.instanceMethod yX5_go, Cond.selects RX5 yX5_go yX5_go, Cond.code yX5_go cX5_go 7 (some .int), Cond.fieldLink RX5 7 "AgedAssetsModel" "costs" "[J", Cond.fieldLink RX5 65 "AgedAssetsModel" "cost" "J", Cond.fieldLink RX5 13 "AgedAssetsModel" "residuals" "[J", Cond.fieldLink RX5 79 "AgedAssetsModel" "residual" "J", Cond.fieldLink RX5 20 "AgedAssetsModel" "lives" "[I", Cond.fieldLink RX5 85 "AgedAssetsModel" "rest" "I", Cond.fieldLink RX5 50 "AgedAssetsModel" "before" "[J"]
def wsX5_event_r3 : List Cond := [Cond.fieldLink RX5 53 "AgedAssetsModel" "behind" "[J", Cond.methodLink RX5 166 yX5_clear, Cond.instanceMethod yX5_clear, Cond.selects RX5 yX5_clear yX5_clear, Cond.code yX5_clear cX5_clear 1 none, Cond.fieldLink RX5 69 "AgedAssetsModel" "allowance" "J", Cond.fieldLink RX5 106 "AgedAssetsModel" "reserve" "J", Cond.fieldLink RX5 109 "AgedAssetsModel" "losses" "J", Cond.fieldLink RX5 134 "AgedAssetsModel" "held" "Z", Cond.fieldLink RX5 130 "AgedAssetsModel" "gone" "Z", Cond.fieldLink RX5 91 "AgedAssetsModel" "spent" "I", Cond.fieldLink RX5 152 "AgedAssetsModel" "last" "J", Cond.fieldLink RX5 163 "AgedAssetsModel" "sum" "J", Cond.methodLink RX5 169 yX5_stretch, Cond.instanceMethod yX5_stretch, Cond.selects RX5 yX5_stretch yX5_stretch, Cond.code yX5_stretch cX5_stretch 2 none, Cond.fieldLink RX5 82 "AgedAssetsModel" "base" "J", Cond.fieldLink RX5 88 "AgedAssetsModel" "length" "I", Cond.fieldLink RX5 26 "AgedAssetsModel" "rates" "[I", Cond.fieldLink RX5 94 "AgedAssetsModel" "left" "I", Cond.fieldLink RX5 97 "AgedAssetsModel" "charged" "I", Cond.fieldLink RX5 100 "AgedAssetsModel" "stretchUnits" "I", Cond.fieldLink RX5 103 "AgedAssetsModel" "done" "J"]
def wsX5_event_r4 : List Cond := [Cond.methodLink RX5 75 yX5_book, Cond.instanceMethod yX5_book, Cond.selects RX5 yX5_book yX5_book, Cond.code yX5_book cX5_book 1 (some .long), Cond.methodLink RX5 176 yX5_happens, Cond.instanceMethod yX5_happens, Cond.selects RX5 yX5_happens yX5_happens, Cond.code yX5_happens cX5_happens 7 (some .boolean), Cond.methodLink RX5 137 yX5_values, Cond.instanceMethod yX5_values, Cond.selects RX5 yX5_values yX5_values, Cond.code yX5_values cX5_values 3 none, Cond.methodLink RX5 112 yX5_fall, Cond.instanceMethod yX5_fall, Cond.selects RX5 yX5_fall yX5_fall, Cond.code yX5_fall cX5_fall 5 none, Cond.methodLink RX5 140 yX5_impairs, Cond.instanceMethod yX5_impairs, Cond.selects RX5 yX5_impairs yX5_impairs, Cond.code yX5_impairs cX5_impairs 3 (some .boolean), Cond.methodLink RX5 144 yX5_restores, Cond.instanceMethod yX5_restores, Cond.selects RX5 yX5_restores yX5_restores, Cond.code yX5_restores cX5_restores 6 (some .boolean)]
def wsX5_event_r5 : List Cond := [Cond.methodLink RX5 148 yX5_sells, Cond.instanceMethod yX5_sells, Cond.selects RX5 yX5_sells yX5_sells, Cond.code yX5_sells cX5_sells 2 none, Cond.constant RX5 129 (1000000), Cond.methodLink RX5 125 yX5_less, Cond.static yX5_less, Cond.code yX5_less cX5_less 3 (some .long), Cond.methodLink RX5 121 yX5_rounded, Cond.static yX5_rounded, Cond.code yX5_rounded cX5_rounded 4 (some .long), Cond.constantLong RX5 60 (2), Cond.methodLink RX5 180 yX5_writeOff, Cond.instanceMethod yX5_writeOff, Cond.selects RX5 yX5_writeOff yX5_writeOff, Cond.code yX5_writeOff cX5_writeOff 5 none, Cond.fieldLink RX5 23 "AgedAssetsModel" "methods" "[I", Cond.fieldLink RX5 29 "AgedAssetsModel" "used" "[I", Cond.methodLink RX5 155 yX5_declining, Cond.instanceMethod yX5_declining, Cond.selects RX5 yX5_declining yX5_declining, Cond.code yX5_declining cX5_declining 11 (some .long), Cond.methodLink RX5 159 yX5_together, Cond.instanceMethod yX5_together]
def wsX5_event_r6 : List Cond := [Cond.selects RX5 yX5_together yX5_together, Cond.code yX5_together cX5_together 4 (some .long)]
def wsX5_event : List Cond := .code yX5_event cX5_event 8 (some .int) :: ((wsX5_event_r1 ++ (wsX5_event_r2 ++ (wsX5_event_r3 ++ (wsX5_event_r4 ++ (wsX5_event_r5 ++ wsX5_event_r6))))) ++ wsX50)
def wsX5_isEvent : List Cond := .code yX5_isEvent cX5_isEvent 2 (some .boolean) :: ([.fieldLink RX5 72 "AgedAssetsModel" "events" "I", .fieldLink RX5 35 "AgedAssetsModel" "of" "[I"] ++ wsX50)
def wsX5_strike_r1 : List Cond := [Cond.fieldLink RX5 56 "AgedAssetsModel" "code" "I", Cond.fieldLink RX5 35 "AgedAssetsModel" "of" "[I", Cond.methodLink RX5 214 yX5_isEvent, Cond.instanceMethod yX5_isEvent, Cond.selects RX5 yX5_isEvent yX5_isEvent, Cond.initialized RX5, Cond.code yX5_isEvent cX5_isEvent 2 (some .boolean), Cond.fieldLink RX5 72 "AgedAssetsModel" "events" "I", Cond.methodLink RX5 205 yX5_reckon, Cond.instanceMethod yX5_reckon, Cond.selects RX5 yX5_reckon yX5_reckon, Cond.code yX5_reckon cX5_reckon 3 (some .boolean), Cond.fieldLink RX5 116 "AgedAssetsModel" "bad" "I", Cond.methodLink RX5 184 yX5_go, Cond.instanceMethod yX5_go, Cond.selects RX5 yX5_go yX5_go, Cond.code yX5_go cX5_go 7 (some .int), Cond.fieldLink RX5 16 "AgedAssetsModel" "firsts" "[I", Cond.fieldLink RX5 7 "AgedAssetsModel" "costs" "[J", Cond.fieldLink RX5 65 "AgedAssetsModel" "cost" "J", Cond.fieldLink RX5 13 "AgedAssetsModel" "residuals" "[J", Cond.fieldLink RX5 79 "AgedAssetsModel" "residual" "J", Cond.fieldLink RX5 20 "AgedAssetsModel" "lives" "[I", Cond.fieldLink RX5 85 "AgedAssetsModel" "rest" "I"]
def wsX5_strike_r2 : List Cond := [Cond.fieldLink RX5 41 "AgedAssetsModel" "kinds" "[I", Cond.fieldLink RX5 50 "AgedAssetsModel" "before" "[J", Cond.fieldLink RX5 53 "AgedAssetsModel" "behind" "[J", Cond.methodLink RX5 166 yX5_clear, Cond.instanceMethod yX5_clear, Cond.selects RX5 yX5_clear yX5_clear, Cond.code yX5_clear cX5_clear 1 none, Cond.fieldLink RX5 69 "AgedAssetsModel" "allowance" "J", Cond.fieldLink RX5 106 "AgedAssetsModel" "reserve" "J", Cond.fieldLink RX5 109 "AgedAssetsModel" "losses" "J", Cond.fieldLink RX5 134 "AgedAssetsModel" "held" "Z", Cond.fieldLink RX5 130 "AgedAssetsModel" "gone" "Z", Cond.fieldLink RX5 91 "AgedAssetsModel" "spent" "I", Cond.fieldLink RX5 152 "AgedAssetsModel" "last" "J", Cond.fieldLink RX5 163 "AgedAssetsModel" "sum" "J", Cond.methodLink RX5 169 yX5_stretch, Cond.instanceMethod yX5_stretch, Cond.selects RX5 yX5_stretch yX5_stretch, Cond.code yX5_stretch cX5_stretch 2 none, Cond.fieldLink RX5 82 "AgedAssetsModel" "base" "J", Cond.fieldLink RX5 88 "AgedAssetsModel" "length" "I", Cond.fieldLink RX5 26 "AgedAssetsModel" "rates" "[I", Cond.fieldLink RX5 94 "AgedAssetsModel" "left" "I", Cond.fieldLink RX5 97 "AgedAssetsModel" "charged" "I"]
def wsX5_strike_r3 : List Cond := [Cond.fieldLink RX5 100 "AgedAssetsModel" "stretchUnits" "I", Cond.fieldLink RX5 103 "AgedAssetsModel" "done" "J", Cond.methodLink RX5 75 yX5_book, Cond.instanceMethod yX5_book, Cond.selects RX5 yX5_book yX5_book, Cond.code yX5_book cX5_book 1 (some .long), Cond.methodLink RX5 172 yX5_eventIn, Cond.instanceMethod yX5_eventIn, Cond.selects RX5 yX5_eventIn yX5_eventIn, Cond.code yX5_eventIn cX5_eventIn 5 (some .int), Cond.fieldLink RX5 38 "AgedAssetsModel" "when" "[I", Cond.methodLink RX5 176 yX5_happens, Cond.instanceMethod yX5_happens, Cond.selects RX5 yX5_happens yX5_happens, Cond.code yX5_happens cX5_happens 7 (some .boolean), Cond.fieldLink RX5 44 "AgedAssetsModel" "amounts" "[J", Cond.fieldLink RX5 47 "AgedAssetsModel" "numbers" "[I", Cond.methodLink RX5 137 yX5_values, Cond.instanceMethod yX5_values, Cond.selects RX5 yX5_values yX5_values, Cond.code yX5_values cX5_values 3 none, Cond.methodLink RX5 112 yX5_fall, Cond.instanceMethod yX5_fall, Cond.selects RX5 yX5_fall yX5_fall]
def wsX5_strike_r4 : List Cond := [Cond.code yX5_fall cX5_fall 5 none, Cond.methodLink RX5 140 yX5_impairs, Cond.instanceMethod yX5_impairs, Cond.selects RX5 yX5_impairs yX5_impairs, Cond.code yX5_impairs cX5_impairs 3 (some .boolean), Cond.methodLink RX5 144 yX5_restores, Cond.instanceMethod yX5_restores, Cond.selects RX5 yX5_restores yX5_restores, Cond.code yX5_restores cX5_restores 6 (some .boolean), Cond.methodLink RX5 148 yX5_sells, Cond.instanceMethod yX5_sells, Cond.selects RX5 yX5_sells yX5_sells, Cond.code yX5_sells cX5_sells 2 none, Cond.constant RX5 129 (1000000), Cond.methodLink RX5 125 yX5_less, Cond.static yX5_less, Cond.code yX5_less cX5_less 3 (some .long), Cond.constantLong RX5 119 (1000000), Cond.methodLink RX5 121 yX5_rounded, Cond.static yX5_rounded, Cond.code yX5_rounded cX5_rounded 4 (some .long), Cond.constantLong RX5 60 (2), Cond.methodLink RX5 180 yX5_writeOff, Cond.instanceMethod yX5_writeOff]
def wsX5_strike_r5 : List Cond := [Cond.selects RX5 yX5_writeOff yX5_writeOff, Cond.code yX5_writeOff cX5_writeOff 5 none, Cond.fieldLink RX5 23 "AgedAssetsModel" "methods" "[I", Cond.fieldLink RX5 29 "AgedAssetsModel" "used" "[I", Cond.methodLink RX5 155 yX5_declining, Cond.instanceMethod yX5_declining, Cond.selects RX5 yX5_declining yX5_declining, Cond.code yX5_declining cX5_declining 11 (some .long), Cond.methodLink RX5 159 yX5_together, Cond.instanceMethod yX5_together, Cond.selects RX5 yX5_together yX5_together, Cond.code yX5_together cX5_together 4 (some .long)]
def wsX5_strike : List Cond := .code yX5_strike cX5_strike 4 (some .boolean) :: ((wsX5_strike_r1 ++ (wsX5_strike_r2 ++ (wsX5_strike_r3 ++ (wsX5_strike_r4 ++ wsX5_strike_r5)))) ++ wsX50)
def wsX5_told : List Cond := .code yX5_told cX5_told 3 (some .int) :: ([.fieldLink RX5 56 "AgedAssetsModel" "code" "I", .fieldLink RX5 35 "AgedAssetsModel" "of" "[I", .fieldLink RX5 38 "AgedAssetsModel" "when" "[I", .fieldLink RX5 41 "AgedAssetsModel" "kinds" "[I", .fieldLink RX5 47 "AgedAssetsModel" "numbers" "[I", .methodLink RX5 214 yX5_isEvent, .instanceMethod yX5_isEvent, .selects RX5 yX5_isEvent yX5_isEvent, .initialized RX5, .code yX5_isEvent cX5_isEvent 2 (some .boolean), .fieldLink RX5 72 "AgedAssetsModel" "events" "I"] ++ wsX50)
def wsX5_value_r1 : List Cond := [Cond.fieldLink RX5 56 "AgedAssetsModel" "code" "I", Cond.fieldLink RX5 65 "AgedAssetsModel" "cost" "J", Cond.fieldLink RX5 69 "AgedAssetsModel" "allowance" "J", Cond.fieldLink RX5 106 "AgedAssetsModel" "reserve" "J", Cond.fieldLink RX5 109 "AgedAssetsModel" "losses" "J", Cond.fieldLink RX5 79 "AgedAssetsModel" "residual" "J", Cond.fieldLink RX5 85 "AgedAssetsModel" "rest" "I", Cond.methodLink RX5 202 yX5_isPart, Cond.instanceMethod yX5_isPart, Cond.selects RX5 yX5_isPart yX5_isPart, Cond.initialized RX5, Cond.code yX5_isPart cX5_isPart 2 (some .boolean), Cond.fieldLink RX5 62 "AgedAssetsModel" "parts" "I", Cond.methodLink RX5 194 yX5_isMonth, Cond.static yX5_isMonth, Cond.code yX5_isMonth cX5_isMonth 1 (some .boolean), Cond.methodLink RX5 205 yX5_reckon, Cond.instanceMethod yX5_reckon, Cond.selects RX5 yX5_reckon yX5_reckon, Cond.code yX5_reckon cX5_reckon 3 (some .boolean), Cond.fieldLink RX5 116 "AgedAssetsModel" "bad" "I", Cond.methodLink RX5 184 yX5_go, Cond.instanceMethod yX5_go, Cond.selects RX5 yX5_go yX5_go]
def wsX5_value_r2 : List Cond := [Cond.code yX5_go cX5_go 7 (some .int), Cond.fieldLink RX5 16 "AgedAssetsModel" "firsts" "[I", Cond.fieldLink RX5 7 "AgedAssetsModel" "costs" "[J", Cond.fieldLink RX5 13 "AgedAssetsModel" "residuals" "[J", Cond.fieldLink RX5 20 "AgedAssetsModel" "lives" "[I", Cond.fieldLink RX5 41 "AgedAssetsModel" "kinds" "[I", Cond.fieldLink RX5 50 "AgedAssetsModel" "before" "[J", Cond.fieldLink RX5 53 "AgedAssetsModel" "behind" "[J", Cond.methodLink RX5 166 yX5_clear, Cond.instanceMethod yX5_clear, Cond.selects RX5 yX5_clear yX5_clear, Cond.code yX5_clear cX5_clear 1 none, Cond.fieldLink RX5 134 "AgedAssetsModel" "held" "Z", Cond.fieldLink RX5 130 "AgedAssetsModel" "gone" "Z", Cond.fieldLink RX5 91 "AgedAssetsModel" "spent" "I", Cond.fieldLink RX5 152 "AgedAssetsModel" "last" "J", Cond.fieldLink RX5 163 "AgedAssetsModel" "sum" "J", Cond.methodLink RX5 169 yX5_stretch, Cond.instanceMethod yX5_stretch, Cond.selects RX5 yX5_stretch yX5_stretch, Cond.code yX5_stretch cX5_stretch 2 none, Cond.fieldLink RX5 82 "AgedAssetsModel" "base" "J", Cond.fieldLink RX5 88 "AgedAssetsModel" "length" "I", Cond.fieldLink RX5 26 "AgedAssetsModel" "rates" "[I"]
def wsX5_value_r3 : List Cond := [Cond.fieldLink RX5 94 "AgedAssetsModel" "left" "I", Cond.fieldLink RX5 97 "AgedAssetsModel" "charged" "I", Cond.fieldLink RX5 100 "AgedAssetsModel" "stretchUnits" "I", Cond.fieldLink RX5 103 "AgedAssetsModel" "done" "J", Cond.methodLink RX5 75 yX5_book, Cond.instanceMethod yX5_book, Cond.selects RX5 yX5_book yX5_book, Cond.code yX5_book cX5_book 1 (some .long), Cond.methodLink RX5 172 yX5_eventIn, Cond.instanceMethod yX5_eventIn, Cond.selects RX5 yX5_eventIn yX5_eventIn, Cond.code yX5_eventIn cX5_eventIn 5 (some .int), Cond.fieldLink RX5 72 "AgedAssetsModel" "events" "I", Cond.fieldLink RX5 35 "AgedAssetsModel" "of" "[I", Cond.fieldLink RX5 38 "AgedAssetsModel" "when" "[I", Cond.methodLink RX5 176 yX5_happens, Cond.instanceMethod yX5_happens, Cond.selects RX5 yX5_happens yX5_happens, Cond.code yX5_happens cX5_happens 7 (some .boolean), Cond.fieldLink RX5 44 "AgedAssetsModel" "amounts" "[J", Cond.fieldLink RX5 47 "AgedAssetsModel" "numbers" "[I", Cond.methodLink RX5 137 yX5_values, Cond.instanceMethod yX5_values, Cond.selects RX5 yX5_values yX5_values]
def wsX5_value_r4 : List Cond := [Cond.code yX5_values cX5_values 3 none, Cond.methodLink RX5 112 yX5_fall, Cond.instanceMethod yX5_fall, Cond.selects RX5 yX5_fall yX5_fall, Cond.code yX5_fall cX5_fall 5 none, Cond.methodLink RX5 140 yX5_impairs, Cond.instanceMethod yX5_impairs, Cond.selects RX5 yX5_impairs yX5_impairs, Cond.code yX5_impairs cX5_impairs 3 (some .boolean), Cond.methodLink RX5 144 yX5_restores, Cond.instanceMethod yX5_restores, Cond.selects RX5 yX5_restores yX5_restores, Cond.code yX5_restores cX5_restores 6 (some .boolean), Cond.methodLink RX5 148 yX5_sells, Cond.instanceMethod yX5_sells, Cond.selects RX5 yX5_sells yX5_sells, Cond.code yX5_sells cX5_sells 2 none, Cond.constant RX5 129 (1000000), Cond.methodLink RX5 125 yX5_less, Cond.static yX5_less, Cond.code yX5_less cX5_less 3 (some .long), Cond.constantLong RX5 119 (1000000), Cond.methodLink RX5 121 yX5_rounded, Cond.static yX5_rounded]
def wsX5_value_r5 : List Cond := [Cond.code yX5_rounded cX5_rounded 4 (some .long), Cond.constantLong RX5 60 (2), Cond.methodLink RX5 180 yX5_writeOff, Cond.instanceMethod yX5_writeOff, Cond.selects RX5 yX5_writeOff yX5_writeOff, Cond.code yX5_writeOff cX5_writeOff 5 none, Cond.fieldLink RX5 23 "AgedAssetsModel" "methods" "[I", Cond.fieldLink RX5 29 "AgedAssetsModel" "used" "[I", Cond.methodLink RX5 155 yX5_declining, Cond.instanceMethod yX5_declining, Cond.selects RX5 yX5_declining yX5_declining, Cond.code yX5_declining cX5_declining 11 (some .long), Cond.methodLink RX5 159 yX5_together, Cond.instanceMethod yX5_together, Cond.selects RX5 yX5_together yX5_together, Cond.code yX5_together cX5_together 4 (some .long)]
def wsX5_value : List Cond := .code yX5_value cX5_value 4 (some .long) :: ((wsX5_value_r1 ++ (wsX5_value_r2 ++ (wsX5_value_r3 ++ (wsX5_value_r4 ++ wsX5_value_r5)))) ++ wsX50)
def wsX5_charge_r1 : List Cond := [Cond.fieldLink RX5 56 "AgedAssetsModel" "code" "I", Cond.fieldLink RX5 152 "AgedAssetsModel" "last" "J", Cond.methodLink RX5 202 yX5_isPart, Cond.instanceMethod yX5_isPart, Cond.selects RX5 yX5_isPart yX5_isPart, Cond.initialized RX5, Cond.code yX5_isPart cX5_isPart 2 (some .boolean), Cond.fieldLink RX5 62 "AgedAssetsModel" "parts" "I", Cond.methodLink RX5 194 yX5_isMonth, Cond.static yX5_isMonth, Cond.code yX5_isMonth cX5_isMonth 1 (some .boolean), Cond.methodLink RX5 205 yX5_reckon, Cond.instanceMethod yX5_reckon, Cond.selects RX5 yX5_reckon yX5_reckon, Cond.code yX5_reckon cX5_reckon 3 (some .boolean), Cond.fieldLink RX5 116 "AgedAssetsModel" "bad" "I", Cond.methodLink RX5 184 yX5_go, Cond.instanceMethod yX5_go, Cond.selects RX5 yX5_go yX5_go, Cond.code yX5_go cX5_go 7 (some .int), Cond.fieldLink RX5 16 "AgedAssetsModel" "firsts" "[I", Cond.fieldLink RX5 7 "AgedAssetsModel" "costs" "[J", Cond.fieldLink RX5 65 "AgedAssetsModel" "cost" "J", Cond.fieldLink RX5 13 "AgedAssetsModel" "residuals" "[J"]
def wsX5_charge_r2 : List Cond := [Cond.fieldLink RX5 79 "AgedAssetsModel" "residual" "J", Cond.fieldLink RX5 20 "AgedAssetsModel" "lives" "[I", Cond.fieldLink RX5 85 "AgedAssetsModel" "rest" "I", Cond.fieldLink RX5 41 "AgedAssetsModel" "kinds" "[I", Cond.fieldLink RX5 50 "AgedAssetsModel" "before" "[J", Cond.fieldLink RX5 53 "AgedAssetsModel" "behind" "[J", Cond.methodLink RX5 166 yX5_clear, Cond.instanceMethod yX5_clear, Cond.selects RX5 yX5_clear yX5_clear, Cond.code yX5_clear cX5_clear 1 none, Cond.fieldLink RX5 69 "AgedAssetsModel" "allowance" "J", Cond.fieldLink RX5 106 "AgedAssetsModel" "reserve" "J", Cond.fieldLink RX5 109 "AgedAssetsModel" "losses" "J", Cond.fieldLink RX5 134 "AgedAssetsModel" "held" "Z", Cond.fieldLink RX5 130 "AgedAssetsModel" "gone" "Z", Cond.fieldLink RX5 91 "AgedAssetsModel" "spent" "I", Cond.fieldLink RX5 163 "AgedAssetsModel" "sum" "J", Cond.methodLink RX5 169 yX5_stretch, Cond.instanceMethod yX5_stretch, Cond.selects RX5 yX5_stretch yX5_stretch, Cond.code yX5_stretch cX5_stretch 2 none, Cond.fieldLink RX5 82 "AgedAssetsModel" "base" "J", Cond.fieldLink RX5 88 "AgedAssetsModel" "length" "I", Cond.fieldLink RX5 26 "AgedAssetsModel" "rates" "[I"]
def wsX5_charge_r3 : List Cond := [Cond.fieldLink RX5 94 "AgedAssetsModel" "left" "I", Cond.fieldLink RX5 97 "AgedAssetsModel" "charged" "I", Cond.fieldLink RX5 100 "AgedAssetsModel" "stretchUnits" "I", Cond.fieldLink RX5 103 "AgedAssetsModel" "done" "J", Cond.methodLink RX5 75 yX5_book, Cond.instanceMethod yX5_book, Cond.selects RX5 yX5_book yX5_book, Cond.code yX5_book cX5_book 1 (some .long), Cond.methodLink RX5 172 yX5_eventIn, Cond.instanceMethod yX5_eventIn, Cond.selects RX5 yX5_eventIn yX5_eventIn, Cond.code yX5_eventIn cX5_eventIn 5 (some .int), Cond.fieldLink RX5 72 "AgedAssetsModel" "events" "I", Cond.fieldLink RX5 35 "AgedAssetsModel" "of" "[I", Cond.fieldLink RX5 38 "AgedAssetsModel" "when" "[I", Cond.methodLink RX5 176 yX5_happens, Cond.instanceMethod yX5_happens, Cond.selects RX5 yX5_happens yX5_happens, Cond.code yX5_happens cX5_happens 7 (some .boolean), Cond.fieldLink RX5 44 "AgedAssetsModel" "amounts" "[J", Cond.fieldLink RX5 47 "AgedAssetsModel" "numbers" "[I", Cond.methodLink RX5 137 yX5_values, Cond.instanceMethod yX5_values, Cond.selects RX5 yX5_values yX5_values]
def wsX5_charge_r4 : List Cond := [Cond.code yX5_values cX5_values 3 none, Cond.methodLink RX5 112 yX5_fall, Cond.instanceMethod yX5_fall, Cond.selects RX5 yX5_fall yX5_fall, Cond.code yX5_fall cX5_fall 5 none, Cond.methodLink RX5 140 yX5_impairs, Cond.instanceMethod yX5_impairs, Cond.selects RX5 yX5_impairs yX5_impairs, Cond.code yX5_impairs cX5_impairs 3 (some .boolean), Cond.methodLink RX5 144 yX5_restores, Cond.instanceMethod yX5_restores, Cond.selects RX5 yX5_restores yX5_restores, Cond.code yX5_restores cX5_restores 6 (some .boolean), Cond.methodLink RX5 148 yX5_sells, Cond.instanceMethod yX5_sells, Cond.selects RX5 yX5_sells yX5_sells, Cond.code yX5_sells cX5_sells 2 none, Cond.constant RX5 129 (1000000), Cond.methodLink RX5 125 yX5_less, Cond.static yX5_less, Cond.code yX5_less cX5_less 3 (some .long), Cond.constantLong RX5 119 (1000000), Cond.methodLink RX5 121 yX5_rounded, Cond.static yX5_rounded]
def wsX5_charge_r5 : List Cond := [Cond.code yX5_rounded cX5_rounded 4 (some .long), Cond.constantLong RX5 60 (2), Cond.methodLink RX5 180 yX5_writeOff, Cond.instanceMethod yX5_writeOff, Cond.selects RX5 yX5_writeOff yX5_writeOff, Cond.code yX5_writeOff cX5_writeOff 5 none, Cond.fieldLink RX5 23 "AgedAssetsModel" "methods" "[I", Cond.fieldLink RX5 29 "AgedAssetsModel" "used" "[I", Cond.methodLink RX5 155 yX5_declining, Cond.instanceMethod yX5_declining, Cond.selects RX5 yX5_declining yX5_declining, Cond.code yX5_declining cX5_declining 11 (some .long), Cond.methodLink RX5 159 yX5_together, Cond.instanceMethod yX5_together, Cond.selects RX5 yX5_together yX5_together, Cond.code yX5_together cX5_together 4 (some .long)]
def wsX5_charge : List Cond := .code yX5_charge cX5_charge 3 (some .long) :: ((wsX5_charge_r1 ++ (wsX5_charge_r2 ++ (wsX5_charge_r3 ++ (wsX5_charge_r4 ++ wsX5_charge_r5)))) ++ wsX50)
def wsX5_without_r1 : List Cond := [Cond.fieldLink RX5 56 "AgedAssetsModel" "code" "I", Cond.constantLong RX5 217 (-1), Cond.fieldLink RX5 16 "AgedAssetsModel" "firsts" "[I", Cond.fieldLink RX5 53 "AgedAssetsModel" "behind" "[J", Cond.methodLink RX5 202 yX5_isPart, Cond.instanceMethod yX5_isPart, Cond.selects RX5 yX5_isPart yX5_isPart, Cond.initialized RX5, Cond.code yX5_isPart cX5_isPart 2 (some .boolean), Cond.fieldLink RX5 62 "AgedAssetsModel" "parts" "I", Cond.methodLink RX5 194 yX5_isMonth, Cond.static yX5_isMonth, Cond.code yX5_isMonth cX5_isMonth 1 (some .boolean), Cond.methodLink RX5 184 yX5_go, Cond.instanceMethod yX5_go, Cond.selects RX5 yX5_go yX5_go, Cond.code yX5_go cX5_go 7 (some .int), Cond.fieldLink RX5 7 "AgedAssetsModel" "costs" "[J", Cond.fieldLink RX5 65 "AgedAssetsModel" "cost" "J", Cond.fieldLink RX5 13 "AgedAssetsModel" "residuals" "[J", Cond.fieldLink RX5 79 "AgedAssetsModel" "residual" "J", Cond.fieldLink RX5 20 "AgedAssetsModel" "lives" "[I", Cond.fieldLink RX5 85 "AgedAssetsModel" "rest" "I", Cond.fieldLink RX5 41 "AgedAssetsModel" "kinds" "[I"]
def wsX5_without_r2 : List Cond := [Cond.fieldLink RX5 50 "AgedAssetsModel" "before" "[J", Cond.methodLink RX5 166 yX5_clear, Cond.instanceMethod yX5_clear, Cond.selects RX5 yX5_clear yX5_clear, Cond.code yX5_clear cX5_clear 1 none, Cond.fieldLink RX5 69 "AgedAssetsModel" "allowance" "J", Cond.fieldLink RX5 106 "AgedAssetsModel" "reserve" "J", Cond.fieldLink RX5 109 "AgedAssetsModel" "losses" "J", Cond.fieldLink RX5 134 "AgedAssetsModel" "held" "Z", Cond.fieldLink RX5 130 "AgedAssetsModel" "gone" "Z", Cond.fieldLink RX5 91 "AgedAssetsModel" "spent" "I", Cond.fieldLink RX5 152 "AgedAssetsModel" "last" "J", Cond.fieldLink RX5 163 "AgedAssetsModel" "sum" "J", Cond.methodLink RX5 169 yX5_stretch, Cond.instanceMethod yX5_stretch, Cond.selects RX5 yX5_stretch yX5_stretch, Cond.code yX5_stretch cX5_stretch 2 none, Cond.fieldLink RX5 82 "AgedAssetsModel" "base" "J", Cond.fieldLink RX5 88 "AgedAssetsModel" "length" "I", Cond.fieldLink RX5 26 "AgedAssetsModel" "rates" "[I", Cond.fieldLink RX5 94 "AgedAssetsModel" "left" "I", Cond.fieldLink RX5 97 "AgedAssetsModel" "charged" "I", Cond.fieldLink RX5 100 "AgedAssetsModel" "stretchUnits" "I", Cond.fieldLink RX5 103 "AgedAssetsModel" "done" "J"]
def wsX5_without_r3 : List Cond := [Cond.methodLink RX5 75 yX5_book, Cond.instanceMethod yX5_book, Cond.selects RX5 yX5_book yX5_book, Cond.code yX5_book cX5_book 1 (some .long), Cond.methodLink RX5 172 yX5_eventIn, Cond.instanceMethod yX5_eventIn, Cond.selects RX5 yX5_eventIn yX5_eventIn, Cond.code yX5_eventIn cX5_eventIn 5 (some .int), Cond.fieldLink RX5 72 "AgedAssetsModel" "events" "I", Cond.fieldLink RX5 35 "AgedAssetsModel" "of" "[I", Cond.fieldLink RX5 38 "AgedAssetsModel" "when" "[I", Cond.methodLink RX5 176 yX5_happens, Cond.instanceMethod yX5_happens, Cond.selects RX5 yX5_happens yX5_happens, Cond.code yX5_happens cX5_happens 7 (some .boolean), Cond.fieldLink RX5 44 "AgedAssetsModel" "amounts" "[J", Cond.fieldLink RX5 47 "AgedAssetsModel" "numbers" "[I", Cond.methodLink RX5 137 yX5_values, Cond.instanceMethod yX5_values, Cond.selects RX5 yX5_values yX5_values, Cond.code yX5_values cX5_values 3 none, Cond.methodLink RX5 112 yX5_fall, Cond.instanceMethod yX5_fall, Cond.selects RX5 yX5_fall yX5_fall]
def wsX5_without_r4 : List Cond := [Cond.code yX5_fall cX5_fall 5 none, Cond.methodLink RX5 140 yX5_impairs, Cond.instanceMethod yX5_impairs, Cond.selects RX5 yX5_impairs yX5_impairs, Cond.code yX5_impairs cX5_impairs 3 (some .boolean), Cond.methodLink RX5 144 yX5_restores, Cond.instanceMethod yX5_restores, Cond.selects RX5 yX5_restores yX5_restores, Cond.code yX5_restores cX5_restores 6 (some .boolean), Cond.fieldLink RX5 116 "AgedAssetsModel" "bad" "I", Cond.methodLink RX5 148 yX5_sells, Cond.instanceMethod yX5_sells, Cond.selects RX5 yX5_sells yX5_sells, Cond.code yX5_sells cX5_sells 2 none, Cond.constant RX5 129 (1000000), Cond.methodLink RX5 125 yX5_less, Cond.static yX5_less, Cond.code yX5_less cX5_less 3 (some .long), Cond.constantLong RX5 119 (1000000), Cond.methodLink RX5 121 yX5_rounded, Cond.static yX5_rounded, Cond.code yX5_rounded cX5_rounded 4 (some .long), Cond.constantLong RX5 60 (2), Cond.methodLink RX5 180 yX5_writeOff]
def wsX5_without_r5 : List Cond := [Cond.instanceMethod yX5_writeOff, Cond.selects RX5 yX5_writeOff yX5_writeOff, Cond.code yX5_writeOff cX5_writeOff 5 none, Cond.fieldLink RX5 23 "AgedAssetsModel" "methods" "[I", Cond.fieldLink RX5 29 "AgedAssetsModel" "used" "[I", Cond.methodLink RX5 155 yX5_declining, Cond.instanceMethod yX5_declining, Cond.selects RX5 yX5_declining yX5_declining, Cond.code yX5_declining cX5_declining 11 (some .long), Cond.methodLink RX5 159 yX5_together, Cond.instanceMethod yX5_together, Cond.selects RX5 yX5_together yX5_together, Cond.code yX5_together cX5_together 4 (some .long)]
def wsX5_without : List Cond := .code yX5_without cX5_without 4 (some .long) :: ((wsX5_without_r1 ++ (wsX5_without_r2 ++ (wsX5_without_r3 ++ (wsX5_without_r4 ++ wsX5_without_r5)))) ++ wsX50)
def wsX5_totalOf : List Cond := .code yX5_totalOf cX5_totalOf 5 (some .long) :: ([.fieldLink RX5 219 "AgedAssetsModel" "months" "I", .fieldLink RX5 32 "AgedAssetsModel" "posted" "[J"] ++ wsX50)
def wsX5_post_r1 : List Cond := [Cond.fieldLink RX5 219 "AgedAssetsModel" "months" "I", Cond.fieldLink RX5 56 "AgedAssetsModel" "code" "I", Cond.fieldLink RX5 62 "AgedAssetsModel" "parts" "I", Cond.fieldLink RX5 16 "AgedAssetsModel" "firsts" "[I", Cond.fieldLink RX5 163 "AgedAssetsModel" "sum" "J", Cond.fieldLink RX5 32 "AgedAssetsModel" "posted" "[J", Cond.methodLink RX5 205 yX5_reckon, Cond.instanceMethod yX5_reckon, Cond.selects RX5 yX5_reckon yX5_reckon, Cond.initialized RX5, Cond.code yX5_reckon cX5_reckon 3 (some .boolean), Cond.fieldLink RX5 116 "AgedAssetsModel" "bad" "I", Cond.methodLink RX5 184 yX5_go, Cond.instanceMethod yX5_go, Cond.selects RX5 yX5_go yX5_go, Cond.code yX5_go cX5_go 7 (some .int), Cond.fieldLink RX5 7 "AgedAssetsModel" "costs" "[J", Cond.fieldLink RX5 65 "AgedAssetsModel" "cost" "J", Cond.fieldLink RX5 13 "AgedAssetsModel" "residuals" "[J", Cond.fieldLink RX5 79 "AgedAssetsModel" "residual" "J", Cond.fieldLink RX5 20 "AgedAssetsModel" "lives" "[I", Cond.fieldLink RX5 85 "AgedAssetsModel" "rest" "I", Cond.fieldLink RX5 41 "AgedAssetsModel" "kinds" "[I", Cond.fieldLink RX5 50 "AgedAssetsModel" "before" "[J"]
def wsX5_post_r2 : List Cond := [Cond.fieldLink RX5 53 "AgedAssetsModel" "behind" "[J", Cond.methodLink RX5 166 yX5_clear, Cond.instanceMethod yX5_clear, Cond.selects RX5 yX5_clear yX5_clear, Cond.code yX5_clear cX5_clear 1 none, Cond.fieldLink RX5 69 "AgedAssetsModel" "allowance" "J", Cond.fieldLink RX5 106 "AgedAssetsModel" "reserve" "J", Cond.fieldLink RX5 109 "AgedAssetsModel" "losses" "J", Cond.fieldLink RX5 134 "AgedAssetsModel" "held" "Z", Cond.fieldLink RX5 130 "AgedAssetsModel" "gone" "Z", Cond.fieldLink RX5 91 "AgedAssetsModel" "spent" "I", Cond.fieldLink RX5 152 "AgedAssetsModel" "last" "J", Cond.methodLink RX5 169 yX5_stretch, Cond.instanceMethod yX5_stretch, Cond.selects RX5 yX5_stretch yX5_stretch, Cond.code yX5_stretch cX5_stretch 2 none, Cond.fieldLink RX5 82 "AgedAssetsModel" "base" "J", Cond.fieldLink RX5 88 "AgedAssetsModel" "length" "I", Cond.fieldLink RX5 26 "AgedAssetsModel" "rates" "[I", Cond.fieldLink RX5 94 "AgedAssetsModel" "left" "I", Cond.fieldLink RX5 97 "AgedAssetsModel" "charged" "I", Cond.fieldLink RX5 100 "AgedAssetsModel" "stretchUnits" "I", Cond.fieldLink RX5 103 "AgedAssetsModel" "done" "J", Cond.methodLink RX5 75 yX5_book]
def wsX5_post_r3 : List Cond := [Cond.instanceMethod yX5_book, Cond.selects RX5 yX5_book yX5_book, Cond.code yX5_book cX5_book 1 (some .long), Cond.methodLink RX5 172 yX5_eventIn, Cond.instanceMethod yX5_eventIn, Cond.selects RX5 yX5_eventIn yX5_eventIn, Cond.code yX5_eventIn cX5_eventIn 5 (some .int), Cond.fieldLink RX5 72 "AgedAssetsModel" "events" "I", Cond.fieldLink RX5 35 "AgedAssetsModel" "of" "[I", Cond.fieldLink RX5 38 "AgedAssetsModel" "when" "[I", Cond.methodLink RX5 176 yX5_happens, Cond.instanceMethod yX5_happens, Cond.selects RX5 yX5_happens yX5_happens, Cond.code yX5_happens cX5_happens 7 (some .boolean), Cond.fieldLink RX5 44 "AgedAssetsModel" "amounts" "[J", Cond.fieldLink RX5 47 "AgedAssetsModel" "numbers" "[I", Cond.methodLink RX5 137 yX5_values, Cond.instanceMethod yX5_values, Cond.selects RX5 yX5_values yX5_values, Cond.code yX5_values cX5_values 3 none, Cond.methodLink RX5 112 yX5_fall, Cond.instanceMethod yX5_fall, Cond.selects RX5 yX5_fall yX5_fall, Cond.code yX5_fall cX5_fall 5 none]
def wsX5_post_r4 : List Cond := [Cond.methodLink RX5 140 yX5_impairs, Cond.instanceMethod yX5_impairs, Cond.selects RX5 yX5_impairs yX5_impairs, Cond.code yX5_impairs cX5_impairs 3 (some .boolean), Cond.methodLink RX5 144 yX5_restores, Cond.instanceMethod yX5_restores, Cond.selects RX5 yX5_restores yX5_restores, Cond.code yX5_restores cX5_restores 6 (some .boolean), Cond.methodLink RX5 148 yX5_sells, Cond.instanceMethod yX5_sells, Cond.selects RX5 yX5_sells yX5_sells, Cond.code yX5_sells cX5_sells 2 none, Cond.constant RX5 129 (1000000), Cond.methodLink RX5 125 yX5_less, Cond.static yX5_less, Cond.code yX5_less cX5_less 3 (some .long), Cond.constantLong RX5 119 (1000000), Cond.methodLink RX5 121 yX5_rounded, Cond.static yX5_rounded, Cond.code yX5_rounded cX5_rounded 4 (some .long), Cond.constantLong RX5 60 (2), Cond.methodLink RX5 180 yX5_writeOff, Cond.instanceMethod yX5_writeOff, Cond.selects RX5 yX5_writeOff yX5_writeOff]
def wsX5_post_r5 : List Cond := [Cond.code yX5_writeOff cX5_writeOff 5 none, Cond.fieldLink RX5 23 "AgedAssetsModel" "methods" "[I", Cond.fieldLink RX5 29 "AgedAssetsModel" "used" "[I", Cond.methodLink RX5 155 yX5_declining, Cond.instanceMethod yX5_declining, Cond.selects RX5 yX5_declining yX5_declining, Cond.code yX5_declining cX5_declining 11 (some .long), Cond.methodLink RX5 159 yX5_together, Cond.instanceMethod yX5_together, Cond.selects RX5 yX5_together yX5_together, Cond.code yX5_together cX5_together 4 (some .long), Cond.methodLink RX5 222 yX5_totalOf, Cond.instanceMethod yX5_totalOf, Cond.selects RX5 yX5_totalOf yX5_totalOf, Cond.code yX5_totalOf cX5_totalOf 5 (some .long)]
def wsX5_post : List Cond := .code yX5_post cX5_post 6 (some .long) :: ((wsX5_post_r1 ++ (wsX5_post_r2 ++ (wsX5_post_r3 ++ (wsX5_post_r4 ++ wsX5_post_r5)))) ++ wsX50)
def wsX5_months : List Cond := .code yX5_months cX5_months 1 (some .int) :: ([.fieldLink RX5 56 "AgedAssetsModel" "code" "I", .fieldLink RX5 219 "AgedAssetsModel" "months" "I"] ++ wsX50)
def wsX5_posted : List Cond := .code yX5_posted cX5_posted 3 (some .long) :: ([.fieldLink RX5 56 "AgedAssetsModel" "code" "I", .fieldLink RX5 32 "AgedAssetsModel" "posted" "[J", .methodLink RX5 202 yX5_isPart, .instanceMethod yX5_isPart, .selects RX5 yX5_isPart yX5_isPart, .initialized RX5, .code yX5_isPart cX5_isPart 2 (some .boolean), .fieldLink RX5 62 "AgedAssetsModel" "parts" "I", .methodLink RX5 194 yX5_isMonth, .static yX5_isMonth, .code yX5_isMonth cX5_isMonth 1 (some .boolean)] ++ wsX50)
def wsX5_total : List Cond := .code yX5_total cX5_total 2 (some .long) :: ([.fieldLink RX5 56 "AgedAssetsModel" "code" "I", .methodLink RX5 202 yX5_isPart, .instanceMethod yX5_isPart, .selects RX5 yX5_isPart yX5_isPart, .initialized RX5, .code yX5_isPart cX5_isPart 2 (some .boolean), .fieldLink RX5 62 "AgedAssetsModel" "parts" "I", .methodLink RX5 222 yX5_totalOf, .instanceMethod yX5_totalOf, .selects RX5 yX5_totalOf yX5_totalOf, .code yX5_totalOf cX5_totalOf 5 (some .long), .fieldLink RX5 219 "AgedAssetsModel" "months" "I", .fieldLink RX5 32 "AgedAssetsModel" "posted" "[J"] ++ wsX50)
def wsX5_parts : List Cond := .code yX5_parts cX5_parts 1 (some .int) :: ([.fieldLink RX5 56 "AgedAssetsModel" "code" "I", .fieldLink RX5 62 "AgedAssetsModel" "parts" "I"] ++ wsX50)
def wsJ9_max_f86c9 : List Cond := .code yJ9_max_f86c9 cJ9_max_f86c9 4 (some .long) :: ([])
def wsJ9_min_f86c9 : List Cond := .code yJ9_min_f86c9 cJ9_min_f86c9 4 (some .long) :: ([])
def wsL_part_r1 : List Cond := [Cond.classLink RL 13 "java/lang/IllegalArgumentException", Cond.classLink RL 15 "java/lang/IllegalStateException", Cond.methodLink RL 7 yX4_part, Cond.instanceMethod yX4_part, Cond.selects RX4 yX4_part yX4_part, Cond.initialized RX4, Cond.code yX4_part cX4_part 11 (some .int), Cond.classLink RX4 47 "java/lang/IllegalArgumentException", Cond.initialized "java/lang/IllegalArgumentException", Cond.classLink RX4 58 "java/lang/IllegalStateException", Cond.initialized "java/lang/IllegalStateException", Cond.constantLong RX4 31 (1000000000), Cond.constantLong RX4 41 (36), Cond.fieldLink RX4 54 "AgedAssets" "partCount" "I", Cond.fieldLink RX4 11 "AgedAssets" "partRow" "[LAgedAssets$Part;", Cond.classLink RX4 9 RX2, Cond.instantiable RX2 11, Cond.initialized RX2, Cond.methodLink RX4 33 yX4_isWithin, Cond.static yX4_isWithin, Cond.code yX4_isWithin cX4_isWithin 6 (some .boolean), Cond.methodLink RX4 37 yX4_isMonth, Cond.static yX4_isMonth, Cond.code yX4_isMonth cX4_isMonth 1 (some .boolean)]
def wsL_part_r2 : List Cond := [Cond.methodLink RX4 43 yX4_isRateOf, Cond.static yX4_isRateOf, Cond.code yX4_isRateOf cX4_isRateOf 2 (some .boolean), Cond.constantLong RX4 70 (1000000), Cond.methodLink RX4 63 yX2_init, Cond.instanceMethod yX2_init, Cond.code yX2_init cX2_init 9 none, Cond.methodLink RX2 3 objectInit, Cond.instanceMethod objectInit, Cond.code objectInit ⟨#[0xb1]⟩ 1 none, Cond.fieldLink RX2 9 "AgedAssets$Part" "cost" "J", Cond.fieldLink RX2 15 "AgedAssets$Part" "residual" "J", Cond.fieldLink RX2 18 "AgedAssets$Part" "firstMonth" "I", Cond.fieldLink RX2 22 "AgedAssets$Part" "life" "I", Cond.fieldLink RX2 25 "AgedAssets$Part" "method" "I", Cond.fieldLink RX2 28 "AgedAssets$Part" "rate" "I", Cond.arrayClass .int, Cond.fieldLink RX2 31 "AgedAssets$Part" "unitsIn" "[I", Cond.classLink RX2 35 RX1, Cond.fieldLink RX2 37 "AgedAssets$Part" "eventIn" "[LAgedAssets$Event;", Cond.arrayClass .long, Cond.fieldLink RX2 41 "AgedAssets$Part" "postedIn" "[J"]
def wsL_part : List Cond := .codeWith yL_part cL_part 11 (some .int) [(0, 19, 22, 13), (0, 19, 26, 15)] :: ((wsL_part_r1 ++ wsL_part_r2) ++ wsX40 ++ wsX20 ++ (vx_atS RX4 51 "java/lang/IllegalArgumentException" ["java/lang/RuntimeException", "java/lang/Exception"]).filter goodWord ++ (vx_atS RX4 62 "java/lang/IllegalStateException" ["java/lang/RuntimeException", "java/lang/Exception"]).filter goodWord)
def wsL_units_r1 : List Cond := [Cond.classLink RL 13 "java/lang/IllegalArgumentException", Cond.classLink RL 15 "java/lang/IllegalStateException", Cond.methodLink RL 17 yX4_units, Cond.instanceMethod yX4_units, Cond.selects RX4 yX4_units yX4_units, Cond.initialized RX4, Cond.code yX4_units cX4_units 6 (some .int), Cond.classLink RX4 47 "java/lang/IllegalArgumentException", Cond.initialized "java/lang/IllegalArgumentException", Cond.classLink RX4 58 "java/lang/IllegalStateException", Cond.initialized "java/lang/IllegalStateException", Cond.constantLong RX4 70 (1000000), Cond.fieldLink RX4 74 "AgedAssets$Part" "unitsIn" "[I", Cond.methodLink RX4 66 yX4_partOf, Cond.instanceMethod yX4_partOf, Cond.selects RX4 yX4_partOf yX4_partOf, Cond.code yX4_partOf cX4_partOf 2 (some (.object "AgedAssets$Part")), Cond.fieldLink RX4 54 "AgedAssets" "partCount" "I", Cond.fieldLink RX4 11 "AgedAssets" "partRow" "[LAgedAssets$Part;", Cond.methodLink RX4 37 yX4_isMonth, Cond.static yX4_isMonth, Cond.code yX4_isMonth cX4_isMonth 1 (some .boolean), Cond.methodLink RX4 33 yX4_isWithin, Cond.static yX4_isWithin]
def wsL_units_r2 : List Cond := [Cond.code yX4_isWithin cX4_isWithin 6 (some .boolean), Cond.methodLink RX4 78 yX4_hasBreach, Cond.instanceMethod yX4_hasBreach, Cond.selects RX4 yX4_hasBreach yX4_hasBreach, Cond.code yX4_hasBreach cX4_hasBreach 2 (some .boolean), Cond.fieldLink RX4 24 "AgedAssets" "full" "LAgedAssets$Course;", Cond.methodLink RX4 127 yX4_follow, Cond.instanceMethod yX4_follow, Cond.selects RX4 yX4_follow yX4_follow, Cond.code yX4_follow cX4_follow 5 none, Cond.fieldLink RX4 28 "AgedAssets" "bare" "LAgedAssets$Course;", Cond.fieldLink RX4 84 "AgedAssets$Part" "firstMonth" "I", Cond.fieldLink RX4 93 "AgedAssets$Part" "eventIn" "[LAgedAssets$Event;", Cond.fieldLink RX4 117 "AgedAssets$Event" "kind" "I", Cond.constantLong RX4 191 (-1), Cond.methodLink RX4 183 yX0_open, Cond.instanceMethod yX0_open, Cond.selects RX0 yX0_open yX0_open, Cond.initialized RX0, Cond.code yX0_open cX0_open 2 none, Cond.fieldLink RX0 18 "AgedAssets$Part" "method" "I", Cond.fieldLink RX0 24 "AgedAssets$Course" "method" "I", Cond.fieldLink RX0 25 "AgedAssets$Part" "rate" "I", Cond.fieldLink RX0 28 "AgedAssets$Course" "rate" "I"]
def wsL_units_r3 : List Cond := [Cond.fieldLink RX0 29 "AgedAssets$Part" "cost" "J", Cond.fieldLink RX0 33 "AgedAssets$Course" "cost" "J", Cond.fieldLink RX0 34 "AgedAssets$Course" "allowance" "J", Cond.fieldLink RX0 37 "AgedAssets$Course" "reserve" "J", Cond.fieldLink RX0 40 "AgedAssets$Course" "losses" "J", Cond.fieldLink RX0 43 "AgedAssets$Part" "residual" "J", Cond.fieldLink RX0 46 "AgedAssets$Course" "residual" "J", Cond.fieldLink RX0 47 "AgedAssets$Part" "life" "I", Cond.fieldLink RX0 50 "AgedAssets$Course" "restOfLife" "I", Cond.fieldLink RX0 53 "AgedAssets$Course" "held" "Z", Cond.fieldLink RX0 57 "AgedAssets$Course" "gone" "Z", Cond.fieldLink RX0 60 "AgedAssets$Course" "breached" "Z", Cond.fieldLink RX0 63 "AgedAssets$Course" "chargedUnits" "J", Cond.fieldLink RX0 66 "AgedAssets$Course" "lastCharge" "J", Cond.fieldLink RX0 69 "AgedAssets$Course" "allCharges" "J", Cond.methodLink RX0 72 yX0_beginStretch, Cond.instanceMethod yX0_beginStretch, Cond.selects RX0 yX0_beginStretch yX0_beginStretch, Cond.code yX0_beginStretch cX0_beginStretch 1 none, Cond.fieldLink RX0 12 "AgedAssets$Course" "stretch" "LAgedAssets$Stretch;", Cond.methodLink RX0 136 Lib.MathLoose.max_long.x, Cond.static Lib.MathLoose.max_long.x, Cond.initialized "java/lang/Math", Cond.code Lib.MathLoose.max_long.x Lib.MathLoose.max_long.code 4 (some .long)]
def wsL_units_r4 : List Cond := [Cond.methodLink RX0 77 yX0_book, Cond.instanceMethod yX0_book, Cond.selects RX0 yX0_book yX0_book, Cond.code yX0_book cX0_book 1 (some .long), Cond.methodLink RX0 139 yX3_begin, Cond.instanceMethod yX3_begin, Cond.selects RX3 yX3_begin yX3_begin, Cond.initialized RX3, Cond.code yX3_begin cX3_begin 7 none, Cond.fieldLink RX3 9 "AgedAssets$Stretch" "base" "J", Cond.fieldLink RX3 15 "AgedAssets$Stretch" "length" "J", Cond.fieldLink RX3 18 "AgedAssets$Stretch" "unitsLeft" "J", Cond.fieldLink RX3 21 "AgedAssets$Stretch" "monthsCharged" "J", Cond.fieldLink RX3 24 "AgedAssets$Stretch" "unitsCharged" "J", Cond.fieldLink RX3 27 "AgedAssets$Stretch" "charged" "J", Cond.methodLink RX4 159 yX0_bookOrNone, Cond.instanceMethod yX0_bookOrNone, Cond.selects RX0 yX0_bookOrNone yX0_bookOrNone, Cond.code yX0_bookOrNone cX0_bookOrNone 1 (some .long), Cond.constantLong RX0 75 (-1), Cond.methodLink RX4 187 yX0_meet, Cond.instanceMethod yX0_meet, Cond.selects RX0 yX0_meet yX0_meet, Cond.code yX0_meet cX0_meet 4 none]
def wsL_units_r5 : List Cond := [Cond.fieldLink RX0 89 "AgedAssets$Event" "kind" "I", Cond.methodLink RX0 81 yX0_isBreach, Cond.instanceMethod yX0_isBreach, Cond.selects RX0 yX0_isBreach yX0_isBreach, Cond.code yX0_isBreach cX0_isBreach 4 (some .boolean), Cond.fieldLink RX0 101 "AgedAssets$Event" "amount" "J", Cond.methodLink RX0 85 yX0_apply, Cond.instanceMethod yX0_apply, Cond.selects RX0 yX0_apply yX0_apply, Cond.code yX0_apply cX0_apply 2 none, Cond.fieldLink RX0 104 "AgedAssets$Event" "number" "I", Cond.methodLink RX0 107 yX0_revalue, Cond.instanceMethod yX0_revalue, Cond.selects RX0 yX0_revalue yX0_revalue, Cond.code yX0_revalue cX0_revalue 3 none, Cond.methodLink RX0 121 yX0_lose, Cond.instanceMethod yX0_lose, Cond.selects RX0 yX0_lose yX0_lose, Cond.code yX0_lose cX0_lose 5 none, Cond.methodLink RX0 124 Lib.MathLoose.min_long.x, Cond.static Lib.MathLoose.min_long.x, Cond.code Lib.MathLoose.min_long.x Lib.MathLoose.min_long.code 4 (some .long), Cond.methodLink RX0 111 yX0_impair, Cond.instanceMethod yX0_impair]
def wsL_units_r6 : List Cond := [Cond.selects RX0 yX0_impair yX0_impair, Cond.code yX0_impair cX0_impair 3 none, Cond.methodLink RX0 114 yX0_restore, Cond.instanceMethod yX0_restore, Cond.selects RX0 yX0_restore yX0_restore, Cond.code yX0_restore cX0_restore 3 none, Cond.methodLink RX0 117 yX0_sell, Cond.instanceMethod yX0_sell, Cond.selects RX0 yX0_sell yX0_sell, Cond.code yX0_sell cX0_sell 2 none, Cond.constantLong RX0 130 (1000000), Cond.constant RX0 135 (1000000), Cond.static yX4_rounded, Cond.code yX4_rounded cX4_rounded 4 (some .long), Cond.constantLong RX4 197 (2), Cond.methodLink RX4 193 yX0_chargeMonth, Cond.instanceMethod yX0_chargeMonth, Cond.selects RX0 yX0_chargeMonth yX0_chargeMonth, Cond.code yX0_chargeMonth cX0_chargeMonth 2 none, Cond.methodLink RX0 94 yX0_decliningCharge, Cond.instanceMethod yX0_decliningCharge, Cond.selects RX0 yX0_decliningCharge yX0_decliningCharge, Cond.code yX0_decliningCharge cX0_decliningCharge 7 (some .long), Cond.methodLink RX0 97 yX3_nextCharge]
def wsL_units_r7 : List Cond := [Cond.instanceMethod yX3_nextCharge, Cond.selects RX3 yX3_nextCharge yX3_nextCharge, Cond.code yX3_nextCharge cX3_nextCharge 5 (some .long), Cond.methodLink RX3 30 yX3_chargesTogether, Cond.instanceMethod yX3_chargesTogether, Cond.selects RX3 yX3_chargesTogether yX3_chargesTogether, Cond.code yX3_chargesTogether cX3_chargesTogether 2 (some .long), Cond.methodLink RX3 42 Lib.MathLoose.min_long.x, Cond.methodLink RX3 38 yX3_sumUpTo, Cond.static yX3_sumUpTo, Cond.code yX3_sumUpTo cX3_sumUpTo 2 (some .long), Cond.constantLong RX3 47 (2)]
def wsL_units : List Cond := .codeWith yL_units cL_units 6 (some .int) [(0, 12, 15, 13), (0, 12, 19, 15)] :: ((wsL_units_r1 ++ (wsL_units_r2 ++ (wsL_units_r3 ++ (wsL_units_r4 ++ (wsL_units_r5 ++ (wsL_units_r6 ++ wsL_units_r7)))))) ++ wsX20 ++ wsX40 ++ wsX00 ++ wsX10 ++ wsX30 ++ (vx_atS RX4 51 "java/lang/IllegalArgumentException" ["java/lang/RuntimeException", "java/lang/Exception"]).filter goodWord ++ (vx_atS RX4 62 "java/lang/IllegalStateException" ["java/lang/RuntimeException", "java/lang/Exception"]).filter goodWord)
def wsL_event_r1 : List Cond := [Cond.classLink RL 13 "java/lang/IllegalArgumentException", Cond.classLink RL 15 "java/lang/IllegalStateException", Cond.methodLink RL 21 yX4_event, Cond.instanceMethod yX4_event, Cond.selects RX4 yX4_event yX4_event, Cond.initialized RX4, Cond.code yX4_event cX4_event 9 (some .int), Cond.classLink RX4 47 "java/lang/IllegalArgumentException", Cond.initialized "java/lang/IllegalArgumentException", Cond.classLink RX4 58 "java/lang/IllegalStateException", Cond.initialized "java/lang/IllegalStateException", Cond.fieldLink RX4 84 "AgedAssets$Part" "firstMonth" "I", Cond.fieldLink RX4 93 "AgedAssets$Part" "eventIn" "[LAgedAssets$Event;", Cond.fieldLink RX4 96 "AgedAssets$Part" "eventCount" "I", Cond.fieldLink RX4 99 "AgedAssets" "eventCount" "I", Cond.classLink RX4 15 RX1, Cond.instantiable RX1 5, Cond.initialized RX1, Cond.fieldLink RX4 17 "AgedAssets" "eventRow" "[LAgedAssets$Event;", Cond.methodLink RX4 66 yX4_partOf, Cond.instanceMethod yX4_partOf, Cond.selects RX4 yX4_partOf yX4_partOf, Cond.code yX4_partOf cX4_partOf 2 (some (.object "AgedAssets$Part")), Cond.fieldLink RX4 54 "AgedAssets" "partCount" "I"]
def wsL_event_r2 : List Cond := [Cond.fieldLink RX4 11 "AgedAssets" "partRow" "[LAgedAssets$Part;", Cond.methodLink RX4 37 yX4_isMonth, Cond.static yX4_isMonth, Cond.code yX4_isMonth cX4_isMonth 1 (some .boolean), Cond.methodLink RX4 87 yX4_isEvent, Cond.static yX4_isEvent, Cond.code yX4_isEvent cX4_isEvent 4 (some .boolean), Cond.constantLong RX4 31 (1000000000), Cond.constantLong RX4 41 (36), Cond.constantLong RX4 70 (1000000), Cond.methodLink RX4 33 yX4_isWithin, Cond.static yX4_isWithin, Cond.code yX4_isWithin cX4_isWithin 6 (some .boolean), Cond.methodLink RX4 102 yX1_init, Cond.instanceMethod yX1_init, Cond.code yX1_init cX1_init 7 none, Cond.methodLink RX1 1 objectInit, Cond.instanceMethod objectInit, Cond.code objectInit ⟨#[0xb1]⟩ 1 none, Cond.fieldLink RX1 7 "AgedAssets$Event" "partNumber" "I", Cond.fieldLink RX1 13 "AgedAssets$Event" "month" "I", Cond.fieldLink RX1 16 "AgedAssets$Event" "kind" "I", Cond.fieldLink RX1 19 "AgedAssets$Event" "amount" "J", Cond.fieldLink RX1 23 "AgedAssets$Event" "number" "I"]
def wsL_event_r3 : List Cond := [Cond.methodLink RX4 78 yX4_hasBreach, Cond.instanceMethod yX4_hasBreach, Cond.selects RX4 yX4_hasBreach yX4_hasBreach, Cond.code yX4_hasBreach cX4_hasBreach 2 (some .boolean), Cond.fieldLink RX4 24 "AgedAssets" "full" "LAgedAssets$Course;", Cond.methodLink RX4 127 yX4_follow, Cond.instanceMethod yX4_follow, Cond.selects RX4 yX4_follow yX4_follow, Cond.code yX4_follow cX4_follow 5 none, Cond.fieldLink RX4 28 "AgedAssets" "bare" "LAgedAssets$Course;", Cond.fieldLink RX4 117 "AgedAssets$Event" "kind" "I", Cond.constantLong RX4 191 (-1), Cond.fieldLink RX4 74 "AgedAssets$Part" "unitsIn" "[I", Cond.methodLink RX4 183 yX0_open, Cond.instanceMethod yX0_open, Cond.selects RX0 yX0_open yX0_open, Cond.initialized RX0, Cond.code yX0_open cX0_open 2 none, Cond.fieldLink RX0 18 "AgedAssets$Part" "method" "I", Cond.fieldLink RX0 24 "AgedAssets$Course" "method" "I", Cond.fieldLink RX0 25 "AgedAssets$Part" "rate" "I", Cond.fieldLink RX0 28 "AgedAssets$Course" "rate" "I", Cond.fieldLink RX0 29 "AgedAssets$Part" "cost" "J", Cond.fieldLink RX0 33 "AgedAssets$Course" "cost" "J"]
def wsL_event_r4 : List Cond := [Cond.fieldLink RX0 34 "AgedAssets$Course" "allowance" "J", Cond.fieldLink RX0 37 "AgedAssets$Course" "reserve" "J", Cond.fieldLink RX0 40 "AgedAssets$Course" "losses" "J", Cond.fieldLink RX0 43 "AgedAssets$Part" "residual" "J", Cond.fieldLink RX0 46 "AgedAssets$Course" "residual" "J", Cond.fieldLink RX0 47 "AgedAssets$Part" "life" "I", Cond.fieldLink RX0 50 "AgedAssets$Course" "restOfLife" "I", Cond.fieldLink RX0 53 "AgedAssets$Course" "held" "Z", Cond.fieldLink RX0 57 "AgedAssets$Course" "gone" "Z", Cond.fieldLink RX0 60 "AgedAssets$Course" "breached" "Z", Cond.fieldLink RX0 63 "AgedAssets$Course" "chargedUnits" "J", Cond.fieldLink RX0 66 "AgedAssets$Course" "lastCharge" "J", Cond.fieldLink RX0 69 "AgedAssets$Course" "allCharges" "J", Cond.methodLink RX0 72 yX0_beginStretch, Cond.instanceMethod yX0_beginStretch, Cond.selects RX0 yX0_beginStretch yX0_beginStretch, Cond.code yX0_beginStretch cX0_beginStretch 1 none, Cond.fieldLink RX0 12 "AgedAssets$Course" "stretch" "LAgedAssets$Stretch;", Cond.methodLink RX0 136 Lib.MathLoose.max_long.x, Cond.static Lib.MathLoose.max_long.x, Cond.initialized "java/lang/Math", Cond.code Lib.MathLoose.max_long.x Lib.MathLoose.max_long.code 4 (some .long), Cond.methodLink RX0 77 yX0_book, Cond.instanceMethod yX0_book]
def wsL_event_r5 : List Cond := [Cond.selects RX0 yX0_book yX0_book, Cond.code yX0_book cX0_book 1 (some .long), Cond.methodLink RX0 139 yX3_begin, Cond.instanceMethod yX3_begin, Cond.selects RX3 yX3_begin yX3_begin, Cond.initialized RX3, Cond.code yX3_begin cX3_begin 7 none, Cond.fieldLink RX3 9 "AgedAssets$Stretch" "base" "J", Cond.fieldLink RX3 15 "AgedAssets$Stretch" "length" "J", Cond.fieldLink RX3 18 "AgedAssets$Stretch" "unitsLeft" "J", Cond.fieldLink RX3 21 "AgedAssets$Stretch" "monthsCharged" "J", Cond.fieldLink RX3 24 "AgedAssets$Stretch" "unitsCharged" "J", Cond.fieldLink RX3 27 "AgedAssets$Stretch" "charged" "J", Cond.methodLink RX4 159 yX0_bookOrNone, Cond.instanceMethod yX0_bookOrNone, Cond.selects RX0 yX0_bookOrNone yX0_bookOrNone, Cond.code yX0_bookOrNone cX0_bookOrNone 1 (some .long), Cond.constantLong RX0 75 (-1), Cond.methodLink RX4 187 yX0_meet, Cond.instanceMethod yX0_meet, Cond.selects RX0 yX0_meet yX0_meet, Cond.code yX0_meet cX0_meet 4 none, Cond.fieldLink RX0 89 "AgedAssets$Event" "kind" "I", Cond.methodLink RX0 81 yX0_isBreach]
def wsL_event_r6 : List Cond := [Cond.instanceMethod yX0_isBreach, Cond.selects RX0 yX0_isBreach yX0_isBreach, Cond.code yX0_isBreach cX0_isBreach 4 (some .boolean), Cond.fieldLink RX0 101 "AgedAssets$Event" "amount" "J", Cond.methodLink RX0 85 yX0_apply, Cond.instanceMethod yX0_apply, Cond.selects RX0 yX0_apply yX0_apply, Cond.code yX0_apply cX0_apply 2 none, Cond.fieldLink RX0 104 "AgedAssets$Event" "number" "I", Cond.methodLink RX0 107 yX0_revalue, Cond.instanceMethod yX0_revalue, Cond.selects RX0 yX0_revalue yX0_revalue, Cond.code yX0_revalue cX0_revalue 3 none, Cond.methodLink RX0 121 yX0_lose, Cond.instanceMethod yX0_lose, Cond.selects RX0 yX0_lose yX0_lose, Cond.code yX0_lose cX0_lose 5 none, Cond.methodLink RX0 124 Lib.MathLoose.min_long.x, Cond.static Lib.MathLoose.min_long.x, Cond.code Lib.MathLoose.min_long.x Lib.MathLoose.min_long.code 4 (some .long), Cond.methodLink RX0 111 yX0_impair, Cond.instanceMethod yX0_impair, Cond.selects RX0 yX0_impair yX0_impair, Cond.code yX0_impair cX0_impair 3 none]
def wsL_event_r7 : List Cond := [Cond.methodLink RX0 114 yX0_restore, Cond.instanceMethod yX0_restore, Cond.selects RX0 yX0_restore yX0_restore, Cond.code yX0_restore cX0_restore 3 none, Cond.methodLink RX0 117 yX0_sell, Cond.instanceMethod yX0_sell, Cond.selects RX0 yX0_sell yX0_sell, Cond.code yX0_sell cX0_sell 2 none, Cond.constantLong RX0 130 (1000000), Cond.constant RX0 135 (1000000), Cond.static yX4_rounded, Cond.code yX4_rounded cX4_rounded 4 (some .long), Cond.constantLong RX4 197 (2), Cond.methodLink RX4 193 yX0_chargeMonth, Cond.instanceMethod yX0_chargeMonth, Cond.selects RX0 yX0_chargeMonth yX0_chargeMonth, Cond.code yX0_chargeMonth cX0_chargeMonth 2 none, Cond.methodLink RX0 94 yX0_decliningCharge, Cond.instanceMethod yX0_decliningCharge, Cond.selects RX0 yX0_decliningCharge yX0_decliningCharge, Cond.code yX0_decliningCharge cX0_decliningCharge 7 (some .long), Cond.methodLink RX0 97 yX3_nextCharge, Cond.instanceMethod yX3_nextCharge, Cond.selects RX3 yX3_nextCharge yX3_nextCharge]
def wsL_event_r8 : List Cond := [Cond.code yX3_nextCharge cX3_nextCharge 5 (some .long), Cond.methodLink RX3 30 yX3_chargesTogether, Cond.instanceMethod yX3_chargesTogether, Cond.selects RX3 yX3_chargesTogether yX3_chargesTogether, Cond.code yX3_chargesTogether cX3_chargesTogether 2 (some .long), Cond.methodLink RX3 42 Lib.MathLoose.min_long.x, Cond.methodLink RX3 38 yX3_sumUpTo, Cond.static yX3_sumUpTo, Cond.code yX3_sumUpTo cX3_sumUpTo 2 (some .long), Cond.constantLong RX3 47 (2)]
def wsL_event : List Cond := .codeWith yL_event cL_event 9 (some .int) [(0, 16, 19, 13), (0, 16, 23, 15)] :: ((wsL_event_r1 ++ (wsL_event_r2 ++ (wsL_event_r3 ++ (wsL_event_r4 ++ (wsL_event_r5 ++ (wsL_event_r6 ++ (wsL_event_r7 ++ wsL_event_r8))))))) ++ wsX20 ++ wsX40 ++ wsX10 ++ wsX00 ++ wsX30 ++ (vx_atS RX4 51 "java/lang/IllegalArgumentException" ["java/lang/RuntimeException", "java/lang/Exception"]).filter goodWord ++ (vx_atS RX4 62 "java/lang/IllegalStateException" ["java/lang/RuntimeException", "java/lang/Exception"]).filter goodWord)
def wsL_value_r1 : List Cond := [Cond.classLink RL 13 "java/lang/IllegalArgumentException", Cond.methodLink RL 25 yX4_value, Cond.instanceMethod yX4_value, Cond.selects RX4 yX4_value yX4_value, Cond.initialized RX4, Cond.code yX4_value cX4_value 5 (some .long), Cond.classLink RX4 47 "java/lang/IllegalArgumentException", Cond.initialized "java/lang/IllegalArgumentException", Cond.constantLong RX4 123 (6), Cond.fieldLink RX4 84 "AgedAssets$Part" "firstMonth" "I", Cond.fieldLink RX4 24 "AgedAssets" "full" "LAgedAssets$Course;", Cond.methodLink RX4 66 yX4_partOf, Cond.instanceMethod yX4_partOf, Cond.selects RX4 yX4_partOf yX4_partOf, Cond.code yX4_partOf cX4_partOf 2 (some (.object "AgedAssets$Part")), Cond.fieldLink RX4 54 "AgedAssets" "partCount" "I", Cond.fieldLink RX4 11 "AgedAssets" "partRow" "[LAgedAssets$Part;", Cond.methodLink RX4 37 yX4_isMonth, Cond.static yX4_isMonth, Cond.code yX4_isMonth cX4_isMonth 1 (some .boolean), Cond.methodLink RX4 33 yX4_isWithin, Cond.static yX4_isWithin, Cond.code yX4_isWithin cX4_isWithin 6 (some .boolean), Cond.methodLink RX4 127 yX4_follow]
def wsL_value_r2 : List Cond := [Cond.instanceMethod yX4_follow, Cond.selects RX4 yX4_follow yX4_follow, Cond.code yX4_follow cX4_follow 5 none, Cond.fieldLink RX4 28 "AgedAssets" "bare" "LAgedAssets$Course;", Cond.fieldLink RX4 93 "AgedAssets$Part" "eventIn" "[LAgedAssets$Event;", Cond.fieldLink RX4 117 "AgedAssets$Event" "kind" "I", Cond.constantLong RX4 191 (-1), Cond.fieldLink RX4 74 "AgedAssets$Part" "unitsIn" "[I", Cond.methodLink RX4 183 yX0_open, Cond.instanceMethod yX0_open, Cond.selects RX0 yX0_open yX0_open, Cond.initialized RX0, Cond.code yX0_open cX0_open 2 none, Cond.fieldLink RX0 18 "AgedAssets$Part" "method" "I", Cond.fieldLink RX0 24 "AgedAssets$Course" "method" "I", Cond.fieldLink RX0 25 "AgedAssets$Part" "rate" "I", Cond.fieldLink RX0 28 "AgedAssets$Course" "rate" "I", Cond.fieldLink RX0 29 "AgedAssets$Part" "cost" "J", Cond.fieldLink RX0 33 "AgedAssets$Course" "cost" "J", Cond.fieldLink RX0 34 "AgedAssets$Course" "allowance" "J", Cond.fieldLink RX0 37 "AgedAssets$Course" "reserve" "J", Cond.fieldLink RX0 40 "AgedAssets$Course" "losses" "J", Cond.fieldLink RX0 43 "AgedAssets$Part" "residual" "J", Cond.fieldLink RX0 46 "AgedAssets$Course" "residual" "J"]
def wsL_value_r3 : List Cond := [Cond.fieldLink RX0 47 "AgedAssets$Part" "life" "I", Cond.fieldLink RX0 50 "AgedAssets$Course" "restOfLife" "I", Cond.fieldLink RX0 53 "AgedAssets$Course" "held" "Z", Cond.fieldLink RX0 57 "AgedAssets$Course" "gone" "Z", Cond.fieldLink RX0 60 "AgedAssets$Course" "breached" "Z", Cond.fieldLink RX0 63 "AgedAssets$Course" "chargedUnits" "J", Cond.fieldLink RX0 66 "AgedAssets$Course" "lastCharge" "J", Cond.fieldLink RX0 69 "AgedAssets$Course" "allCharges" "J", Cond.methodLink RX0 72 yX0_beginStretch, Cond.instanceMethod yX0_beginStretch, Cond.selects RX0 yX0_beginStretch yX0_beginStretch, Cond.code yX0_beginStretch cX0_beginStretch 1 none, Cond.fieldLink RX0 12 "AgedAssets$Course" "stretch" "LAgedAssets$Stretch;", Cond.methodLink RX0 136 Lib.MathLoose.max_long.x, Cond.static Lib.MathLoose.max_long.x, Cond.initialized "java/lang/Math", Cond.code Lib.MathLoose.max_long.x Lib.MathLoose.max_long.code 4 (some .long), Cond.methodLink RX0 77 yX0_book, Cond.instanceMethod yX0_book, Cond.selects RX0 yX0_book yX0_book, Cond.code yX0_book cX0_book 1 (some .long), Cond.methodLink RX0 139 yX3_begin, Cond.instanceMethod yX3_begin, Cond.selects RX3 yX3_begin yX3_begin]
def wsL_value_r4 : List Cond := [Cond.initialized RX3, Cond.code yX3_begin cX3_begin 7 none, Cond.fieldLink RX3 9 "AgedAssets$Stretch" "base" "J", Cond.fieldLink RX3 15 "AgedAssets$Stretch" "length" "J", Cond.fieldLink RX3 18 "AgedAssets$Stretch" "unitsLeft" "J", Cond.fieldLink RX3 21 "AgedAssets$Stretch" "monthsCharged" "J", Cond.fieldLink RX3 24 "AgedAssets$Stretch" "unitsCharged" "J", Cond.fieldLink RX3 27 "AgedAssets$Stretch" "charged" "J", Cond.methodLink RX4 159 yX0_bookOrNone, Cond.instanceMethod yX0_bookOrNone, Cond.selects RX0 yX0_bookOrNone yX0_bookOrNone, Cond.code yX0_bookOrNone cX0_bookOrNone 1 (some .long), Cond.constantLong RX0 75 (-1), Cond.methodLink RX4 187 yX0_meet, Cond.instanceMethod yX0_meet, Cond.selects RX0 yX0_meet yX0_meet, Cond.code yX0_meet cX0_meet 4 none, Cond.fieldLink RX0 89 "AgedAssets$Event" "kind" "I", Cond.methodLink RX0 81 yX0_isBreach, Cond.instanceMethod yX0_isBreach, Cond.selects RX0 yX0_isBreach yX0_isBreach, Cond.code yX0_isBreach cX0_isBreach 4 (some .boolean), Cond.fieldLink RX0 101 "AgedAssets$Event" "amount" "J", Cond.methodLink RX0 85 yX0_apply]
def wsL_value_r5 : List Cond := [Cond.instanceMethod yX0_apply, Cond.selects RX0 yX0_apply yX0_apply, Cond.code yX0_apply cX0_apply 2 none, Cond.fieldLink RX0 104 "AgedAssets$Event" "number" "I", Cond.methodLink RX0 107 yX0_revalue, Cond.instanceMethod yX0_revalue, Cond.selects RX0 yX0_revalue yX0_revalue, Cond.code yX0_revalue cX0_revalue 3 none, Cond.methodLink RX0 121 yX0_lose, Cond.instanceMethod yX0_lose, Cond.selects RX0 yX0_lose yX0_lose, Cond.code yX0_lose cX0_lose 5 none, Cond.methodLink RX0 124 Lib.MathLoose.min_long.x, Cond.static Lib.MathLoose.min_long.x, Cond.code Lib.MathLoose.min_long.x Lib.MathLoose.min_long.code 4 (some .long), Cond.methodLink RX0 111 yX0_impair, Cond.instanceMethod yX0_impair, Cond.selects RX0 yX0_impair yX0_impair, Cond.code yX0_impair cX0_impair 3 none, Cond.methodLink RX0 114 yX0_restore, Cond.instanceMethod yX0_restore, Cond.selects RX0 yX0_restore yX0_restore, Cond.code yX0_restore cX0_restore 3 none, Cond.methodLink RX0 117 yX0_sell]
def wsL_value_r6 : List Cond := [Cond.instanceMethod yX0_sell, Cond.selects RX0 yX0_sell yX0_sell, Cond.code yX0_sell cX0_sell 2 none, Cond.constantLong RX0 130 (1000000), Cond.constant RX0 135 (1000000), Cond.static yX4_rounded, Cond.code yX4_rounded cX4_rounded 4 (some .long), Cond.constantLong RX4 197 (2), Cond.methodLink RX4 193 yX0_chargeMonth, Cond.instanceMethod yX0_chargeMonth, Cond.selects RX0 yX0_chargeMonth yX0_chargeMonth, Cond.code yX0_chargeMonth cX0_chargeMonth 2 none, Cond.methodLink RX0 94 yX0_decliningCharge, Cond.instanceMethod yX0_decliningCharge, Cond.selects RX0 yX0_decliningCharge yX0_decliningCharge, Cond.code yX0_decliningCharge cX0_decliningCharge 7 (some .long), Cond.methodLink RX0 97 yX3_nextCharge, Cond.instanceMethod yX3_nextCharge, Cond.selects RX3 yX3_nextCharge yX3_nextCharge, Cond.code yX3_nextCharge cX3_nextCharge 5 (some .long), Cond.methodLink RX3 30 yX3_chargesTogether, Cond.instanceMethod yX3_chargesTogether, Cond.selects RX3 yX3_chargesTogether yX3_chargesTogether, Cond.code yX3_chargesTogether cX3_chargesTogether 2 (some .long)]
def wsL_value_r7 : List Cond := [Cond.methodLink RX3 42 Lib.MathLoose.min_long.x, Cond.methodLink RX3 38 yX3_sumUpTo, Cond.static yX3_sumUpTo, Cond.code yX3_sumUpTo cX3_sumUpTo 2 (some .long), Cond.constantLong RX3 47 (2), Cond.methodLink RX4 138 yX0_book]
def wsL_value : List Cond := .codeWith yL_value cL_value 6 (some .int) [(0, 11, 14, 13)] :: ((wsL_value_r1 ++ (wsL_value_r2 ++ (wsL_value_r3 ++ (wsL_value_r4 ++ (wsL_value_r5 ++ (wsL_value_r6 ++ wsL_value_r7)))))) ++ wsX20 ++ wsX40 ++ wsX00 ++ wsX10 ++ wsX30 ++ (vx_atS RX4 51 "java/lang/IllegalArgumentException" ["java/lang/RuntimeException", "java/lang/Exception"]).filter goodWord)
def wsL_charge_r1 : List Cond := [Cond.classLink RL 13 "java/lang/IllegalArgumentException", Cond.methodLink RL 29 yX4_charge, Cond.instanceMethod yX4_charge, Cond.selects RX4 yX4_charge yX4_charge, Cond.initialized RX4, Cond.code yX4_charge cX4_charge 4 (some .long), Cond.classLink RX4 47 "java/lang/IllegalArgumentException", Cond.initialized "java/lang/IllegalArgumentException", Cond.fieldLink RX4 84 "AgedAssets$Part" "firstMonth" "I", Cond.fieldLink RX4 24 "AgedAssets" "full" "LAgedAssets$Course;", Cond.methodLink RX4 66 yX4_partOf, Cond.instanceMethod yX4_partOf, Cond.selects RX4 yX4_partOf yX4_partOf, Cond.code yX4_partOf cX4_partOf 2 (some (.object "AgedAssets$Part")), Cond.fieldLink RX4 54 "AgedAssets" "partCount" "I", Cond.fieldLink RX4 11 "AgedAssets" "partRow" "[LAgedAssets$Part;", Cond.methodLink RX4 37 yX4_isMonth, Cond.static yX4_isMonth, Cond.code yX4_isMonth cX4_isMonth 1 (some .boolean), Cond.methodLink RX4 127 yX4_follow, Cond.instanceMethod yX4_follow, Cond.selects RX4 yX4_follow yX4_follow, Cond.code yX4_follow cX4_follow 5 none, Cond.fieldLink RX4 28 "AgedAssets" "bare" "LAgedAssets$Course;"]
def wsL_charge_r2 : List Cond := [Cond.fieldLink RX4 93 "AgedAssets$Part" "eventIn" "[LAgedAssets$Event;", Cond.fieldLink RX4 117 "AgedAssets$Event" "kind" "I", Cond.constantLong RX4 191 (-1), Cond.fieldLink RX4 74 "AgedAssets$Part" "unitsIn" "[I", Cond.methodLink RX4 183 yX0_open, Cond.instanceMethod yX0_open, Cond.selects RX0 yX0_open yX0_open, Cond.initialized RX0, Cond.code yX0_open cX0_open 2 none, Cond.fieldLink RX0 18 "AgedAssets$Part" "method" "I", Cond.fieldLink RX0 24 "AgedAssets$Course" "method" "I", Cond.fieldLink RX0 25 "AgedAssets$Part" "rate" "I", Cond.fieldLink RX0 28 "AgedAssets$Course" "rate" "I", Cond.fieldLink RX0 29 "AgedAssets$Part" "cost" "J", Cond.fieldLink RX0 33 "AgedAssets$Course" "cost" "J", Cond.fieldLink RX0 34 "AgedAssets$Course" "allowance" "J", Cond.fieldLink RX0 37 "AgedAssets$Course" "reserve" "J", Cond.fieldLink RX0 40 "AgedAssets$Course" "losses" "J", Cond.fieldLink RX0 43 "AgedAssets$Part" "residual" "J", Cond.fieldLink RX0 46 "AgedAssets$Course" "residual" "J", Cond.fieldLink RX0 47 "AgedAssets$Part" "life" "I", Cond.fieldLink RX0 50 "AgedAssets$Course" "restOfLife" "I", Cond.fieldLink RX0 53 "AgedAssets$Course" "held" "Z", Cond.fieldLink RX0 57 "AgedAssets$Course" "gone" "Z"]
def wsL_charge_r3 : List Cond := [Cond.fieldLink RX0 60 "AgedAssets$Course" "breached" "Z", Cond.fieldLink RX0 63 "AgedAssets$Course" "chargedUnits" "J", Cond.fieldLink RX0 66 "AgedAssets$Course" "lastCharge" "J", Cond.fieldLink RX0 69 "AgedAssets$Course" "allCharges" "J", Cond.methodLink RX0 72 yX0_beginStretch, Cond.instanceMethod yX0_beginStretch, Cond.selects RX0 yX0_beginStretch yX0_beginStretch, Cond.code yX0_beginStretch cX0_beginStretch 1 none, Cond.fieldLink RX0 12 "AgedAssets$Course" "stretch" "LAgedAssets$Stretch;", Cond.methodLink RX0 136 Lib.MathLoose.max_long.x, Cond.static Lib.MathLoose.max_long.x, Cond.initialized "java/lang/Math", Cond.code Lib.MathLoose.max_long.x Lib.MathLoose.max_long.code 4 (some .long), Cond.methodLink RX0 77 yX0_book, Cond.instanceMethod yX0_book, Cond.selects RX0 yX0_book yX0_book, Cond.code yX0_book cX0_book 1 (some .long), Cond.methodLink RX0 139 yX3_begin, Cond.instanceMethod yX3_begin, Cond.selects RX3 yX3_begin yX3_begin, Cond.initialized RX3, Cond.code yX3_begin cX3_begin 7 none, Cond.fieldLink RX3 9 "AgedAssets$Stretch" "base" "J", Cond.fieldLink RX3 15 "AgedAssets$Stretch" "length" "J"]
def wsL_charge_r4 : List Cond := [Cond.fieldLink RX3 18 "AgedAssets$Stretch" "unitsLeft" "J", Cond.fieldLink RX3 21 "AgedAssets$Stretch" "monthsCharged" "J", Cond.fieldLink RX3 24 "AgedAssets$Stretch" "unitsCharged" "J", Cond.fieldLink RX3 27 "AgedAssets$Stretch" "charged" "J", Cond.methodLink RX4 159 yX0_bookOrNone, Cond.instanceMethod yX0_bookOrNone, Cond.selects RX0 yX0_bookOrNone yX0_bookOrNone, Cond.code yX0_bookOrNone cX0_bookOrNone 1 (some .long), Cond.constantLong RX0 75 (-1), Cond.methodLink RX4 187 yX0_meet, Cond.instanceMethod yX0_meet, Cond.selects RX0 yX0_meet yX0_meet, Cond.code yX0_meet cX0_meet 4 none, Cond.fieldLink RX0 89 "AgedAssets$Event" "kind" "I", Cond.methodLink RX0 81 yX0_isBreach, Cond.instanceMethod yX0_isBreach, Cond.selects RX0 yX0_isBreach yX0_isBreach, Cond.code yX0_isBreach cX0_isBreach 4 (some .boolean), Cond.fieldLink RX0 101 "AgedAssets$Event" "amount" "J", Cond.methodLink RX0 85 yX0_apply, Cond.instanceMethod yX0_apply, Cond.selects RX0 yX0_apply yX0_apply, Cond.code yX0_apply cX0_apply 2 none, Cond.fieldLink RX0 104 "AgedAssets$Event" "number" "I"]
def wsL_charge_r5 : List Cond := [Cond.methodLink RX0 107 yX0_revalue, Cond.instanceMethod yX0_revalue, Cond.selects RX0 yX0_revalue yX0_revalue, Cond.code yX0_revalue cX0_revalue 3 none, Cond.methodLink RX0 121 yX0_lose, Cond.instanceMethod yX0_lose, Cond.selects RX0 yX0_lose yX0_lose, Cond.code yX0_lose cX0_lose 5 none, Cond.methodLink RX0 124 Lib.MathLoose.min_long.x, Cond.static Lib.MathLoose.min_long.x, Cond.code Lib.MathLoose.min_long.x Lib.MathLoose.min_long.code 4 (some .long), Cond.methodLink RX0 111 yX0_impair, Cond.instanceMethod yX0_impair, Cond.selects RX0 yX0_impair yX0_impair, Cond.code yX0_impair cX0_impair 3 none, Cond.methodLink RX0 114 yX0_restore, Cond.instanceMethod yX0_restore, Cond.selects RX0 yX0_restore yX0_restore, Cond.code yX0_restore cX0_restore 3 none, Cond.methodLink RX0 117 yX0_sell, Cond.instanceMethod yX0_sell, Cond.selects RX0 yX0_sell yX0_sell, Cond.code yX0_sell cX0_sell 2 none, Cond.constantLong RX0 130 (1000000)]
def wsL_charge_r6 : List Cond := [Cond.constant RX0 135 (1000000), Cond.static yX4_rounded, Cond.code yX4_rounded cX4_rounded 4 (some .long), Cond.constantLong RX4 197 (2), Cond.methodLink RX4 193 yX0_chargeMonth, Cond.instanceMethod yX0_chargeMonth, Cond.selects RX0 yX0_chargeMonth yX0_chargeMonth, Cond.code yX0_chargeMonth cX0_chargeMonth 2 none, Cond.methodLink RX0 94 yX0_decliningCharge, Cond.instanceMethod yX0_decliningCharge, Cond.selects RX0 yX0_decliningCharge yX0_decliningCharge, Cond.code yX0_decliningCharge cX0_decliningCharge 7 (some .long), Cond.methodLink RX0 97 yX3_nextCharge, Cond.instanceMethod yX3_nextCharge, Cond.selects RX3 yX3_nextCharge yX3_nextCharge, Cond.code yX3_nextCharge cX3_nextCharge 5 (some .long), Cond.methodLink RX3 30 yX3_chargesTogether, Cond.instanceMethod yX3_chargesTogether, Cond.selects RX3 yX3_chargesTogether yX3_chargesTogether, Cond.code yX3_chargesTogether cX3_chargesTogether 2 (some .long), Cond.methodLink RX3 42 Lib.MathLoose.min_long.x, Cond.methodLink RX3 38 yX3_sumUpTo, Cond.static yX3_sumUpTo, Cond.code yX3_sumUpTo cX3_sumUpTo 2 (some .long)]
def wsL_charge_r7 : List Cond := [Cond.constantLong RX3 47 (2)]
def wsL_charge : List Cond := .codeWith yL_charge cL_charge 5 (some .int) [(0, 9, 12, 13)] :: ((wsL_charge_r1 ++ (wsL_charge_r2 ++ (wsL_charge_r3 ++ (wsL_charge_r4 ++ (wsL_charge_r5 ++ (wsL_charge_r6 ++ wsL_charge_r7)))))) ++ wsX20 ++ wsX40 ++ wsX00 ++ wsX10 ++ wsX30 ++ (vx_atS RX4 51 "java/lang/IllegalArgumentException" ["java/lang/RuntimeException", "java/lang/Exception"]).filter goodWord)
def wsL_without_r1 : List Cond := [Cond.classLink RL 13 "java/lang/IllegalArgumentException", Cond.methodLink RL 33 yX4_without, Cond.instanceMethod yX4_without, Cond.selects RX4 yX4_without yX4_without, Cond.initialized RX4, Cond.code yX4_without cX4_without 4 (some .long), Cond.classLink RX4 47 "java/lang/IllegalArgumentException", Cond.initialized "java/lang/IllegalArgumentException", Cond.fieldLink RX4 84 "AgedAssets$Part" "firstMonth" "I", Cond.fieldLink RX4 28 "AgedAssets" "bare" "LAgedAssets$Course;", Cond.methodLink RX4 66 yX4_partOf, Cond.instanceMethod yX4_partOf, Cond.selects RX4 yX4_partOf yX4_partOf, Cond.code yX4_partOf cX4_partOf 2 (some (.object "AgedAssets$Part")), Cond.fieldLink RX4 54 "AgedAssets" "partCount" "I", Cond.fieldLink RX4 11 "AgedAssets" "partRow" "[LAgedAssets$Part;", Cond.methodLink RX4 37 yX4_isMonth, Cond.static yX4_isMonth, Cond.code yX4_isMonth cX4_isMonth 1 (some .boolean), Cond.methodLink RX4 127 yX4_follow, Cond.instanceMethod yX4_follow, Cond.selects RX4 yX4_follow yX4_follow, Cond.code yX4_follow cX4_follow 5 none, Cond.fieldLink RX4 24 "AgedAssets" "full" "LAgedAssets$Course;"]
def wsL_without_r2 : List Cond := [Cond.fieldLink RX4 93 "AgedAssets$Part" "eventIn" "[LAgedAssets$Event;", Cond.fieldLink RX4 117 "AgedAssets$Event" "kind" "I", Cond.constantLong RX4 191 (-1), Cond.fieldLink RX4 74 "AgedAssets$Part" "unitsIn" "[I", Cond.methodLink RX4 183 yX0_open, Cond.instanceMethod yX0_open, Cond.selects RX0 yX0_open yX0_open, Cond.initialized RX0, Cond.code yX0_open cX0_open 2 none, Cond.fieldLink RX0 18 "AgedAssets$Part" "method" "I", Cond.fieldLink RX0 24 "AgedAssets$Course" "method" "I", Cond.fieldLink RX0 25 "AgedAssets$Part" "rate" "I", Cond.fieldLink RX0 28 "AgedAssets$Course" "rate" "I", Cond.fieldLink RX0 29 "AgedAssets$Part" "cost" "J", Cond.fieldLink RX0 33 "AgedAssets$Course" "cost" "J", Cond.fieldLink RX0 34 "AgedAssets$Course" "allowance" "J", Cond.fieldLink RX0 37 "AgedAssets$Course" "reserve" "J", Cond.fieldLink RX0 40 "AgedAssets$Course" "losses" "J", Cond.fieldLink RX0 43 "AgedAssets$Part" "residual" "J", Cond.fieldLink RX0 46 "AgedAssets$Course" "residual" "J", Cond.fieldLink RX0 47 "AgedAssets$Part" "life" "I", Cond.fieldLink RX0 50 "AgedAssets$Course" "restOfLife" "I", Cond.fieldLink RX0 53 "AgedAssets$Course" "held" "Z", Cond.fieldLink RX0 57 "AgedAssets$Course" "gone" "Z"]
def wsL_without_r3 : List Cond := [Cond.fieldLink RX0 60 "AgedAssets$Course" "breached" "Z", Cond.fieldLink RX0 63 "AgedAssets$Course" "chargedUnits" "J", Cond.fieldLink RX0 66 "AgedAssets$Course" "lastCharge" "J", Cond.fieldLink RX0 69 "AgedAssets$Course" "allCharges" "J", Cond.methodLink RX0 72 yX0_beginStretch, Cond.instanceMethod yX0_beginStretch, Cond.selects RX0 yX0_beginStretch yX0_beginStretch, Cond.code yX0_beginStretch cX0_beginStretch 1 none, Cond.fieldLink RX0 12 "AgedAssets$Course" "stretch" "LAgedAssets$Stretch;", Cond.methodLink RX0 136 Lib.MathLoose.max_long.x, Cond.static Lib.MathLoose.max_long.x, Cond.initialized "java/lang/Math", Cond.code Lib.MathLoose.max_long.x Lib.MathLoose.max_long.code 4 (some .long), Cond.methodLink RX0 77 yX0_book, Cond.instanceMethod yX0_book, Cond.selects RX0 yX0_book yX0_book, Cond.code yX0_book cX0_book 1 (some .long), Cond.methodLink RX0 139 yX3_begin, Cond.instanceMethod yX3_begin, Cond.selects RX3 yX3_begin yX3_begin, Cond.initialized RX3, Cond.code yX3_begin cX3_begin 7 none, Cond.fieldLink RX3 9 "AgedAssets$Stretch" "base" "J", Cond.fieldLink RX3 15 "AgedAssets$Stretch" "length" "J"]
def wsL_without_r4 : List Cond := [Cond.fieldLink RX3 18 "AgedAssets$Stretch" "unitsLeft" "J", Cond.fieldLink RX3 21 "AgedAssets$Stretch" "monthsCharged" "J", Cond.fieldLink RX3 24 "AgedAssets$Stretch" "unitsCharged" "J", Cond.fieldLink RX3 27 "AgedAssets$Stretch" "charged" "J", Cond.methodLink RX4 159 yX0_bookOrNone, Cond.instanceMethod yX0_bookOrNone, Cond.selects RX0 yX0_bookOrNone yX0_bookOrNone, Cond.code yX0_bookOrNone cX0_bookOrNone 1 (some .long), Cond.constantLong RX0 75 (-1), Cond.methodLink RX4 187 yX0_meet, Cond.instanceMethod yX0_meet, Cond.selects RX0 yX0_meet yX0_meet, Cond.code yX0_meet cX0_meet 4 none, Cond.fieldLink RX0 89 "AgedAssets$Event" "kind" "I", Cond.methodLink RX0 81 yX0_isBreach, Cond.instanceMethod yX0_isBreach, Cond.selects RX0 yX0_isBreach yX0_isBreach, Cond.code yX0_isBreach cX0_isBreach 4 (some .boolean), Cond.fieldLink RX0 101 "AgedAssets$Event" "amount" "J", Cond.methodLink RX0 85 yX0_apply, Cond.instanceMethod yX0_apply, Cond.selects RX0 yX0_apply yX0_apply, Cond.code yX0_apply cX0_apply 2 none, Cond.fieldLink RX0 104 "AgedAssets$Event" "number" "I"]
def wsL_without_r5 : List Cond := [Cond.methodLink RX0 107 yX0_revalue, Cond.instanceMethod yX0_revalue, Cond.selects RX0 yX0_revalue yX0_revalue, Cond.code yX0_revalue cX0_revalue 3 none, Cond.methodLink RX0 121 yX0_lose, Cond.instanceMethod yX0_lose, Cond.selects RX0 yX0_lose yX0_lose, Cond.code yX0_lose cX0_lose 5 none, Cond.methodLink RX0 124 Lib.MathLoose.min_long.x, Cond.static Lib.MathLoose.min_long.x, Cond.code Lib.MathLoose.min_long.x Lib.MathLoose.min_long.code 4 (some .long), Cond.methodLink RX0 111 yX0_impair, Cond.instanceMethod yX0_impair, Cond.selects RX0 yX0_impair yX0_impair, Cond.code yX0_impair cX0_impair 3 none, Cond.methodLink RX0 114 yX0_restore, Cond.instanceMethod yX0_restore, Cond.selects RX0 yX0_restore yX0_restore, Cond.code yX0_restore cX0_restore 3 none, Cond.methodLink RX0 117 yX0_sell, Cond.instanceMethod yX0_sell, Cond.selects RX0 yX0_sell yX0_sell, Cond.code yX0_sell cX0_sell 2 none, Cond.constantLong RX0 130 (1000000)]
def wsL_without_r6 : List Cond := [Cond.constant RX0 135 (1000000), Cond.static yX4_rounded, Cond.code yX4_rounded cX4_rounded 4 (some .long), Cond.constantLong RX4 197 (2), Cond.methodLink RX4 193 yX0_chargeMonth, Cond.instanceMethod yX0_chargeMonth, Cond.selects RX0 yX0_chargeMonth yX0_chargeMonth, Cond.code yX0_chargeMonth cX0_chargeMonth 2 none, Cond.methodLink RX0 94 yX0_decliningCharge, Cond.instanceMethod yX0_decliningCharge, Cond.selects RX0 yX0_decliningCharge yX0_decliningCharge, Cond.code yX0_decliningCharge cX0_decliningCharge 7 (some .long), Cond.methodLink RX0 97 yX3_nextCharge, Cond.instanceMethod yX3_nextCharge, Cond.selects RX3 yX3_nextCharge yX3_nextCharge, Cond.code yX3_nextCharge cX3_nextCharge 5 (some .long), Cond.methodLink RX3 30 yX3_chargesTogether, Cond.instanceMethod yX3_chargesTogether, Cond.selects RX3 yX3_chargesTogether yX3_chargesTogether, Cond.code yX3_chargesTogether cX3_chargesTogether 2 (some .long), Cond.methodLink RX3 42 Lib.MathLoose.min_long.x, Cond.methodLink RX3 38 yX3_sumUpTo, Cond.static yX3_sumUpTo, Cond.code yX3_sumUpTo cX3_sumUpTo 2 (some .long)]
def wsL_without_r7 : List Cond := [Cond.constantLong RX3 47 (2)]
def wsL_without : List Cond := .codeWith yL_without cL_without 5 (some .int) [(0, 9, 12, 13)] :: ((wsL_without_r1 ++ (wsL_without_r2 ++ (wsL_without_r3 ++ (wsL_without_r4 ++ (wsL_without_r5 ++ (wsL_without_r6 ++ wsL_without_r7)))))) ++ wsX20 ++ wsX40 ++ wsX10 ++ wsX00 ++ wsX30 ++ (vx_atS RX4 51 "java/lang/IllegalArgumentException" ["java/lang/RuntimeException", "java/lang/Exception"]).filter goodWord)
def wsL_post_r1 : List Cond := [Cond.classLink RL 15 "java/lang/IllegalStateException", Cond.methodLink RL 36 yX4_post, Cond.instanceMethod yX4_post, Cond.selects RX4 yX4_post yX4_post, Cond.initialized RX4, Cond.code yX4_post cX4_post 6 (some .long), Cond.classLink RX4 58 "java/lang/IllegalStateException", Cond.initialized "java/lang/IllegalStateException", Cond.fieldLink RX4 162 "AgedAssets" "monthCount" "I", Cond.fieldLink RX4 54 "AgedAssets" "partCount" "I", Cond.fieldLink RX4 84 "AgedAssets$Part" "firstMonth" "I", Cond.fieldLink RX4 167 "AgedAssets$Part" "postedIn" "[J", Cond.fieldLink RX4 24 "AgedAssets" "full" "LAgedAssets$Course;", Cond.fieldLink RX4 174 "AgedAssets$Part" "postedInAll" "J", Cond.methodLink RX4 66 yX4_partOf, Cond.instanceMethod yX4_partOf, Cond.selects RX4 yX4_partOf yX4_partOf, Cond.code yX4_partOf cX4_partOf 2 (some (.object "AgedAssets$Part")), Cond.fieldLink RX4 11 "AgedAssets" "partRow" "[LAgedAssets$Part;", Cond.methodLink RX4 127 yX4_follow, Cond.instanceMethod yX4_follow, Cond.selects RX4 yX4_follow yX4_follow, Cond.code yX4_follow cX4_follow 5 none, Cond.fieldLink RX4 28 "AgedAssets" "bare" "LAgedAssets$Course;"]
def wsL_post_r2 : List Cond := [Cond.fieldLink RX4 93 "AgedAssets$Part" "eventIn" "[LAgedAssets$Event;", Cond.fieldLink RX4 117 "AgedAssets$Event" "kind" "I", Cond.constantLong RX4 191 (-1), Cond.fieldLink RX4 74 "AgedAssets$Part" "unitsIn" "[I", Cond.methodLink RX4 183 yX0_open, Cond.instanceMethod yX0_open, Cond.selects RX0 yX0_open yX0_open, Cond.initialized RX0, Cond.code yX0_open cX0_open 2 none, Cond.fieldLink RX0 18 "AgedAssets$Part" "method" "I", Cond.fieldLink RX0 24 "AgedAssets$Course" "method" "I", Cond.fieldLink RX0 25 "AgedAssets$Part" "rate" "I", Cond.fieldLink RX0 28 "AgedAssets$Course" "rate" "I", Cond.fieldLink RX0 29 "AgedAssets$Part" "cost" "J", Cond.fieldLink RX0 33 "AgedAssets$Course" "cost" "J", Cond.fieldLink RX0 34 "AgedAssets$Course" "allowance" "J", Cond.fieldLink RX0 37 "AgedAssets$Course" "reserve" "J", Cond.fieldLink RX0 40 "AgedAssets$Course" "losses" "J", Cond.fieldLink RX0 43 "AgedAssets$Part" "residual" "J", Cond.fieldLink RX0 46 "AgedAssets$Course" "residual" "J", Cond.fieldLink RX0 47 "AgedAssets$Part" "life" "I", Cond.fieldLink RX0 50 "AgedAssets$Course" "restOfLife" "I", Cond.fieldLink RX0 53 "AgedAssets$Course" "held" "Z", Cond.fieldLink RX0 57 "AgedAssets$Course" "gone" "Z"]
def wsL_post_r3 : List Cond := [Cond.fieldLink RX0 60 "AgedAssets$Course" "breached" "Z", Cond.fieldLink RX0 63 "AgedAssets$Course" "chargedUnits" "J", Cond.fieldLink RX0 66 "AgedAssets$Course" "lastCharge" "J", Cond.fieldLink RX0 69 "AgedAssets$Course" "allCharges" "J", Cond.methodLink RX0 72 yX0_beginStretch, Cond.instanceMethod yX0_beginStretch, Cond.selects RX0 yX0_beginStretch yX0_beginStretch, Cond.code yX0_beginStretch cX0_beginStretch 1 none, Cond.fieldLink RX0 12 "AgedAssets$Course" "stretch" "LAgedAssets$Stretch;", Cond.methodLink RX0 136 Lib.MathLoose.max_long.x, Cond.static Lib.MathLoose.max_long.x, Cond.initialized "java/lang/Math", Cond.code Lib.MathLoose.max_long.x Lib.MathLoose.max_long.code 4 (some .long), Cond.methodLink RX0 77 yX0_book, Cond.instanceMethod yX0_book, Cond.selects RX0 yX0_book yX0_book, Cond.code yX0_book cX0_book 1 (some .long), Cond.methodLink RX0 139 yX3_begin, Cond.instanceMethod yX3_begin, Cond.selects RX3 yX3_begin yX3_begin, Cond.initialized RX3, Cond.code yX3_begin cX3_begin 7 none, Cond.fieldLink RX3 9 "AgedAssets$Stretch" "base" "J", Cond.fieldLink RX3 15 "AgedAssets$Stretch" "length" "J"]
def wsL_post_r4 : List Cond := [Cond.fieldLink RX3 18 "AgedAssets$Stretch" "unitsLeft" "J", Cond.fieldLink RX3 21 "AgedAssets$Stretch" "monthsCharged" "J", Cond.fieldLink RX3 24 "AgedAssets$Stretch" "unitsCharged" "J", Cond.fieldLink RX3 27 "AgedAssets$Stretch" "charged" "J", Cond.methodLink RX4 159 yX0_bookOrNone, Cond.instanceMethod yX0_bookOrNone, Cond.selects RX0 yX0_bookOrNone yX0_bookOrNone, Cond.code yX0_bookOrNone cX0_bookOrNone 1 (some .long), Cond.constantLong RX0 75 (-1), Cond.methodLink RX4 187 yX0_meet, Cond.instanceMethod yX0_meet, Cond.selects RX0 yX0_meet yX0_meet, Cond.code yX0_meet cX0_meet 4 none, Cond.fieldLink RX0 89 "AgedAssets$Event" "kind" "I", Cond.methodLink RX0 81 yX0_isBreach, Cond.instanceMethod yX0_isBreach, Cond.selects RX0 yX0_isBreach yX0_isBreach, Cond.code yX0_isBreach cX0_isBreach 4 (some .boolean), Cond.fieldLink RX0 101 "AgedAssets$Event" "amount" "J", Cond.methodLink RX0 85 yX0_apply, Cond.instanceMethod yX0_apply, Cond.selects RX0 yX0_apply yX0_apply, Cond.code yX0_apply cX0_apply 2 none, Cond.fieldLink RX0 104 "AgedAssets$Event" "number" "I"]
def wsL_post_r5 : List Cond := [Cond.methodLink RX0 107 yX0_revalue, Cond.instanceMethod yX0_revalue, Cond.selects RX0 yX0_revalue yX0_revalue, Cond.code yX0_revalue cX0_revalue 3 none, Cond.methodLink RX0 121 yX0_lose, Cond.instanceMethod yX0_lose, Cond.selects RX0 yX0_lose yX0_lose, Cond.code yX0_lose cX0_lose 5 none, Cond.methodLink RX0 124 Lib.MathLoose.min_long.x, Cond.static Lib.MathLoose.min_long.x, Cond.code Lib.MathLoose.min_long.x Lib.MathLoose.min_long.code 4 (some .long), Cond.methodLink RX0 111 yX0_impair, Cond.instanceMethod yX0_impair, Cond.selects RX0 yX0_impair yX0_impair, Cond.code yX0_impair cX0_impair 3 none, Cond.methodLink RX0 114 yX0_restore, Cond.instanceMethod yX0_restore, Cond.selects RX0 yX0_restore yX0_restore, Cond.code yX0_restore cX0_restore 3 none, Cond.methodLink RX0 117 yX0_sell, Cond.instanceMethod yX0_sell, Cond.selects RX0 yX0_sell yX0_sell, Cond.code yX0_sell cX0_sell 2 none, Cond.constantLong RX0 130 (1000000)]
def wsL_post_r6 : List Cond := [Cond.constant RX0 135 (1000000), Cond.static yX4_rounded, Cond.code yX4_rounded cX4_rounded 4 (some .long), Cond.constantLong RX4 197 (2), Cond.methodLink RX4 193 yX0_chargeMonth, Cond.instanceMethod yX0_chargeMonth, Cond.selects RX0 yX0_chargeMonth yX0_chargeMonth, Cond.code yX0_chargeMonth cX0_chargeMonth 2 none, Cond.methodLink RX0 94 yX0_decliningCharge, Cond.instanceMethod yX0_decliningCharge, Cond.selects RX0 yX0_decliningCharge yX0_decliningCharge, Cond.code yX0_decliningCharge cX0_decliningCharge 7 (some .long), Cond.methodLink RX0 97 yX3_nextCharge, Cond.instanceMethod yX3_nextCharge, Cond.selects RX3 yX3_nextCharge yX3_nextCharge, Cond.code yX3_nextCharge cX3_nextCharge 5 (some .long), Cond.methodLink RX3 30 yX3_chargesTogether, Cond.instanceMethod yX3_chargesTogether, Cond.selects RX3 yX3_chargesTogether yX3_chargesTogether, Cond.code yX3_chargesTogether cX3_chargesTogether 2 (some .long), Cond.methodLink RX3 42 Lib.MathLoose.min_long.x, Cond.methodLink RX3 38 yX3_sumUpTo, Cond.static yX3_sumUpTo, Cond.code yX3_sumUpTo cX3_sumUpTo 2 (some .long)]
def wsL_post_r7 : List Cond := [Cond.constantLong RX3 47 (2)]
def wsL_post : List Cond := .codeWith yL_post cL_post 3 (some .int) [(0, 7, 10, 15)] :: ((wsL_post_r1 ++ (wsL_post_r2 ++ (wsL_post_r3 ++ (wsL_post_r4 ++ (wsL_post_r5 ++ (wsL_post_r6 ++ wsL_post_r7)))))) ++ wsX40 ++ wsX20 ++ wsX00 ++ wsX10 ++ wsX30 ++ (vx_atS RX4 62 "java/lang/IllegalStateException" ["java/lang/RuntimeException", "java/lang/Exception"]).filter goodWord)
def wsL_posted : List Cond := .codeWith yL_posted cL_posted 5 (some .int) [(0, 9, 12, 13)] :: ([.classLink RL 13 "java/lang/IllegalArgumentException", .methodLink RL 40 yX4_posted, .instanceMethod yX4_posted, .selects RX4 yX4_posted yX4_posted, .initialized RX4, .code yX4_posted cX4_posted 4 (some .long), .classLink RX4 47 "java/lang/IllegalArgumentException", .initialized "java/lang/IllegalArgumentException", .fieldLink RX4 167 "AgedAssets$Part" "postedIn" "[J", .methodLink RX4 66 yX4_partOf, .instanceMethod yX4_partOf, .selects RX4 yX4_partOf yX4_partOf, .code yX4_partOf cX4_partOf 2 (some (.object "AgedAssets$Part")), .fieldLink RX4 54 "AgedAssets" "partCount" "I", .fieldLink RX4 11 "AgedAssets" "partRow" "[LAgedAssets$Part;", .methodLink RX4 37 yX4_isMonth, .static yX4_isMonth, .code yX4_isMonth cX4_isMonth 1 (some .boolean)] ++ wsX20 ++ wsX40 ++ (vx_atS RX4 51 "java/lang/IllegalArgumentException" ["java/lang/RuntimeException", "java/lang/Exception"]).filter goodWord)
def wsL_total : List Cond := .codeWith yL_total cL_total 4 (some .int) [(0, 8, 11, 13)] :: ([.classLink RL 13 "java/lang/IllegalArgumentException", .methodLink RL 43 yX4_total, .instanceMethod yX4_total, .selects RX4 yX4_total yX4_total, .initialized RX4, .code yX4_total cX4_total 3 (some .long), .classLink RX4 47 "java/lang/IllegalArgumentException", .initialized "java/lang/IllegalArgumentException", .fieldLink RX4 174 "AgedAssets$Part" "postedInAll" "J", .methodLink RX4 66 yX4_partOf, .instanceMethod yX4_partOf, .selects RX4 yX4_partOf yX4_partOf, .code yX4_partOf cX4_partOf 2 (some (.object "AgedAssets$Part")), .fieldLink RX4 54 "AgedAssets" "partCount" "I", .fieldLink RX4 11 "AgedAssets" "partRow" "[LAgedAssets$Part;"] ++ wsX20 ++ wsX40 ++ (vx_atS RX4 51 "java/lang/IllegalArgumentException" ["java/lang/RuntimeException", "java/lang/Exception"]).filter goodWord)
def wsL_law0_r1 : List Cond := [Cond.classLink RL 8 RX4, Cond.instantiable RX4 7, Cond.initialized RX4, Cond.classLink RL 48 RX5, Cond.instantiable RX5 37, Cond.initialized RX5, Cond.arrayClass .long, Cond.constantLong RL 51 (4294967295), Cond.methodLink RL 47 yX4_init, Cond.instanceMethod yX4_init, Cond.code yX4_init cX4_init 1 none, Cond.methodLink RX4 1 objectInit, Cond.instanceMethod objectInit, Cond.code objectInit ⟨#[0xb1]⟩ 1 none, Cond.classLink RX4 9 RX2, Cond.fieldLink RX4 11 "AgedAssets" "partRow" "[LAgedAssets$Part;", Cond.classLink RX4 15 RX1, Cond.fieldLink RX4 17 "AgedAssets" "eventRow" "[LAgedAssets$Event;", Cond.classLink RX4 21 RX0, Cond.instantiable RX0 15, Cond.initialized RX0, Cond.fieldLink RX4 24 "AgedAssets" "full" "LAgedAssets$Course;", Cond.fieldLink RX4 28 "AgedAssets" "bare" "LAgedAssets$Course;", Cond.methodLink RX4 23 yX0_init]
def wsL_law0_r2 : List Cond := [Cond.instanceMethod yX0_init, Cond.code yX0_init cX0_init 1 none, Cond.methodLink RX0 3 objectInit, Cond.classLink RX0 9 RX3, Cond.instantiable RX3 6, Cond.initialized RX3, Cond.fieldLink RX0 12 "AgedAssets$Course" "stretch" "LAgedAssets$Stretch;", Cond.instanceMethod yX3_init, Cond.code yX3_init cX3_init 1 none, Cond.methodLink RX3 3 objectInit, Cond.methodLink RL 50 yX5_init, Cond.instanceMethod yX5_init, Cond.code yX5_init cX5_init 1 none, Cond.methodLink RX5 1 objectInit, Cond.fieldLink RX5 7 "AgedAssetsModel" "costs" "[J", Cond.fieldLink RX5 13 "AgedAssetsModel" "residuals" "[J", Cond.arrayClass .int, Cond.fieldLink RX5 16 "AgedAssetsModel" "firsts" "[I", Cond.fieldLink RX5 20 "AgedAssetsModel" "lives" "[I", Cond.fieldLink RX5 23 "AgedAssetsModel" "methods" "[I", Cond.fieldLink RX5 26 "AgedAssetsModel" "rates" "[I", Cond.fieldLink RX5 29 "AgedAssetsModel" "used" "[I", Cond.fieldLink RX5 32 "AgedAssetsModel" "posted" "[J", Cond.fieldLink RX5 35 "AgedAssetsModel" "of" "[I"]
def wsL_law0_r3 : List Cond := [Cond.fieldLink RX5 38 "AgedAssetsModel" "when" "[I", Cond.fieldLink RX5 41 "AgedAssetsModel" "kinds" "[I", Cond.fieldLink RX5 44 "AgedAssetsModel" "amounts" "[J", Cond.fieldLink RX5 47 "AgedAssetsModel" "numbers" "[I", Cond.fieldLink RX5 50 "AgedAssetsModel" "before" "[J", Cond.fieldLink RX5 53 "AgedAssetsModel" "behind" "[J", Cond.methodLink RL 53 yL_part, Cond.static yL_part, Cond.initialized RL, Cond.codeWith yL_part cL_part 11 (some .int) [(0, 19, 22, 13), (0, 19, 26, 15)], Cond.classLink RL 13 "java/lang/IllegalArgumentException", Cond.classLink RL 15 "java/lang/IllegalStateException", Cond.methodLink RL 7 yX4_part, Cond.instanceMethod yX4_part, Cond.selects RX4 yX4_part yX4_part, Cond.code yX4_part cX4_part 11 (some .int), Cond.classLink RX4 47 "java/lang/IllegalArgumentException", Cond.initialized "java/lang/IllegalArgumentException", Cond.classLink RX4 58 "java/lang/IllegalStateException", Cond.initialized "java/lang/IllegalStateException", Cond.constantLong RX4 31 (1000000000), Cond.constantLong RX4 41 (36), Cond.fieldLink RX4 54 "AgedAssets" "partCount" "I", Cond.instantiable RX2 11]
def wsL_law0_r4 : List Cond := [Cond.initialized RX2, Cond.methodLink RX4 33 yX4_isWithin, Cond.static yX4_isWithin, Cond.code yX4_isWithin cX4_isWithin 6 (some .boolean), Cond.methodLink RX4 37 yX4_isMonth, Cond.static yX4_isMonth, Cond.code yX4_isMonth cX4_isMonth 1 (some .boolean), Cond.methodLink RX4 43 yX4_isRateOf, Cond.static yX4_isRateOf, Cond.code yX4_isRateOf cX4_isRateOf 2 (some .boolean), Cond.constantLong RX4 70 (1000000), Cond.methodLink RX4 63 yX2_init, Cond.instanceMethod yX2_init, Cond.code yX2_init cX2_init 9 none, Cond.methodLink RX2 3 objectInit, Cond.fieldLink RX2 9 "AgedAssets$Part" "cost" "J", Cond.fieldLink RX2 15 "AgedAssets$Part" "residual" "J", Cond.fieldLink RX2 18 "AgedAssets$Part" "firstMonth" "I", Cond.fieldLink RX2 22 "AgedAssets$Part" "life" "I", Cond.fieldLink RX2 25 "AgedAssets$Part" "method" "I", Cond.fieldLink RX2 28 "AgedAssets$Part" "rate" "I", Cond.fieldLink RX2 31 "AgedAssets$Part" "unitsIn" "[I", Cond.classLink RX2 35 RX1, Cond.fieldLink RX2 37 "AgedAssets$Part" "eventIn" "[LAgedAssets$Event;"]
def wsL_law0_r5 : List Cond := [Cond.fieldLink RX2 41 "AgedAssets$Part" "postedIn" "[J", Cond.methodLink RL 58 yX5_part, Cond.instanceMethod yX5_part, Cond.selects RX5 yX5_part yX5_part, Cond.code yX5_part cX5_part 10 (some .int), Cond.constantLong RX5 188 (1000000000), Cond.constantLong RX5 198 (36), Cond.constantLong RX5 200 (3), Cond.constantLong RX5 119 (1000000), Cond.fieldLink RX5 62 "AgedAssetsModel" "parts" "I", Cond.fieldLink RX5 56 "AgedAssetsModel" "code" "I", Cond.methodLink RX5 190 yX5_isIn, Cond.static yX5_isIn, Cond.code yX5_isIn cX5_isIn 6 (some .boolean), Cond.methodLink RX5 194 yX5_isMonth, Cond.static yX5_isMonth, Cond.code yX5_isMonth cX5_isMonth 1 (some .boolean), Cond.methodLink RL 59 yX5_thrown, Cond.instanceMethod yX5_thrown, Cond.selects RX5 yX5_thrown yX5_thrown, Cond.code yX5_thrown cX5_thrown 1 (some .int), Cond.methodLink RL 63 yL_units, Cond.static yL_units, Cond.codeWith yL_units cL_units 6 (some .int) [(0, 12, 15, 13), (0, 12, 19, 15)]]
def wsL_law0_r6 : List Cond := [Cond.methodLink RL 17 yX4_units, Cond.instanceMethod yX4_units, Cond.selects RX4 yX4_units yX4_units, Cond.code yX4_units cX4_units 6 (some .int), Cond.fieldLink RX4 74 "AgedAssets$Part" "unitsIn" "[I", Cond.methodLink RX4 66 yX4_partOf, Cond.instanceMethod yX4_partOf, Cond.selects RX4 yX4_partOf yX4_partOf, Cond.code yX4_partOf cX4_partOf 2 (some (.object "AgedAssets$Part")), Cond.methodLink RX4 78 yX4_hasBreach, Cond.instanceMethod yX4_hasBreach, Cond.selects RX4 yX4_hasBreach yX4_hasBreach, Cond.code yX4_hasBreach cX4_hasBreach 2 (some .boolean), Cond.methodLink RX4 127 yX4_follow, Cond.instanceMethod yX4_follow, Cond.selects RX4 yX4_follow yX4_follow, Cond.code yX4_follow cX4_follow 5 none, Cond.fieldLink RX4 84 "AgedAssets$Part" "firstMonth" "I", Cond.fieldLink RX4 93 "AgedAssets$Part" "eventIn" "[LAgedAssets$Event;", Cond.fieldLink RX4 117 "AgedAssets$Event" "kind" "I", Cond.constantLong RX4 191 (-1), Cond.methodLink RX4 183 yX0_open, Cond.instanceMethod yX0_open, Cond.selects RX0 yX0_open yX0_open]
def wsL_law0_r7 : List Cond := [Cond.code yX0_open cX0_open 2 none, Cond.fieldLink RX0 18 "AgedAssets$Part" "method" "I", Cond.fieldLink RX0 24 "AgedAssets$Course" "method" "I", Cond.fieldLink RX0 25 "AgedAssets$Part" "rate" "I", Cond.fieldLink RX0 28 "AgedAssets$Course" "rate" "I", Cond.fieldLink RX0 29 "AgedAssets$Part" "cost" "J", Cond.fieldLink RX0 33 "AgedAssets$Course" "cost" "J", Cond.fieldLink RX0 34 "AgedAssets$Course" "allowance" "J", Cond.fieldLink RX0 37 "AgedAssets$Course" "reserve" "J", Cond.fieldLink RX0 40 "AgedAssets$Course" "losses" "J", Cond.fieldLink RX0 43 "AgedAssets$Part" "residual" "J", Cond.fieldLink RX0 46 "AgedAssets$Course" "residual" "J", Cond.fieldLink RX0 47 "AgedAssets$Part" "life" "I", Cond.fieldLink RX0 50 "AgedAssets$Course" "restOfLife" "I", Cond.fieldLink RX0 53 "AgedAssets$Course" "held" "Z", Cond.fieldLink RX0 57 "AgedAssets$Course" "gone" "Z", Cond.fieldLink RX0 60 "AgedAssets$Course" "breached" "Z", Cond.fieldLink RX0 63 "AgedAssets$Course" "chargedUnits" "J", Cond.fieldLink RX0 66 "AgedAssets$Course" "lastCharge" "J", Cond.fieldLink RX0 69 "AgedAssets$Course" "allCharges" "J", Cond.methodLink RX0 72 yX0_beginStretch, Cond.instanceMethod yX0_beginStretch, Cond.selects RX0 yX0_beginStretch yX0_beginStretch, Cond.code yX0_beginStretch cX0_beginStretch 1 none]
def wsL_law0_r8 : List Cond := [Cond.methodLink RX0 136 Lib.MathLoose.max_long.x, Cond.static Lib.MathLoose.max_long.x, Cond.initialized "java/lang/Math", Cond.code Lib.MathLoose.max_long.x Lib.MathLoose.max_long.code 4 (some .long), Cond.methodLink RX0 77 yX0_book, Cond.instanceMethod yX0_book, Cond.selects RX0 yX0_book yX0_book, Cond.code yX0_book cX0_book 1 (some .long), Cond.methodLink RX0 139 yX3_begin, Cond.instanceMethod yX3_begin, Cond.selects RX3 yX3_begin yX3_begin, Cond.code yX3_begin cX3_begin 7 none, Cond.fieldLink RX3 9 "AgedAssets$Stretch" "base" "J", Cond.fieldLink RX3 15 "AgedAssets$Stretch" "length" "J", Cond.fieldLink RX3 18 "AgedAssets$Stretch" "unitsLeft" "J", Cond.fieldLink RX3 21 "AgedAssets$Stretch" "monthsCharged" "J", Cond.fieldLink RX3 24 "AgedAssets$Stretch" "unitsCharged" "J", Cond.fieldLink RX3 27 "AgedAssets$Stretch" "charged" "J", Cond.methodLink RX4 159 yX0_bookOrNone, Cond.instanceMethod yX0_bookOrNone, Cond.selects RX0 yX0_bookOrNone yX0_bookOrNone, Cond.code yX0_bookOrNone cX0_bookOrNone 1 (some .long), Cond.constantLong RX0 75 (-1), Cond.methodLink RX4 187 yX0_meet]
def wsL_law0_r9 : List Cond := [Cond.instanceMethod yX0_meet, Cond.selects RX0 yX0_meet yX0_meet, Cond.code yX0_meet cX0_meet 4 none, Cond.fieldLink RX0 89 "AgedAssets$Event" "kind" "I", Cond.methodLink RX0 81 yX0_isBreach, Cond.instanceMethod yX0_isBreach, Cond.selects RX0 yX0_isBreach yX0_isBreach, Cond.code yX0_isBreach cX0_isBreach 4 (some .boolean), Cond.fieldLink RX0 101 "AgedAssets$Event" "amount" "J", Cond.methodLink RX0 85 yX0_apply, Cond.instanceMethod yX0_apply, Cond.selects RX0 yX0_apply yX0_apply, Cond.code yX0_apply cX0_apply 2 none, Cond.fieldLink RX0 104 "AgedAssets$Event" "number" "I", Cond.methodLink RX0 107 yX0_revalue, Cond.instanceMethod yX0_revalue, Cond.selects RX0 yX0_revalue yX0_revalue, Cond.code yX0_revalue cX0_revalue 3 none, Cond.methodLink RX0 121 yX0_lose, Cond.instanceMethod yX0_lose, Cond.selects RX0 yX0_lose yX0_lose, Cond.code yX0_lose cX0_lose 5 none, Cond.methodLink RX0 124 Lib.MathLoose.min_long.x, Cond.static Lib.MathLoose.min_long.x]
def wsL_law0_r10 : List Cond := [Cond.code Lib.MathLoose.min_long.x Lib.MathLoose.min_long.code 4 (some .long), Cond.methodLink RX0 111 yX0_impair, Cond.instanceMethod yX0_impair, Cond.selects RX0 yX0_impair yX0_impair, Cond.code yX0_impair cX0_impair 3 none, Cond.methodLink RX0 114 yX0_restore, Cond.instanceMethod yX0_restore, Cond.selects RX0 yX0_restore yX0_restore, Cond.code yX0_restore cX0_restore 3 none, Cond.methodLink RX0 117 yX0_sell, Cond.instanceMethod yX0_sell, Cond.selects RX0 yX0_sell yX0_sell, Cond.code yX0_sell cX0_sell 2 none, Cond.constantLong RX0 130 (1000000), Cond.constant RX0 135 (1000000), Cond.static yX4_rounded, Cond.code yX4_rounded cX4_rounded 4 (some .long), Cond.constantLong RX4 197 (2), Cond.methodLink RX4 193 yX0_chargeMonth, Cond.instanceMethod yX0_chargeMonth, Cond.selects RX0 yX0_chargeMonth yX0_chargeMonth, Cond.code yX0_chargeMonth cX0_chargeMonth 2 none, Cond.methodLink RX0 94 yX0_decliningCharge, Cond.instanceMethod yX0_decliningCharge]
def wsL_law0_r11 : List Cond := [Cond.selects RX0 yX0_decliningCharge yX0_decliningCharge, Cond.code yX0_decliningCharge cX0_decliningCharge 7 (some .long), Cond.methodLink RX0 97 yX3_nextCharge, Cond.instanceMethod yX3_nextCharge, Cond.selects RX3 yX3_nextCharge yX3_nextCharge, Cond.code yX3_nextCharge cX3_nextCharge 5 (some .long), Cond.methodLink RX3 30 yX3_chargesTogether, Cond.instanceMethod yX3_chargesTogether, Cond.selects RX3 yX3_chargesTogether yX3_chargesTogether, Cond.code yX3_chargesTogether cX3_chargesTogether 2 (some .long), Cond.methodLink RX3 42 Lib.MathLoose.min_long.x, Cond.methodLink RX3 38 yX3_sumUpTo, Cond.static yX3_sumUpTo, Cond.code yX3_sumUpTo cX3_sumUpTo 2 (some .long), Cond.constantLong RX3 47 (2), Cond.methodLink RL 66 yX5_units, Cond.instanceMethod yX5_units, Cond.selects RX5 yX5_units yX5_units, Cond.code yX5_units cX5_units 5 (some .int), Cond.methodLink RX5 202 yX5_isPart, Cond.instanceMethod yX5_isPart, Cond.selects RX5 yX5_isPart yX5_isPart, Cond.code yX5_isPart cX5_isPart 2 (some .boolean), Cond.methodLink RX5 205 yX5_reckon]
def wsL_law0_r12 : List Cond := [Cond.instanceMethod yX5_reckon, Cond.selects RX5 yX5_reckon yX5_reckon, Cond.code yX5_reckon cX5_reckon 3 (some .boolean), Cond.fieldLink RX5 116 "AgedAssetsModel" "bad" "I", Cond.methodLink RX5 184 yX5_go, Cond.instanceMethod yX5_go, Cond.selects RX5 yX5_go yX5_go, Cond.code yX5_go cX5_go 7 (some .int), Cond.fieldLink RX5 65 "AgedAssetsModel" "cost" "J", Cond.fieldLink RX5 79 "AgedAssetsModel" "residual" "J", Cond.fieldLink RX5 85 "AgedAssetsModel" "rest" "I", Cond.methodLink RX5 166 yX5_clear, Cond.instanceMethod yX5_clear, Cond.selects RX5 yX5_clear yX5_clear, Cond.code yX5_clear cX5_clear 1 none, Cond.fieldLink RX5 69 "AgedAssetsModel" "allowance" "J", Cond.fieldLink RX5 106 "AgedAssetsModel" "reserve" "J", Cond.fieldLink RX5 109 "AgedAssetsModel" "losses" "J", Cond.fieldLink RX5 134 "AgedAssetsModel" "held" "Z", Cond.fieldLink RX5 130 "AgedAssetsModel" "gone" "Z", Cond.fieldLink RX5 91 "AgedAssetsModel" "spent" "I", Cond.fieldLink RX5 152 "AgedAssetsModel" "last" "J", Cond.fieldLink RX5 163 "AgedAssetsModel" "sum" "J", Cond.methodLink RX5 169 yX5_stretch]
def wsL_law0_r13 : List Cond := [Cond.instanceMethod yX5_stretch, Cond.selects RX5 yX5_stretch yX5_stretch, Cond.code yX5_stretch cX5_stretch 2 none, Cond.fieldLink RX5 82 "AgedAssetsModel" "base" "J", Cond.fieldLink RX5 88 "AgedAssetsModel" "length" "I", Cond.fieldLink RX5 94 "AgedAssetsModel" "left" "I", Cond.fieldLink RX5 97 "AgedAssetsModel" "charged" "I", Cond.fieldLink RX5 100 "AgedAssetsModel" "stretchUnits" "I", Cond.fieldLink RX5 103 "AgedAssetsModel" "done" "J", Cond.methodLink RX5 75 yX5_book, Cond.instanceMethod yX5_book, Cond.selects RX5 yX5_book yX5_book, Cond.code yX5_book cX5_book 1 (some .long), Cond.methodLink RX5 172 yX5_eventIn, Cond.instanceMethod yX5_eventIn, Cond.selects RX5 yX5_eventIn yX5_eventIn, Cond.code yX5_eventIn cX5_eventIn 5 (some .int), Cond.fieldLink RX5 72 "AgedAssetsModel" "events" "I", Cond.methodLink RX5 176 yX5_happens, Cond.instanceMethod yX5_happens, Cond.selects RX5 yX5_happens yX5_happens, Cond.code yX5_happens cX5_happens 7 (some .boolean), Cond.methodLink RX5 137 yX5_values, Cond.instanceMethod yX5_values]
def wsL_law0_r14 : List Cond := [Cond.selects RX5 yX5_values yX5_values, Cond.code yX5_values cX5_values 3 none, Cond.methodLink RX5 112 yX5_fall, Cond.instanceMethod yX5_fall, Cond.selects RX5 yX5_fall yX5_fall, Cond.code yX5_fall cX5_fall 5 none, Cond.methodLink RX5 140 yX5_impairs, Cond.instanceMethod yX5_impairs, Cond.selects RX5 yX5_impairs yX5_impairs, Cond.code yX5_impairs cX5_impairs 3 (some .boolean), Cond.methodLink RX5 144 yX5_restores, Cond.instanceMethod yX5_restores, Cond.selects RX5 yX5_restores yX5_restores, Cond.code yX5_restores cX5_restores 6 (some .boolean), Cond.methodLink RX5 148 yX5_sells, Cond.instanceMethod yX5_sells, Cond.selects RX5 yX5_sells yX5_sells, Cond.code yX5_sells cX5_sells 2 none, Cond.constant RX5 129 (1000000), Cond.methodLink RX5 125 yX5_less, Cond.static yX5_less, Cond.code yX5_less cX5_less 3 (some .long), Cond.methodLink RX5 121 yX5_rounded, Cond.static yX5_rounded]
def wsL_law0_r15 : List Cond := [Cond.code yX5_rounded cX5_rounded 4 (some .long), Cond.constantLong RX5 60 (2), Cond.methodLink RX5 180 yX5_writeOff, Cond.instanceMethod yX5_writeOff, Cond.selects RX5 yX5_writeOff yX5_writeOff, Cond.code yX5_writeOff cX5_writeOff 5 none, Cond.methodLink RX5 155 yX5_declining, Cond.instanceMethod yX5_declining, Cond.selects RX5 yX5_declining yX5_declining, Cond.code yX5_declining cX5_declining 11 (some .long), Cond.methodLink RX5 159 yX5_together, Cond.instanceMethod yX5_together, Cond.selects RX5 yX5_together yX5_together, Cond.code yX5_together cX5_together 4 (some .long), Cond.methodLink RL 67 yL_event, Cond.static yL_event, Cond.codeWith yL_event cL_event 9 (some .int) [(0, 16, 19, 13), (0, 16, 23, 15)], Cond.methodLink RL 21 yX4_event, Cond.instanceMethod yX4_event, Cond.selects RX4 yX4_event yX4_event, Cond.code yX4_event cX4_event 9 (some .int), Cond.fieldLink RX4 96 "AgedAssets$Part" "eventCount" "I", Cond.fieldLink RX4 99 "AgedAssets" "eventCount" "I", Cond.instantiable RX1 5]
def wsL_law0_r16 : List Cond := [Cond.initialized RX1, Cond.methodLink RX4 87 yX4_isEvent, Cond.static yX4_isEvent, Cond.code yX4_isEvent cX4_isEvent 4 (some .boolean), Cond.methodLink RX4 102 yX1_init, Cond.instanceMethod yX1_init, Cond.code yX1_init cX1_init 7 none, Cond.methodLink RX1 1 objectInit, Cond.fieldLink RX1 7 "AgedAssets$Event" "partNumber" "I", Cond.fieldLink RX1 13 "AgedAssets$Event" "month" "I", Cond.fieldLink RX1 16 "AgedAssets$Event" "kind" "I", Cond.fieldLink RX1 19 "AgedAssets$Event" "amount" "J", Cond.fieldLink RX1 23 "AgedAssets$Event" "number" "I", Cond.methodLink RL 70 yX5_event, Cond.instanceMethod yX5_event, Cond.selects RX5 yX5_event yX5_event, Cond.code yX5_event cX5_event 8 (some .int), Cond.constantLong RX5 208 (7), Cond.methodLink RX5 210 yX5_countOf, Cond.instanceMethod yX5_countOf, Cond.selects RX5 yX5_countOf yX5_countOf, Cond.code yX5_countOf cX5_countOf 4 (some .int), Cond.methodLink RL 71 yX4_strike, Cond.instanceMethod yX4_strike]
def wsL_law0_r17 : List Cond := [Cond.selects RX4 yX4_strike yX4_strike, Cond.code yX4_strike cX4_strike 4 (some .boolean), Cond.fieldLink RX4 111 "AgedAssets$Event" "partNumber" "I", Cond.fieldLink RX4 114 "AgedAssets$Event" "month" "I", Cond.methodLink RX4 107 yX4_eventOf, Cond.instanceMethod yX4_eventOf, Cond.selects RX4 yX4_eventOf yX4_eventOf, Cond.code yX4_eventOf cX4_eventOf 2 (some (.object "AgedAssets$Event")), Cond.methodLink RL 75 yX5_strike, Cond.instanceMethod yX5_strike, Cond.selects RX5 yX5_strike yX5_strike, Cond.code yX5_strike cX5_strike 4 (some .boolean), Cond.methodLink RX5 214 yX5_isEvent, Cond.instanceMethod yX5_isEvent, Cond.selects RX5 yX5_isEvent yX5_isEvent, Cond.code yX5_isEvent cX5_isEvent 2 (some .boolean), Cond.methodLink RL 76 yX4_told, Cond.instanceMethod yX4_told, Cond.selects RX4 yX4_told yX4_told, Cond.code yX4_told cX4_told 4 (some .int), Cond.fieldLink RX4 120 "AgedAssets$Event" "number" "I", Cond.methodLink RL 80 yX5_told, Cond.instanceMethod yX5_told, Cond.selects RX5 yX5_told yX5_told]
def wsL_law0_r18 : List Cond := [Cond.code yX5_told cX5_told 3 (some .int), Cond.methodLink RL 81 yL_value, Cond.static yL_value, Cond.codeWith yL_value cL_value 6 (some .int) [(0, 11, 14, 13)], Cond.methodLink RL 25 yX4_value, Cond.instanceMethod yX4_value, Cond.selects RX4 yX4_value yX4_value, Cond.code yX4_value cX4_value 5 (some .long), Cond.constantLong RX4 123 (6), Cond.methodLink RX4 138 yX0_book, Cond.methodLink RL 83 yX5_value, Cond.instanceMethod yX5_value, Cond.selects RX5 yX5_value yX5_value, Cond.code yX5_value cX5_value 4 (some .long), Cond.methodLink RL 84 yL_charge, Cond.static yL_charge, Cond.codeWith yL_charge cL_charge 5 (some .int) [(0, 9, 12, 13)], Cond.methodLink RL 29 yX4_charge, Cond.instanceMethod yX4_charge, Cond.selects RX4 yX4_charge yX4_charge, Cond.code yX4_charge cX4_charge 4 (some .long), Cond.methodLink RL 87 yX5_charge, Cond.instanceMethod yX5_charge, Cond.selects RX5 yX5_charge yX5_charge]
def wsL_law0_r19 : List Cond := [Cond.code yX5_charge cX5_charge 3 (some .long), Cond.methodLink RL 88 yL_without, Cond.static yL_without, Cond.codeWith yL_without cL_without 5 (some .int) [(0, 9, 12, 13)], Cond.methodLink RL 33 yX4_without, Cond.instanceMethod yX4_without, Cond.selects RX4 yX4_without yX4_without, Cond.code yX4_without cX4_without 4 (some .long), Cond.methodLink RL 90 yX5_without, Cond.instanceMethod yX5_without, Cond.selects RX5 yX5_without yX5_without, Cond.code yX5_without cX5_without 4 (some .long), Cond.constantLong RX5 217 (-1), Cond.methodLink RL 91 yL_post, Cond.static yL_post, Cond.codeWith yL_post cL_post 3 (some .int) [(0, 7, 10, 15)], Cond.methodLink RL 36 yX4_post, Cond.instanceMethod yX4_post, Cond.selects RX4 yX4_post yX4_post, Cond.code yX4_post cX4_post 6 (some .long), Cond.fieldLink RX4 162 "AgedAssets" "monthCount" "I", Cond.fieldLink RX4 167 "AgedAssets$Part" "postedIn" "[J", Cond.fieldLink RX4 174 "AgedAssets$Part" "postedInAll" "J", Cond.methodLink RL 94 yX5_post]
def wsL_law0_r20 : List Cond := [Cond.instanceMethod yX5_post, Cond.selects RX5 yX5_post yX5_post, Cond.code yX5_post cX5_post 6 (some .long), Cond.fieldLink RX5 219 "AgedAssetsModel" "months" "I", Cond.methodLink RX5 222 yX5_totalOf, Cond.instanceMethod yX5_totalOf, Cond.selects RX5 yX5_totalOf yX5_totalOf, Cond.code yX5_totalOf cX5_totalOf 5 (some .long), Cond.methodLink RL 95 yX4_months, Cond.instanceMethod yX4_months, Cond.selects RX4 yX4_months yX4_months, Cond.code yX4_months cX4_months 1 (some .int), Cond.methodLink RL 98 yX5_months, Cond.instanceMethod yX5_months, Cond.selects RX5 yX5_months yX5_months, Cond.code yX5_months cX5_months 1 (some .int), Cond.methodLink RL 99 yL_posted, Cond.static yL_posted, Cond.codeWith yL_posted cL_posted 5 (some .int) [(0, 9, 12, 13)], Cond.methodLink RL 40 yX4_posted, Cond.instanceMethod yX4_posted, Cond.selects RX4 yX4_posted yX4_posted, Cond.code yX4_posted cX4_posted 4 (some .long), Cond.methodLink RL 101 yX5_posted]
def wsL_law0_r21 : List Cond := [Cond.instanceMethod yX5_posted, Cond.selects RX5 yX5_posted yX5_posted, Cond.code yX5_posted cX5_posted 3 (some .long), Cond.methodLink RL 102 yL_total, Cond.static yL_total, Cond.codeWith yL_total cL_total 4 (some .int) [(0, 8, 11, 13)], Cond.methodLink RL 43 yX4_total, Cond.instanceMethod yX4_total, Cond.selects RX4 yX4_total yX4_total, Cond.code yX4_total cX4_total 3 (some .long), Cond.methodLink RL 105 yX5_total, Cond.instanceMethod yX5_total, Cond.selects RX5 yX5_total yX5_total, Cond.code yX5_total cX5_total 2 (some .long), Cond.methodLink RL 106 yX4_parts, Cond.instanceMethod yX4_parts, Cond.selects RX4 yX4_parts yX4_parts, Cond.code yX4_parts cX4_parts 1 (some .int), Cond.methodLink RL 109 yX5_parts, Cond.instanceMethod yX5_parts, Cond.selects RX5 yX5_parts yX5_parts, Cond.code yX5_parts cX5_parts 1 (some .int)]
def wsL_law0 : List Cond := (wsL_law0_r1 ++ (wsL_law0_r2 ++ (wsL_law0_r3 ++ (wsL_law0_r4 ++ (wsL_law0_r5 ++ (wsL_law0_r6 ++ (wsL_law0_r7 ++ (wsL_law0_r8 ++ (wsL_law0_r9 ++ (wsL_law0_r10 ++ (wsL_law0_r11 ++ (wsL_law0_r12 ++ (wsL_law0_r13 ++ (wsL_law0_r14 ++ (wsL_law0_r15 ++ (wsL_law0_r16 ++ (wsL_law0_r17 ++ (wsL_law0_r18 ++ (wsL_law0_r19 ++ (wsL_law0_r20 ++ wsL_law0_r21)))))))))))))))))))) ++ wsX40 ++ wsX50 ++ wsX00 ++ wsX30 ++ wsX20 ++ wsX10 ++ ([] : List Cond)
def wsL_law : List Cond := wsL_law0 ++ (vx_atS RX4 51 "java/lang/IllegalArgumentException" ["java/lang/RuntimeException", "java/lang/Exception"]).filter goodWord ++ (vx_atS RX4 62 "java/lang/IllegalStateException" ["java/lang/RuntimeException", "java/lang/Exception"]).filter goodWord
abbrev vwCl : List vw_C := [(RX0, TX0, 15), (RX1, TX1, 5), (RX2, TX2, 11), (RX3, TX3, 6), (RX4, TX4, 7), (RX5, TX5, 37)]
end
section
set_option maxRecDepth 20000 in
theorem ggX0_init_X3_init : GoodIn wsX0_init wsX3_init := goodIn_r _ [9, 10, 2, 3] (by decide +kernel) (by decide +kernel)
set_option maxRecDepth 20000 in
theorem gX0_init_X3_init_n11 : GoodIn wsX0_init (wsX3_init) := ggX0_init_X3_init
theorem dX0_init_0 : decode cX0_init 0 = .ok (.aload_n 0, 1) := by decide +kernel
theorem dX0_init_1 : decode cX0_init 1 = .ok (.invokespecial 3, 3) := by decide +kernel
theorem dX0_init_4 : decode cX0_init 4 = .ok (.aload_n 0, 1) := by decide +kernel
theorem dX0_init_5 : decode cX0_init 5 = .ok (.new 9, 3) := by decide +kernel
theorem dX0_init_8 : decode cX0_init 8 = .ok (.dup, 1) := by decide +kernel
theorem dX0_init_9 : decode cX0_init 9 = .ok (.invokespecial 11, 3) := by decide +kernel
theorem dX0_init_12 : decode cX0_init 12 = .ok (.putfield 12, 3) := by decide +kernel
theorem dX0_init_15 : decode cX0_init 15 = .ok (.return_, 1) := by decide +kernel
set_option maxRecDepth 20000 in
theorem ggX0_open_X0_beginStretch : GoodIn wsX0_open wsX0_beginStretch := goodIn_r _ [24, 25, 11, 26, 27, 28, 29, 13, 4, 17, 30, 31, 32, 23, 33, 6, 7, 34, 35, 36, 37, 38, 39, 40, 41, 42, 43, 44, 56, 57, 58, 59, 60, 61, 62, 63, 64, 65, 66, 67, 68, 69, 70, 71, 72, 73, 74, 75, 76] (by decide +kernel) (by decide +kernel)
set_option maxRecDepth 20000 in
theorem gX0_open_X0_beginStretch : GoodIn wsX0_open (wsV RX0 72 RX0 yX0_beginStretch wsX0_beginStretch) := goodIn_app (goodIn_of _ (by decide +kernel)) ggX0_open_X0_beginStretch
theorem dX0_open_0 : decode cX0_open 0 = .ok (.aload_n 0, 1) := by decide +kernel
theorem dX0_open_1 : decode cX0_open 1 = .ok (.aload_n 1, 1) := by decide +kernel
theorem dX0_open_2 : decode cX0_open 2 = .ok (.getfield 18, 3) := by decide +kernel
theorem dX0_open_5 : decode cX0_open 5 = .ok (.putfield 24, 3) := by decide +kernel
theorem dX0_open_8 : decode cX0_open 8 = .ok (.aload_n 0, 1) := by decide +kernel
theorem dX0_open_9 : decode cX0_open 9 = .ok (.aload_n 1, 1) := by decide +kernel
theorem dX0_open_10 : decode cX0_open 10 = .ok (.getfield 25, 3) := by decide +kernel
theorem dX0_open_13 : decode cX0_open 13 = .ok (.putfield 28, 3) := by decide +kernel
theorem dX0_open_16 : decode cX0_open 16 = .ok (.aload_n 0, 1) := by decide +kernel
theorem dX0_open_17 : decode cX0_open 17 = .ok (.aload_n 1, 1) := by decide +kernel
theorem dX0_open_18 : decode cX0_open 18 = .ok (.getfield 29, 3) := by decide +kernel
theorem dX0_open_21 : decode cX0_open 21 = .ok (.putfield 33, 3) := by decide +kernel
theorem dX0_open_24 : decode cX0_open 24 = .ok (.aload_n 0, 1) := by decide +kernel
theorem dX0_open_25 : decode cX0_open 25 = .ok (.lconst 0, 1) := by decide +kernel
theorem dX0_open_26 : decode cX0_open 26 = .ok (.putfield 34, 3) := by decide +kernel
theorem dX0_open_29 : decode cX0_open 29 = .ok (.aload_n 0, 1) := by decide +kernel
theorem dX0_open_30 : decode cX0_open 30 = .ok (.lconst 0, 1) := by decide +kernel
theorem dX0_open_31 : decode cX0_open 31 = .ok (.putfield 37, 3) := by decide +kernel
theorem dX0_open_34 : decode cX0_open 34 = .ok (.aload_n 0, 1) := by decide +kernel
theorem dX0_open_35 : decode cX0_open 35 = .ok (.lconst 0, 1) := by decide +kernel
theorem dX0_open_36 : decode cX0_open 36 = .ok (.putfield 40, 3) := by decide +kernel
theorem dX0_open_39 : decode cX0_open 39 = .ok (.aload_n 0, 1) := by decide +kernel
theorem dX0_open_40 : decode cX0_open 40 = .ok (.aload_n 1, 1) := by decide +kernel
theorem dX0_open_41 : decode cX0_open 41 = .ok (.getfield 43, 3) := by decide +kernel
theorem dX0_open_44 : decode cX0_open 44 = .ok (.putfield 46, 3) := by decide +kernel
theorem dX0_open_47 : decode cX0_open 47 = .ok (.aload_n 0, 1) := by decide +kernel
theorem dX0_open_48 : decode cX0_open 48 = .ok (.aload_n 1, 1) := by decide +kernel
theorem dX0_open_49 : decode cX0_open 49 = .ok (.getfield 47, 3) := by decide +kernel
theorem dX0_open_52 : decode cX0_open 52 = .ok (.putfield 50, 3) := by decide +kernel
theorem dX0_open_55 : decode cX0_open 55 = .ok (.aload_n 0, 1) := by decide +kernel
theorem dX0_open_56 : decode cX0_open 56 = .ok (.iconst 0, 1) := by decide +kernel
theorem dX0_open_57 : decode cX0_open 57 = .ok (.putfield 53, 3) := by decide +kernel
theorem dX0_open_60 : decode cX0_open 60 = .ok (.aload_n 0, 1) := by decide +kernel
theorem dX0_open_61 : decode cX0_open 61 = .ok (.iconst 0, 1) := by decide +kernel
theorem dX0_open_62 : decode cX0_open 62 = .ok (.putfield 57, 3) := by decide +kernel
theorem dX0_open_65 : decode cX0_open 65 = .ok (.aload_n 0, 1) := by decide +kernel
theorem dX0_open_66 : decode cX0_open 66 = .ok (.iconst 0, 1) := by decide +kernel
theorem dX0_open_67 : decode cX0_open 67 = .ok (.putfield 60, 3) := by decide +kernel
theorem dX0_open_70 : decode cX0_open 70 = .ok (.aload_n 0, 1) := by decide +kernel
theorem dX0_open_71 : decode cX0_open 71 = .ok (.lconst 0, 1) := by decide +kernel
theorem dX0_open_72 : decode cX0_open 72 = .ok (.putfield 63, 3) := by decide +kernel
theorem dX0_open_75 : decode cX0_open 75 = .ok (.aload_n 0, 1) := by decide +kernel
theorem dX0_open_76 : decode cX0_open 76 = .ok (.lconst 0, 1) := by decide +kernel
theorem dX0_open_77 : decode cX0_open 77 = .ok (.putfield 66, 3) := by decide +kernel
theorem dX0_open_80 : decode cX0_open 80 = .ok (.aload_n 0, 1) := by decide +kernel
theorem dX0_open_81 : decode cX0_open 81 = .ok (.lconst 0, 1) := by decide +kernel
theorem dX0_open_82 : decode cX0_open 82 = .ok (.putfield 69, 3) := by decide +kernel
theorem dX0_open_85 : decode cX0_open 85 = .ok (.aload_n 0, 1) := by decide +kernel
theorem dX0_open_86 : decode cX0_open 86 = .ok (.invokevirtual 72, 3) := by decide +kernel
theorem dX0_open_89 : decode cX0_open 89 = .ok (.return_, 1) := by decide +kernel
theorem dX0_book_0 : decode cX0_book 0 = .ok (.aload_n 0, 1) := by decide +kernel
theorem dX0_book_1 : decode cX0_book 1 = .ok (.getfield 33, 3) := by decide +kernel
theorem dX0_book_4 : decode cX0_book 4 = .ok (.aload_n 0, 1) := by decide +kernel
theorem dX0_book_5 : decode cX0_book 5 = .ok (.getfield 34, 3) := by decide +kernel
theorem dX0_book_8 : decode cX0_book 8 = .ok (.lsub, 1) := by decide +kernel
theorem dX0_book_9 : decode cX0_book 9 = .ok (.lreturn, 1) := by decide +kernel
set_option maxRecDepth 20000 in
theorem ggX0_bookOrNone_X0_book : GoodIn wsX0_bookOrNone wsX0_book := goodIn_r _ [7, 8, 9, 10, 11, 12, 13, 14, 15, 16, 17, 18, 19, 20, 21, 22, 23, 24] (by decide +kernel) (by decide +kernel)
set_option maxRecDepth 20000 in
theorem gX0_bookOrNone_X0_book : GoodIn wsX0_bookOrNone (wsV RX0 77 RX0 yX0_book wsX0_book) := goodIn_app (goodIn_of _ (by decide +kernel)) ggX0_bookOrNone_X0_book
theorem dX0_bookOrNone_0 : decode cX0_bookOrNone 0 = .ok (.aload_n 0, 1) := by decide +kernel
theorem dX0_bookOrNone_1 : decode cX0_bookOrNone 1 = .ok (.getfield 60, 3) := by decide +kernel
theorem dX0_bookOrNone_4 : decode cX0_bookOrNone 4 = .ok (.ifCond .eq 9, 3) := by decide +kernel
theorem dX0_bookOrNone_7 : decode cX0_bookOrNone 7 = .ok (.ldc2_w 75, 3) := by decide +kernel
theorem dX0_bookOrNone_10 : decode cX0_bookOrNone 10 = .ok (.goto 7, 3) := by decide +kernel
theorem dX0_bookOrNone_13 : decode cX0_bookOrNone 13 = .ok (.aload_n 0, 1) := by decide +kernel
theorem dX0_bookOrNone_14 : decode cX0_bookOrNone 14 = .ok (.invokevirtual 77, 3) := by decide +kernel
theorem dX0_bookOrNone_17 : decode cX0_bookOrNone 17 = .ok (.lreturn, 1) := by decide +kernel
set_option maxRecDepth 20000 in
theorem ggX0_meet_X0_isBreach : GoodIn wsX0_meet wsX0_isBreach := goodIn_r _ [7, 8, 9, 2, 10, 11, 12, 13, 14, 15, 16, 6, 17, 18, 77, 78, 79, 80, 81, 82, 83, 84, 85, 86, 87, 88, 89, 90, 91, 92, 93, 94, 95, 96] (by decide +kernel) (by decide +kernel)
set_option maxRecDepth 20000 in
theorem gX0_meet_X0_isBreach : GoodIn wsX0_meet (wsV RX0 81 RX0 yX0_isBreach wsX0_isBreach) := goodIn_app (goodIn_of _ (by decide +kernel)) ggX0_meet_X0_isBreach
set_option maxRecDepth 20000 in
theorem ggX0_meet_X0_apply : GoodIn wsX0_meet wsX0_apply := goodIn_r _ [22, 2, 18, 12, 11, 23, 10, 9, 24, 25, 26, 6, 27, 28, 13, 14, 15, 16, 17, 29, 30, 31, 32, 33, 34, 35, 36, 37, 38, 39, 40, 41, 42, 43, 44, 45, 46, 47, 48, 49, 50, 51, 8, 52, 53, 54, 55, 92, 93, 94, 95, 96, 77, 78, 79, 80, 81, 82, 83, 84, 85, 86, 87, 88, 89, 90, 91] (by decide +kernel) (by decide +kernel)
set_option maxRecDepth 20000 in
theorem gX0_meet_X0_apply : GoodIn wsX0_meet (wsV RX0 85 RX0 yX0_apply wsX0_apply) := goodIn_app (goodIn_of _ (by decide +kernel)) ggX0_meet_X0_apply
set_option maxRecDepth 20000 in
theorem ggX0_meet_X0_beginStretch : GoodIn wsX0_meet wsX0_beginStretch := goodIn_r _ [59, 60, 11, 61, 62, 35, 63, 10, 64, 65, 14, 15, 16, 6, 17, 18, 13, 66, 67, 68, 69, 70, 71, 72, 73, 74, 75, 76, 77, 78, 79, 80, 81, 82, 83, 84, 85, 86, 87, 88, 89, 90, 91, 97, 98, 99, 100, 101, 102] (by decide +kernel) (by decide +kernel)
set_option maxRecDepth 20000 in
theorem gX0_meet_X0_beginStretch : GoodIn wsX0_meet (wsV RX0 72 RX0 yX0_beginStretch wsX0_beginStretch) := goodIn_app (goodIn_of _ (by decide +kernel)) ggX0_meet_X0_beginStretch
theorem dX0_meet_0 : decode cX0_meet 0 = .ok (.aload_n 0, 1) := by decide +kernel
theorem dX0_meet_1 : decode cX0_meet 1 = .ok (.aload_n 1, 1) := by decide +kernel
theorem dX0_meet_2 : decode cX0_meet 2 = .ok (.lload_n 2, 1) := by decide +kernel
theorem dX0_meet_3 : decode cX0_meet 3 = .ok (.invokevirtual 81, 3) := by decide +kernel
theorem dX0_meet_6 : decode cX0_meet 6 = .ok (.ifCond .eq 9, 3) := by decide +kernel
theorem dX0_meet_9 : decode cX0_meet 9 = .ok (.aload_n 0, 1) := by decide +kernel
theorem dX0_meet_10 : decode cX0_meet 10 = .ok (.iconst 1, 1) := by decide +kernel
theorem dX0_meet_11 : decode cX0_meet 11 = .ok (.putfield 60, 3) := by decide +kernel
theorem dX0_meet_14 : decode cX0_meet 14 = .ok (.return_, 1) := by decide +kernel
theorem dX0_meet_15 : decode cX0_meet 15 = .ok (.aload_n 0, 1) := by decide +kernel
theorem dX0_meet_16 : decode cX0_meet 16 = .ok (.aload_n 1, 1) := by decide +kernel
theorem dX0_meet_17 : decode cX0_meet 17 = .ok (.invokevirtual 85, 3) := by decide +kernel
theorem dX0_meet_20 : decode cX0_meet 20 = .ok (.aload_n 1, 1) := by decide +kernel
theorem dX0_meet_21 : decode cX0_meet 21 = .ok (.getfield 89, 3) := by decide +kernel
theorem dX0_meet_24 : decode cX0_meet 24 = .ok (.bipush 6, 2) := by decide +kernel
theorem dX0_meet_26 : decode cX0_meet 26 = .ok (.if_icmp .eq 16, 3) := by decide +kernel
theorem dX0_meet_29 : decode cX0_meet 29 = .ok (.aload_n 1, 1) := by decide +kernel
theorem dX0_meet_30 : decode cX0_meet 30 = .ok (.getfield 89, 3) := by decide +kernel
theorem dX0_meet_33 : decode cX0_meet 33 = .ok (.bipush 7, 2) := by decide +kernel
theorem dX0_meet_35 : decode cX0_meet 35 = .ok (.if_icmp .eq 7, 3) := by decide +kernel
theorem dX0_meet_38 : decode cX0_meet 38 = .ok (.aload_n 0, 1) := by decide +kernel
theorem dX0_meet_39 : decode cX0_meet 39 = .ok (.invokevirtual 72, 3) := by decide +kernel
theorem dX0_meet_42 : decode cX0_meet 42 = .ok (.return_, 1) := by decide +kernel
set_option maxRecDepth 20000 in
theorem ggX0_chargeMonth_X0_decliningCharge : GoodIn wsX0_chargeMonth wsX0_decliningCharge := goodIn_r _ [14, 15, 4, 16, 17, 18, 19, 20, 21, 22, 23, 24, 25, 26, 27, 13, 28, 29, 8, 30, 31, 32, 33, 54, 55, 56, 57, 58, 59, 60, 61, 62, 63, 64, 65, 66, 67, 68] (by decide +kernel) (by decide +kernel)
set_option maxRecDepth 20000 in
theorem gX0_chargeMonth_X0_decliningCharge : GoodIn wsX0_chargeMonth (wsV RX0 94 RX0 yX0_decliningCharge wsX0_decliningCharge) := goodIn_app (goodIn_of _ (by decide +kernel)) ggX0_chargeMonth_X0_decliningCharge
set_option maxRecDepth 20000 in
theorem ggX0_chargeMonth_X3_nextCharge : GoodIn wsX0_chargeMonth wsX3_nextCharge := goodIn_r _ [38, 39, 40, 41, 42, 43, 44, 37, 45, 46, 47, 48, 49, 23, 20, 24, 30, 31, 32, 33, 50, 51, 52, 53, 69, 70, 71, 72, 73, 74] (by decide +kernel) (by decide +kernel)
set_option maxRecDepth 20000 in
theorem gX0_chargeMonth_X3_nextCharge : GoodIn wsX0_chargeMonth (wsV RX0 97 RX3 yX3_nextCharge wsX3_nextCharge) := goodIn_app (goodIn_of _ (by decide +kernel)) ggX0_chargeMonth_X3_nextCharge
theorem dX0_chargeMonth_0 : decode cX0_chargeMonth 0 = .ok (.aload_n 0, 1) := by decide +kernel
theorem dX0_chargeMonth_1 : decode cX0_chargeMonth 1 = .ok (.lconst 0, 1) := by decide +kernel
theorem dX0_chargeMonth_2 : decode cX0_chargeMonth 2 = .ok (.putfield 66, 3) := by decide +kernel
theorem dX0_chargeMonth_5 : decode cX0_chargeMonth 5 = .ok (.aload_n 0, 1) := by decide +kernel
theorem dX0_chargeMonth_6 : decode cX0_chargeMonth 6 = .ok (.getfield 53, 3) := by decide +kernel
theorem dX0_chargeMonth_9 : decode cX0_chargeMonth 9 = .ok (.ifCond .ne 17, 3) := by decide +kernel
theorem dX0_chargeMonth_12 : decode cX0_chargeMonth 12 = .ok (.aload_n 0, 1) := by decide +kernel
theorem dX0_chargeMonth_13 : decode cX0_chargeMonth 13 = .ok (.getfield 57, 3) := by decide +kernel
theorem dX0_chargeMonth_16 : decode cX0_chargeMonth 16 = .ok (.ifCond .ne 10, 3) := by decide +kernel
theorem dX0_chargeMonth_19 : decode cX0_chargeMonth 19 = .ok (.aload_n 0, 1) := by decide +kernel
theorem dX0_chargeMonth_20 : decode cX0_chargeMonth 20 = .ok (.getfield 50, 3) := by decide +kernel
theorem dX0_chargeMonth_23 : decode cX0_chargeMonth 23 = .ok (.ifCond .ne 4, 3) := by decide +kernel
theorem dX0_chargeMonth_26 : decode cX0_chargeMonth 26 = .ok (.return_, 1) := by decide +kernel
theorem dX0_chargeMonth_27 : decode cX0_chargeMonth 27 = .ok (.aload_n 0, 1) := by decide +kernel
theorem dX0_chargeMonth_28 : decode cX0_chargeMonth 28 = .ok (.aload_n 0, 1) := by decide +kernel
theorem dX0_chargeMonth_29 : decode cX0_chargeMonth 29 = .ok (.getfield 24, 3) := by decide +kernel
theorem dX0_chargeMonth_32 : decode cX0_chargeMonth 32 = .ok (.iconst 1, 1) := by decide +kernel
theorem dX0_chargeMonth_33 : decode cX0_chargeMonth 33 = .ok (.if_icmp .ne 10, 3) := by decide +kernel
theorem dX0_chargeMonth_36 : decode cX0_chargeMonth 36 = .ok (.aload_n 0, 1) := by decide +kernel
theorem dX0_chargeMonth_37 : decode cX0_chargeMonth 37 = .ok (.invokevirtual 94, 3) := by decide +kernel
theorem dX0_chargeMonth_40 : decode cX0_chargeMonth 40 = .ok (.goto 15, 3) := by decide +kernel
theorem dX0_chargeMonth_43 : decode cX0_chargeMonth 43 = .ok (.aload_n 0, 1) := by decide +kernel
theorem dX0_chargeMonth_44 : decode cX0_chargeMonth 44 = .ok (.getfield 12, 3) := by decide +kernel
theorem dX0_chargeMonth_47 : decode cX0_chargeMonth 47 = .ok (.aload_n 0, 1) := by decide +kernel
theorem dX0_chargeMonth_48 : decode cX0_chargeMonth 48 = .ok (.getfield 24, 3) := by decide +kernel
theorem dX0_chargeMonth_51 : decode cX0_chargeMonth 51 = .ok (.iload_n 1, 1) := by decide +kernel
theorem dX0_chargeMonth_52 : decode cX0_chargeMonth 52 = .ok (.invokevirtual 97, 3) := by decide +kernel
theorem dX0_chargeMonth_55 : decode cX0_chargeMonth 55 = .ok (.putfield 66, 3) := by decide +kernel
theorem dX0_chargeMonth_58 : decode cX0_chargeMonth 58 = .ok (.aload_n 0, 1) := by decide +kernel
theorem dX0_chargeMonth_59 : decode cX0_chargeMonth 59 = .ok (.dup, 1) := by decide +kernel
theorem dX0_chargeMonth_60 : decode cX0_chargeMonth 60 = .ok (.getfield 50, 3) := by decide +kernel
theorem dX0_chargeMonth_63 : decode cX0_chargeMonth 63 = .ok (.iconst 1, 1) := by decide +kernel
theorem dX0_chargeMonth_64 : decode cX0_chargeMonth 64 = .ok (.isub, 1) := by decide +kernel
theorem dX0_chargeMonth_65 : decode cX0_chargeMonth 65 = .ok (.putfield 50, 3) := by decide +kernel
theorem dX0_chargeMonth_68 : decode cX0_chargeMonth 68 = .ok (.aload_n 0, 1) := by decide +kernel
theorem dX0_chargeMonth_69 : decode cX0_chargeMonth 69 = .ok (.dup, 1) := by decide +kernel
theorem dX0_chargeMonth_70 : decode cX0_chargeMonth 70 = .ok (.getfield 63, 3) := by decide +kernel
theorem dX0_chargeMonth_73 : decode cX0_chargeMonth 73 = .ok (.iload_n 1, 1) := by decide +kernel
theorem dX0_chargeMonth_74 : decode cX0_chargeMonth 74 = .ok (.i2l, 1) := by decide +kernel
theorem dX0_chargeMonth_75 : decode cX0_chargeMonth 75 = .ok (.ladd, 1) := by decide +kernel
theorem dX0_chargeMonth_76 : decode cX0_chargeMonth 76 = .ok (.putfield 63, 3) := by decide +kernel
theorem dX0_chargeMonth_79 : decode cX0_chargeMonth 79 = .ok (.aload_n 0, 1) := by decide +kernel
theorem dX0_chargeMonth_80 : decode cX0_chargeMonth 80 = .ok (.dup, 1) := by decide +kernel
theorem dX0_chargeMonth_81 : decode cX0_chargeMonth 81 = .ok (.getfield 34, 3) := by decide +kernel
theorem dX0_chargeMonth_84 : decode cX0_chargeMonth 84 = .ok (.aload_n 0, 1) := by decide +kernel
theorem dX0_chargeMonth_85 : decode cX0_chargeMonth 85 = .ok (.getfield 66, 3) := by decide +kernel
theorem dX0_chargeMonth_88 : decode cX0_chargeMonth 88 = .ok (.ladd, 1) := by decide +kernel
theorem dX0_chargeMonth_89 : decode cX0_chargeMonth 89 = .ok (.putfield 34, 3) := by decide +kernel
theorem dX0_chargeMonth_92 : decode cX0_chargeMonth 92 = .ok (.aload_n 0, 1) := by decide +kernel
theorem dX0_chargeMonth_93 : decode cX0_chargeMonth 93 = .ok (.dup, 1) := by decide +kernel
theorem dX0_chargeMonth_94 : decode cX0_chargeMonth 94 = .ok (.getfield 69, 3) := by decide +kernel
theorem dX0_chargeMonth_97 : decode cX0_chargeMonth 97 = .ok (.aload_n 0, 1) := by decide +kernel
theorem dX0_chargeMonth_98 : decode cX0_chargeMonth 98 = .ok (.getfield 66, 3) := by decide +kernel
theorem dX0_chargeMonth_101 : decode cX0_chargeMonth 101 = .ok (.ladd, 1) := by decide +kernel
theorem dX0_chargeMonth_102 : decode cX0_chargeMonth 102 = .ok (.putfield 69, 3) := by decide +kernel
theorem dX0_chargeMonth_105 : decode cX0_chargeMonth 105 = .ok (.return_, 1) := by decide +kernel
set_option maxRecDepth 20000 in
theorem ggX0_isBreach_X0_book : GoodIn wsX0_isBreach wsX0_book := goodIn_r _ [12, 13, 7, 14, 15, 16, 17, 18, 19, 20, 21, 22, 23, 24, 25, 26, 27, 28] (by decide +kernel) (by decide +kernel)
set_option maxRecDepth 20000 in
theorem gX0_isBreach_X0_book : GoodIn wsX0_isBreach (wsV RX0 77 RX0 yX0_book wsX0_book) := goodIn_app (goodIn_of _ (by decide +kernel)) ggX0_isBreach_X0_book
theorem dX0_isBreach_0 : decode cX0_isBreach 0 = .ok (.aload_n 0, 1) := by decide +kernel
theorem dX0_isBreach_1 : decode cX0_isBreach 1 = .ok (.getfield 57, 3) := by decide +kernel
theorem dX0_isBreach_4 : decode cX0_isBreach 4 = .ok (.ifCond .ne 27, 3) := by decide +kernel
theorem dX0_isBreach_7 : decode cX0_isBreach 7 = .ok (.aload_n 0, 1) := by decide +kernel
theorem dX0_isBreach_8 : decode cX0_isBreach 8 = .ok (.getfield 53, 3) := by decide +kernel
theorem dX0_isBreach_11 : decode cX0_isBreach 11 = .ok (.ifCond .eq 22, 3) := by decide +kernel
theorem dX0_isBreach_14 : decode cX0_isBreach 14 = .ok (.aload_n 1, 1) := by decide +kernel
theorem dX0_isBreach_15 : decode cX0_isBreach 15 = .ok (.getfield 89, 3) := by decide +kernel
theorem dX0_isBreach_18 : decode cX0_isBreach 18 = .ok (.bipush 7, 2) := by decide +kernel
theorem dX0_isBreach_20 : decode cX0_isBreach 20 = .ok (.if_icmp .eq 13, 3) := by decide +kernel
theorem dX0_isBreach_23 : decode cX0_isBreach 23 = .ok (.aload_n 1, 1) := by decide +kernel
theorem dX0_isBreach_24 : decode cX0_isBreach 24 = .ok (.getfield 89, 3) := by decide +kernel
theorem dX0_isBreach_27 : decode cX0_isBreach 27 = .ok (.iconst 5, 1) := by decide +kernel
theorem dX0_isBreach_28 : decode cX0_isBreach 28 = .ok (.if_icmp .eq 5, 3) := by decide +kernel
theorem dX0_isBreach_31 : decode cX0_isBreach 31 = .ok (.iconst 1, 1) := by decide +kernel
theorem dX0_isBreach_32 : decode cX0_isBreach 32 = .ok (.ireturn, 1) := by decide +kernel
theorem dX0_isBreach_33 : decode cX0_isBreach 33 = .ok (.aload_n 1, 1) := by decide +kernel
theorem dX0_isBreach_34 : decode cX0_isBreach 34 = .ok (.getfield 89, 3) := by decide +kernel
theorem dX0_isBreach_37 : decode cX0_isBreach 37 = .ok (.tableswitch 182 0 7 #[47, 77, 182, 95, 113, 182, 182, 169], 47) := by decide +kernel
theorem dX0_isBreach_84 : decode cX0_isBreach 84 = .ok (.aload_n 0, 1) := by decide +kernel
theorem dX0_isBreach_85 : decode cX0_isBreach 85 = .ok (.getfield 50, 3) := by decide +kernel
theorem dX0_isBreach_88 : decode cX0_isBreach 88 = .ok (.ifCond .eq 20, 3) := by decide +kernel
theorem dX0_isBreach_91 : decode cX0_isBreach 91 = .ok (.aload_n 0, 1) := by decide +kernel
theorem dX0_isBreach_92 : decode cX0_isBreach 92 = .ok (.getfield 46, 3) := by decide +kernel
theorem dX0_isBreach_95 : decode cX0_isBreach 95 = .ok (.aload_n 0, 1) := by decide +kernel
theorem dX0_isBreach_96 : decode cX0_isBreach 96 = .ok (.invokevirtual 77, 3) := by decide +kernel
theorem dX0_isBreach_99 : decode cX0_isBreach 99 = .ok (.aload_n 1, 1) := by decide +kernel
theorem dX0_isBreach_100 : decode cX0_isBreach 100 = .ok (.getfield 101, 3) := by decide +kernel
theorem dX0_isBreach_103 : decode cX0_isBreach 103 = .ok (.ladd, 1) := by decide +kernel
theorem dX0_isBreach_104 : decode cX0_isBreach 104 = .ok (.lcmp, 1) := by decide +kernel
theorem dX0_isBreach_105 : decode cX0_isBreach 105 = .ok (.ifCond .le 7, 3) := by decide +kernel
theorem dX0_isBreach_108 : decode cX0_isBreach 108 = .ok (.iconst 1, 1) := by decide +kernel
theorem dX0_isBreach_109 : decode cX0_isBreach 109 = .ok (.goto 4, 3) := by decide +kernel
theorem dX0_isBreach_112 : decode cX0_isBreach 112 = .ok (.iconst 0, 1) := by decide +kernel
theorem dX0_isBreach_113 : decode cX0_isBreach 113 = .ok (.ireturn, 1) := by decide +kernel
theorem dX0_isBreach_114 : decode cX0_isBreach 114 = .ok (.aload_n 1, 1) := by decide +kernel
theorem dX0_isBreach_115 : decode cX0_isBreach 115 = .ok (.getfield 101, 3) := by decide +kernel
theorem dX0_isBreach_118 : decode cX0_isBreach 118 = .ok (.aload_n 0, 1) := by decide +kernel
theorem dX0_isBreach_119 : decode cX0_isBreach 119 = .ok (.invokevirtual 77, 3) := by decide +kernel
theorem dX0_isBreach_122 : decode cX0_isBreach 122 = .ok (.lcmp, 1) := by decide +kernel
theorem dX0_isBreach_123 : decode cX0_isBreach 123 = .ok (.ifCond .le 7, 3) := by decide +kernel
theorem dX0_isBreach_126 : decode cX0_isBreach 126 = .ok (.iconst 1, 1) := by decide +kernel
theorem dX0_isBreach_127 : decode cX0_isBreach 127 = .ok (.goto 4, 3) := by decide +kernel
theorem dX0_isBreach_130 : decode cX0_isBreach 130 = .ok (.iconst 0, 1) := by decide +kernel
theorem dX0_isBreach_131 : decode cX0_isBreach 131 = .ok (.ireturn, 1) := by decide +kernel
theorem dX0_isBreach_132 : decode cX0_isBreach 132 = .ok (.aload_n 1, 1) := by decide +kernel
theorem dX0_isBreach_133 : decode cX0_isBreach 133 = .ok (.getfield 101, 3) := by decide +kernel
theorem dX0_isBreach_136 : decode cX0_isBreach 136 = .ok (.aload_n 0, 1) := by decide +kernel
theorem dX0_isBreach_137 : decode cX0_isBreach 137 = .ok (.invokevirtual 77, 3) := by decide +kernel
theorem dX0_isBreach_140 : decode cX0_isBreach 140 = .ok (.lcmp, 1) := by decide +kernel
theorem dX0_isBreach_141 : decode cX0_isBreach 141 = .ok (.ifCond .lt 7, 3) := by decide +kernel
theorem dX0_isBreach_144 : decode cX0_isBreach 144 = .ok (.iconst 1, 1) := by decide +kernel
theorem dX0_isBreach_145 : decode cX0_isBreach 145 = .ok (.goto 4, 3) := by decide +kernel
theorem dX0_isBreach_148 : decode cX0_isBreach 148 = .ok (.iconst 0, 1) := by decide +kernel
theorem dX0_isBreach_149 : decode cX0_isBreach 149 = .ok (.ireturn, 1) := by decide +kernel
theorem dX0_isBreach_150 : decode cX0_isBreach 150 = .ok (.aload_n 1, 1) := by decide +kernel
theorem dX0_isBreach_151 : decode cX0_isBreach 151 = .ok (.getfield 101, 3) := by decide +kernel
theorem dX0_isBreach_154 : decode cX0_isBreach 154 = .ok (.aload_n 0, 1) := by decide +kernel
theorem dX0_isBreach_155 : decode cX0_isBreach 155 = .ok (.invokevirtual 77, 3) := by decide +kernel
theorem dX0_isBreach_158 : decode cX0_isBreach 158 = .ok (.lcmp, 1) := by decide +kernel
theorem dX0_isBreach_159 : decode cX0_isBreach 159 = .ok (.ifCond .le 41, 3) := by decide +kernel
theorem dX0_isBreach_162 : decode cX0_isBreach 162 = .ok (.aload_n 1, 1) := by decide +kernel
theorem dX0_isBreach_163 : decode cX0_isBreach 163 = .ok (.getfield 101, 3) := by decide +kernel
theorem dX0_isBreach_166 : decode cX0_isBreach 166 = .ok (.lload_n 2, 1) := by decide +kernel
theorem dX0_isBreach_167 : decode cX0_isBreach 167 = .ok (.lcmp, 1) := by decide +kernel
theorem dX0_isBreach_168 : decode cX0_isBreach 168 = .ok (.ifCond .gt 32, 3) := by decide +kernel
theorem dX0_isBreach_171 : decode cX0_isBreach 171 = .ok (.aload_n 1, 1) := by decide +kernel
theorem dX0_isBreach_172 : decode cX0_isBreach 172 = .ok (.getfield 101, 3) := by decide +kernel
theorem dX0_isBreach_175 : decode cX0_isBreach 175 = .ok (.aload_n 0, 1) := by decide +kernel
theorem dX0_isBreach_176 : decode cX0_isBreach 176 = .ok (.invokevirtual 77, 3) := by decide +kernel
theorem dX0_isBreach_179 : decode cX0_isBreach 179 = .ok (.lsub, 1) := by decide +kernel
theorem dX0_isBreach_180 : decode cX0_isBreach 180 = .ok (.aload_n 0, 1) := by decide +kernel
theorem dX0_isBreach_181 : decode cX0_isBreach 181 = .ok (.getfield 34, 3) := by decide +kernel
theorem dX0_isBreach_184 : decode cX0_isBreach 184 = .ok (.lcmp, 1) := by decide +kernel
theorem dX0_isBreach_185 : decode cX0_isBreach 185 = .ok (.ifCond .gt 15, 3) := by decide +kernel
theorem dX0_isBreach_188 : decode cX0_isBreach 188 = .ok (.aload_n 0, 1) := by decide +kernel
theorem dX0_isBreach_189 : decode cX0_isBreach 189 = .ok (.getfield 46, 3) := by decide +kernel
theorem dX0_isBreach_192 : decode cX0_isBreach 192 = .ok (.aload_n 1, 1) := by decide +kernel
theorem dX0_isBreach_193 : decode cX0_isBreach 193 = .ok (.getfield 101, 3) := by decide +kernel
theorem dX0_isBreach_196 : decode cX0_isBreach 196 = .ok (.lcmp, 1) := by decide +kernel
theorem dX0_isBreach_197 : decode cX0_isBreach 197 = .ok (.ifCond .le 7, 3) := by decide +kernel
theorem dX0_isBreach_200 : decode cX0_isBreach 200 = .ok (.iconst 1, 1) := by decide +kernel
theorem dX0_isBreach_201 : decode cX0_isBreach 201 = .ok (.goto 4, 3) := by decide +kernel
theorem dX0_isBreach_204 : decode cX0_isBreach 204 = .ok (.iconst 0, 1) := by decide +kernel
theorem dX0_isBreach_205 : decode cX0_isBreach 205 = .ok (.ireturn, 1) := by decide +kernel
theorem dX0_isBreach_206 : decode cX0_isBreach 206 = .ok (.aload_n 0, 1) := by decide +kernel
theorem dX0_isBreach_207 : decode cX0_isBreach 207 = .ok (.getfield 53, 3) := by decide +kernel
theorem dX0_isBreach_210 : decode cX0_isBreach 210 = .ok (.ifCond .ne 7, 3) := by decide +kernel
theorem dX0_isBreach_213 : decode cX0_isBreach 213 = .ok (.iconst 1, 1) := by decide +kernel
theorem dX0_isBreach_214 : decode cX0_isBreach 214 = .ok (.goto 4, 3) := by decide +kernel
theorem dX0_isBreach_217 : decode cX0_isBreach 217 = .ok (.iconst 0, 1) := by decide +kernel
theorem dX0_isBreach_218 : decode cX0_isBreach 218 = .ok (.ireturn, 1) := by decide +kernel
theorem dX0_isBreach_219 : decode cX0_isBreach 219 = .ok (.iconst 0, 1) := by decide +kernel
theorem dX0_isBreach_220 : decode cX0_isBreach 220 = .ok (.ireturn, 1) := by decide +kernel
set_option maxRecDepth 20000 in
theorem ggX0_apply_X0_revalue : GoodIn wsX0_apply wsX0_revalue := goodIn_r _ [12, 13, 2, 14, 15, 16, 17, 11, 18, 19, 20, 21, 22, 23, 24, 25, 26, 27, 52, 53, 54, 55, 56, 57, 58, 59, 60, 61, 62, 63, 64, 65, 66] (by decide +kernel) (by decide +kernel)
set_option maxRecDepth 20000 in
theorem gX0_apply_X0_revalue : GoodIn wsX0_apply (wsV RX0 107 RX0 yX0_revalue wsX0_revalue) := goodIn_app (goodIn_of _ (by decide +kernel)) ggX0_apply_X0_revalue
set_option maxRecDepth 20000 in
theorem ggX0_apply_X0_book : GoodIn wsX0_apply wsX0_book := goodIn_r _ [18, 2, 14, 52, 53, 54, 55, 56, 57, 58, 59, 60, 61, 62, 63, 64, 65, 66] (by decide +kernel) (by decide +kernel)
set_option maxRecDepth 20000 in
theorem gX0_apply_X0_book : GoodIn wsX0_apply (wsV RX0 77 RX0 yX0_book wsX0_book) := goodIn_app (goodIn_of _ (by decide +kernel)) ggX0_apply_X0_book
set_option maxRecDepth 20000 in
theorem ggX0_apply_X0_impair : GoodIn wsX0_apply wsX0_impair := goodIn_r _ [31, 14, 19, 20, 21, 11, 22, 13, 23, 24, 25, 26, 27, 52, 53, 54, 55, 56, 57, 58, 59, 60, 61, 62, 63, 64, 65, 66] (by decide +kernel) (by decide +kernel)
set_option maxRecDepth 20000 in
theorem gX0_apply_X0_impair : GoodIn wsX0_apply (wsV RX0 111 RX0 yX0_impair wsX0_impair) := goodIn_app (goodIn_of _ (by decide +kernel)) ggX0_apply_X0_impair
set_option maxRecDepth 20000 in
theorem ggX0_apply_X0_restore : GoodIn wsX0_apply wsX0_restore := goodIn_r _ [35, 14, 27, 23, 24, 25, 26, 52, 53, 54, 55, 56, 57, 58, 59, 60, 61, 62, 63, 64, 65, 66] (by decide +kernel) (by decide +kernel)
set_option maxRecDepth 20000 in
theorem gX0_apply_X0_restore : GoodIn wsX0_apply (wsV RX0 114 RX0 yX0_restore wsX0_restore) := goodIn_app (goodIn_of _ (by decide +kernel)) ggX0_apply_X0_restore
set_option maxRecDepth 20000 in
theorem ggX0_apply_X0_sell : GoodIn wsX0_apply wsX0_sell := goodIn_r _ [39, 2, 40, 14, 13, 4, 41, 42, 43, 44, 45, 46, 52, 53, 54, 55, 56, 57, 58, 59, 60, 61, 62, 63, 64, 65, 66] (by decide +kernel) (by decide +kernel)
set_option maxRecDepth 20000 in
theorem gX0_apply_X0_sell : GoodIn wsX0_apply (wsV RX0 117 RX0 yX0_sell wsX0_sell) := goodIn_app (goodIn_of _ (by decide +kernel)) ggX0_apply_X0_sell
theorem dX0_apply_0 : decode cX0_apply 0 = .ok (.aload_n 1, 1) := by decide +kernel
theorem dX0_apply_1 : decode cX0_apply 1 = .ok (.getfield 89, 3) := by decide +kernel
theorem dX0_apply_4 : decode cX0_apply 4 = .ok (.tableswitch 129 0 5 #[40, 56, 75, 86, 102, 118], 40) := by decide +kernel
theorem dX0_apply_44 : decode cX0_apply 44 = .ok (.aload_n 0, 1) := by decide +kernel
theorem dX0_apply_45 : decode cX0_apply 45 = .ok (.dup, 1) := by decide +kernel
theorem dX0_apply_46 : decode cX0_apply 46 = .ok (.getfield 33, 3) := by decide +kernel
theorem dX0_apply_49 : decode cX0_apply 49 = .ok (.aload_n 1, 1) := by decide +kernel
theorem dX0_apply_50 : decode cX0_apply 50 = .ok (.getfield 101, 3) := by decide +kernel
theorem dX0_apply_53 : decode cX0_apply 53 = .ok (.ladd, 1) := by decide +kernel
theorem dX0_apply_54 : decode cX0_apply 54 = .ok (.putfield 33, 3) := by decide +kernel
theorem dX0_apply_57 : decode cX0_apply 57 = .ok (.goto 94, 3) := by decide +kernel
theorem dX0_apply_60 : decode cX0_apply 60 = .ok (.aload_n 0, 1) := by decide +kernel
theorem dX0_apply_61 : decode cX0_apply 61 = .ok (.aload_n 1, 1) := by decide +kernel
theorem dX0_apply_62 : decode cX0_apply 62 = .ok (.getfield 101, 3) := by decide +kernel
theorem dX0_apply_65 : decode cX0_apply 65 = .ok (.putfield 46, 3) := by decide +kernel
theorem dX0_apply_68 : decode cX0_apply 68 = .ok (.aload_n 0, 1) := by decide +kernel
theorem dX0_apply_69 : decode cX0_apply 69 = .ok (.aload_n 1, 1) := by decide +kernel
theorem dX0_apply_70 : decode cX0_apply 70 = .ok (.getfield 104, 3) := by decide +kernel
theorem dX0_apply_73 : decode cX0_apply 73 = .ok (.putfield 50, 3) := by decide +kernel
theorem dX0_apply_76 : decode cX0_apply 76 = .ok (.goto 75, 3) := by decide +kernel
theorem dX0_apply_79 : decode cX0_apply 79 = .ok (.aload_n 0, 1) := by decide +kernel
theorem dX0_apply_80 : decode cX0_apply 80 = .ok (.aload_n 1, 1) := by decide +kernel
theorem dX0_apply_81 : decode cX0_apply 81 = .ok (.getfield 101, 3) := by decide +kernel
theorem dX0_apply_84 : decode cX0_apply 84 = .ok (.invokevirtual 107, 3) := by decide +kernel
theorem dX0_apply_87 : decode cX0_apply 87 = .ok (.goto 64, 3) := by decide +kernel
theorem dX0_apply_90 : decode cX0_apply 90 = .ok (.aload_n 0, 1) := by decide +kernel
theorem dX0_apply_91 : decode cX0_apply 91 = .ok (.aload_n 0, 1) := by decide +kernel
theorem dX0_apply_92 : decode cX0_apply 92 = .ok (.invokevirtual 77, 3) := by decide +kernel
theorem dX0_apply_95 : decode cX0_apply 95 = .ok (.aload_n 1, 1) := by decide +kernel
theorem dX0_apply_96 : decode cX0_apply 96 = .ok (.getfield 101, 3) := by decide +kernel
theorem dX0_apply_99 : decode cX0_apply 99 = .ok (.lsub, 1) := by decide +kernel
theorem dX0_apply_100 : decode cX0_apply 100 = .ok (.invokevirtual 111, 3) := by decide +kernel
theorem dX0_apply_103 : decode cX0_apply 103 = .ok (.goto 48, 3) := by decide +kernel
theorem dX0_apply_106 : decode cX0_apply 106 = .ok (.aload_n 0, 1) := by decide +kernel
theorem dX0_apply_107 : decode cX0_apply 107 = .ok (.aload_n 1, 1) := by decide +kernel
theorem dX0_apply_108 : decode cX0_apply 108 = .ok (.getfield 101, 3) := by decide +kernel
theorem dX0_apply_111 : decode cX0_apply 111 = .ok (.aload_n 0, 1) := by decide +kernel
theorem dX0_apply_112 : decode cX0_apply 112 = .ok (.invokevirtual 77, 3) := by decide +kernel
theorem dX0_apply_115 : decode cX0_apply 115 = .ok (.lsub, 1) := by decide +kernel
theorem dX0_apply_116 : decode cX0_apply 116 = .ok (.invokevirtual 114, 3) := by decide +kernel
theorem dX0_apply_119 : decode cX0_apply 119 = .ok (.goto 32, 3) := by decide +kernel
theorem dX0_apply_122 : decode cX0_apply 122 = .ok (.aload_n 0, 1) := by decide +kernel
theorem dX0_apply_123 : decode cX0_apply 123 = .ok (.aload_n 1, 1) := by decide +kernel
theorem dX0_apply_124 : decode cX0_apply 124 = .ok (.getfield 104, 3) := by decide +kernel
theorem dX0_apply_127 : decode cX0_apply 127 = .ok (.invokevirtual 117, 3) := by decide +kernel
theorem dX0_apply_130 : decode cX0_apply 130 = .ok (.goto 21, 3) := by decide +kernel
theorem dX0_apply_133 : decode cX0_apply 133 = .ok (.aload_n 0, 1) := by decide +kernel
theorem dX0_apply_134 : decode cX0_apply 134 = .ok (.aload_n 1, 1) := by decide +kernel
theorem dX0_apply_135 : decode cX0_apply 135 = .ok (.getfield 89, 3) := by decide +kernel
theorem dX0_apply_138 : decode cX0_apply 138 = .ok (.bipush 6, 2) := by decide +kernel
theorem dX0_apply_140 : decode cX0_apply 140 = .ok (.if_icmp .ne 7, 3) := by decide +kernel
theorem dX0_apply_143 : decode cX0_apply 143 = .ok (.iconst 1, 1) := by decide +kernel
theorem dX0_apply_144 : decode cX0_apply 144 = .ok (.goto 4, 3) := by decide +kernel
theorem dX0_apply_147 : decode cX0_apply 147 = .ok (.iconst 0, 1) := by decide +kernel
theorem dX0_apply_148 : decode cX0_apply 148 = .ok (.putfield 53, 3) := by decide +kernel
theorem dX0_apply_151 : decode cX0_apply 151 = .ok (.return_, 1) := by decide +kernel
set_option maxRecDepth 20000 in
theorem ggX0_revalue_X0_book : GoodIn wsX0_revalue wsX0_book := goodIn_r _ [8, 2, 3, 18, 19, 20, 21, 22, 23, 24, 25, 26, 27, 28, 29, 30, 31, 32] (by decide +kernel) (by decide +kernel)
set_option maxRecDepth 20000 in
theorem gX0_revalue_X0_book : GoodIn wsX0_revalue (wsV RX0 77 RX0 yX0_book wsX0_book) := goodIn_app (goodIn_of _ (by decide +kernel)) ggX0_revalue_X0_book
set_option maxRecDepth 20000 in
theorem ggX0_revalue_X0_lose : GoodIn wsX0_revalue wsX0_lose := goodIn_r _ [12, 1, 13, 14, 15, 16, 17, 18, 19, 20, 21, 22, 23, 24, 25, 26, 27, 28, 29, 30, 31, 32] (by decide +kernel) (by decide +kernel)
set_option maxRecDepth 20000 in
theorem gX0_revalue_X0_lose : GoodIn wsX0_revalue (wsV RX0 121 RX0 yX0_lose wsX0_lose) := goodIn_app (goodIn_of _ (by decide +kernel)) ggX0_revalue_X0_lose
theorem dX0_revalue_0 : decode cX0_revalue 0 = .ok (.lload_n 1, 1) := by decide +kernel
theorem dX0_revalue_1 : decode cX0_revalue 1 = .ok (.aload_n 0, 1) := by decide +kernel
theorem dX0_revalue_2 : decode cX0_revalue 2 = .ok (.invokevirtual 77, 3) := by decide +kernel
theorem dX0_revalue_5 : decode cX0_revalue 5 = .ok (.lcmp, 1) := by decide +kernel
theorem dX0_revalue_6 : decode cX0_revalue 6 = .ok (.ifCond .le 21, 3) := by decide +kernel
theorem dX0_revalue_9 : decode cX0_revalue 9 = .ok (.aload_n 0, 1) := by decide +kernel
theorem dX0_revalue_10 : decode cX0_revalue 10 = .ok (.dup, 1) := by decide +kernel
theorem dX0_revalue_11 : decode cX0_revalue 11 = .ok (.getfield 37, 3) := by decide +kernel
theorem dX0_revalue_14 : decode cX0_revalue 14 = .ok (.lload_n 1, 1) := by decide +kernel
theorem dX0_revalue_15 : decode cX0_revalue 15 = .ok (.aload_n 0, 1) := by decide +kernel
theorem dX0_revalue_16 : decode cX0_revalue 16 = .ok (.invokevirtual 77, 3) := by decide +kernel
theorem dX0_revalue_19 : decode cX0_revalue 19 = .ok (.lsub, 1) := by decide +kernel
theorem dX0_revalue_20 : decode cX0_revalue 20 = .ok (.ladd, 1) := by decide +kernel
theorem dX0_revalue_21 : decode cX0_revalue 21 = .ok (.putfield 37, 3) := by decide +kernel
theorem dX0_revalue_24 : decode cX0_revalue 24 = .ok (.goto 13, 3) := by decide +kernel
theorem dX0_revalue_27 : decode cX0_revalue 27 = .ok (.aload_n 0, 1) := by decide +kernel
theorem dX0_revalue_28 : decode cX0_revalue 28 = .ok (.aload_n 0, 1) := by decide +kernel
theorem dX0_revalue_29 : decode cX0_revalue 29 = .ok (.invokevirtual 77, 3) := by decide +kernel
theorem dX0_revalue_32 : decode cX0_revalue 32 = .ok (.lload_n 1, 1) := by decide +kernel
theorem dX0_revalue_33 : decode cX0_revalue 33 = .ok (.lsub, 1) := by decide +kernel
theorem dX0_revalue_34 : decode cX0_revalue 34 = .ok (.invokevirtual 121, 3) := by decide +kernel
theorem dX0_revalue_37 : decode cX0_revalue 37 = .ok (.aload_n 0, 1) := by decide +kernel
theorem dX0_revalue_38 : decode cX0_revalue 38 = .ok (.lload_n 1, 1) := by decide +kernel
theorem dX0_revalue_39 : decode cX0_revalue 39 = .ok (.putfield 33, 3) := by decide +kernel
theorem dX0_revalue_42 : decode cX0_revalue 42 = .ok (.aload_n 0, 1) := by decide +kernel
theorem dX0_revalue_43 : decode cX0_revalue 43 = .ok (.lconst 0, 1) := by decide +kernel
theorem dX0_revalue_44 : decode cX0_revalue 44 = .ok (.putfield 34, 3) := by decide +kernel
theorem dX0_revalue_47 : decode cX0_revalue 47 = .ok (.return_, 1) := by decide +kernel
set_option maxRecDepth 20000 in
theorem ggX0_impair_X0_lose : GoodIn wsX0_impair wsX0_lose := goodIn_r _ [6, 7, 8, 9, 10, 11, 12, 13, 14, 15, 16, 17, 18, 19, 20, 21, 22, 23, 24, 25, 26, 27] (by decide +kernel) (by decide +kernel)
set_option maxRecDepth 20000 in
theorem gX0_impair_X0_lose : GoodIn wsX0_impair (wsV RX0 121 RX0 yX0_lose wsX0_lose) := goodIn_app (goodIn_of _ (by decide +kernel)) ggX0_impair_X0_lose
theorem dX0_impair_0 : decode cX0_impair 0 = .ok (.aload_n 0, 1) := by decide +kernel
theorem dX0_impair_1 : decode cX0_impair 1 = .ok (.lload_n 1, 1) := by decide +kernel
theorem dX0_impair_2 : decode cX0_impair 2 = .ok (.invokevirtual 121, 3) := by decide +kernel
theorem dX0_impair_5 : decode cX0_impair 5 = .ok (.aload_n 0, 1) := by decide +kernel
theorem dX0_impair_6 : decode cX0_impair 6 = .ok (.dup, 1) := by decide +kernel
theorem dX0_impair_7 : decode cX0_impair 7 = .ok (.getfield 34, 3) := by decide +kernel
theorem dX0_impair_10 : decode cX0_impair 10 = .ok (.lload_n 1, 1) := by decide +kernel
theorem dX0_impair_11 : decode cX0_impair 11 = .ok (.ladd, 1) := by decide +kernel
theorem dX0_impair_12 : decode cX0_impair 12 = .ok (.putfield 34, 3) := by decide +kernel
theorem dX0_impair_15 : decode cX0_impair 15 = .ok (.return_, 1) := by decide +kernel
theorem dX0_lose_0 : decode cX0_lose 0 = .ok (.lload_n 1, 1) := by decide +kernel
theorem dX0_lose_1 : decode cX0_lose 1 = .ok (.aload_n 0, 1) := by decide +kernel
theorem dX0_lose_2 : decode cX0_lose 2 = .ok (.getfield 37, 3) := by decide +kernel
theorem dX0_lose_5 : decode cX0_lose 5 = .ok (.invokestatic 124, 3) := by decide +kernel
theorem dX0_lose_8 : decode cX0_lose 8 = .ok (.lstore_n 3, 1) := by decide +kernel
theorem dX0_lose_9 : decode cX0_lose 9 = .ok (.aload_n 0, 1) := by decide +kernel
theorem dX0_lose_10 : decode cX0_lose 10 = .ok (.dup, 1) := by decide +kernel
theorem dX0_lose_11 : decode cX0_lose 11 = .ok (.getfield 37, 3) := by decide +kernel
theorem dX0_lose_14 : decode cX0_lose 14 = .ok (.lload_n 3, 1) := by decide +kernel
theorem dX0_lose_15 : decode cX0_lose 15 = .ok (.lsub, 1) := by decide +kernel
theorem dX0_lose_16 : decode cX0_lose 16 = .ok (.putfield 37, 3) := by decide +kernel
theorem dX0_lose_19 : decode cX0_lose 19 = .ok (.aload_n 0, 1) := by decide +kernel
theorem dX0_lose_20 : decode cX0_lose 20 = .ok (.dup, 1) := by decide +kernel
theorem dX0_lose_21 : decode cX0_lose 21 = .ok (.getfield 40, 3) := by decide +kernel
theorem dX0_lose_24 : decode cX0_lose 24 = .ok (.lload_n 1, 1) := by decide +kernel
theorem dX0_lose_25 : decode cX0_lose 25 = .ok (.lload_n 3, 1) := by decide +kernel
theorem dX0_lose_26 : decode cX0_lose 26 = .ok (.lsub, 1) := by decide +kernel
theorem dX0_lose_27 : decode cX0_lose 27 = .ok (.ladd, 1) := by decide +kernel
theorem dX0_lose_28 : decode cX0_lose 28 = .ok (.putfield 40, 3) := by decide +kernel
theorem dX0_lose_31 : decode cX0_lose 31 = .ok (.return_, 1) := by decide +kernel
theorem dX0_restore_0 : decode cX0_restore 0 = .ok (.aload_n 0, 1) := by decide +kernel
theorem dX0_restore_1 : decode cX0_restore 1 = .ok (.dup, 1) := by decide +kernel
theorem dX0_restore_2 : decode cX0_restore 2 = .ok (.getfield 34, 3) := by decide +kernel
theorem dX0_restore_5 : decode cX0_restore 5 = .ok (.lload_n 1, 1) := by decide +kernel
theorem dX0_restore_6 : decode cX0_restore 6 = .ok (.lsub, 1) := by decide +kernel
theorem dX0_restore_7 : decode cX0_restore 7 = .ok (.putfield 34, 3) := by decide +kernel
theorem dX0_restore_10 : decode cX0_restore 10 = .ok (.aload_n 0, 1) := by decide +kernel
theorem dX0_restore_11 : decode cX0_restore 11 = .ok (.dup, 1) := by decide +kernel
theorem dX0_restore_12 : decode cX0_restore 12 = .ok (.getfield 40, 3) := by decide +kernel
theorem dX0_restore_15 : decode cX0_restore 15 = .ok (.lload_n 1, 1) := by decide +kernel
theorem dX0_restore_16 : decode cX0_restore 16 = .ok (.aload_n 0, 1) := by decide +kernel
theorem dX0_restore_17 : decode cX0_restore 17 = .ok (.getfield 40, 3) := by decide +kernel
theorem dX0_restore_20 : decode cX0_restore 20 = .ok (.invokestatic 124, 3) := by decide +kernel
theorem dX0_restore_23 : decode cX0_restore 23 = .ok (.lsub, 1) := by decide +kernel
theorem dX0_restore_24 : decode cX0_restore 24 = .ok (.putfield 40, 3) := by decide +kernel
theorem dX0_restore_27 : decode cX0_restore 27 = .ok (.return_, 1) := by decide +kernel
set_option maxRecDepth 20000 in
theorem ggX0_sell_X4_rounded : GoodIn wsX0_sell wsX4_rounded := goodIn_r _ [10, 11] (by decide +kernel) (by decide +kernel)
set_option maxRecDepth 20000 in
theorem gX0_sell_X4_rounded_n132 : GoodIn wsX0_sell (wsX4_rounded) := ggX0_sell_X4_rounded
theorem dX0_sell_0 : decode cX0_sell 0 = .ok (.aload_n 0, 1) := by decide +kernel
theorem dX0_sell_1 : decode cX0_sell 1 = .ok (.dup, 1) := by decide +kernel
theorem dX0_sell_2 : decode cX0_sell 2 = .ok (.getfield 33, 3) := by decide +kernel
theorem dX0_sell_5 : decode cX0_sell 5 = .ok (.aload_n 0, 1) := by decide +kernel
theorem dX0_sell_6 : decode cX0_sell 6 = .ok (.getfield 33, 3) := by decide +kernel
theorem dX0_sell_9 : decode cX0_sell 9 = .ok (.iload_n 1, 1) := by decide +kernel
theorem dX0_sell_10 : decode cX0_sell 10 = .ok (.i2l, 1) := by decide +kernel
theorem dX0_sell_11 : decode cX0_sell 11 = .ok (.lmul, 1) := by decide +kernel
theorem dX0_sell_12 : decode cX0_sell 12 = .ok (.ldc2_w 130, 3) := by decide +kernel
theorem dX0_sell_15 : decode cX0_sell 15 = .ok (.invokestatic 132, 3) := by decide +kernel
theorem dX0_sell_18 : decode cX0_sell 18 = .ok (.lsub, 1) := by decide +kernel
theorem dX0_sell_19 : decode cX0_sell 19 = .ok (.putfield 33, 3) := by decide +kernel
theorem dX0_sell_22 : decode cX0_sell 22 = .ok (.aload_n 0, 1) := by decide +kernel
theorem dX0_sell_23 : decode cX0_sell 23 = .ok (.dup, 1) := by decide +kernel
theorem dX0_sell_24 : decode cX0_sell 24 = .ok (.getfield 34, 3) := by decide +kernel
theorem dX0_sell_27 : decode cX0_sell 27 = .ok (.aload_n 0, 1) := by decide +kernel
theorem dX0_sell_28 : decode cX0_sell 28 = .ok (.getfield 34, 3) := by decide +kernel
theorem dX0_sell_31 : decode cX0_sell 31 = .ok (.iload_n 1, 1) := by decide +kernel
theorem dX0_sell_32 : decode cX0_sell 32 = .ok (.i2l, 1) := by decide +kernel
theorem dX0_sell_33 : decode cX0_sell 33 = .ok (.lmul, 1) := by decide +kernel
theorem dX0_sell_34 : decode cX0_sell 34 = .ok (.ldc2_w 130, 3) := by decide +kernel
theorem dX0_sell_37 : decode cX0_sell 37 = .ok (.invokestatic 132, 3) := by decide +kernel
theorem dX0_sell_40 : decode cX0_sell 40 = .ok (.lsub, 1) := by decide +kernel
theorem dX0_sell_41 : decode cX0_sell 41 = .ok (.putfield 34, 3) := by decide +kernel
theorem dX0_sell_44 : decode cX0_sell 44 = .ok (.aload_n 0, 1) := by decide +kernel
theorem dX0_sell_45 : decode cX0_sell 45 = .ok (.dup, 1) := by decide +kernel
theorem dX0_sell_46 : decode cX0_sell 46 = .ok (.getfield 37, 3) := by decide +kernel
theorem dX0_sell_49 : decode cX0_sell 49 = .ok (.aload_n 0, 1) := by decide +kernel
theorem dX0_sell_50 : decode cX0_sell 50 = .ok (.getfield 37, 3) := by decide +kernel
theorem dX0_sell_53 : decode cX0_sell 53 = .ok (.iload_n 1, 1) := by decide +kernel
theorem dX0_sell_54 : decode cX0_sell 54 = .ok (.i2l, 1) := by decide +kernel
theorem dX0_sell_55 : decode cX0_sell 55 = .ok (.lmul, 1) := by decide +kernel
theorem dX0_sell_56 : decode cX0_sell 56 = .ok (.ldc2_w 130, 3) := by decide +kernel
theorem dX0_sell_59 : decode cX0_sell 59 = .ok (.invokestatic 132, 3) := by decide +kernel
theorem dX0_sell_62 : decode cX0_sell 62 = .ok (.lsub, 1) := by decide +kernel
theorem dX0_sell_63 : decode cX0_sell 63 = .ok (.putfield 37, 3) := by decide +kernel
theorem dX0_sell_66 : decode cX0_sell 66 = .ok (.aload_n 0, 1) := by decide +kernel
theorem dX0_sell_67 : decode cX0_sell 67 = .ok (.dup, 1) := by decide +kernel
theorem dX0_sell_68 : decode cX0_sell 68 = .ok (.getfield 46, 3) := by decide +kernel
theorem dX0_sell_71 : decode cX0_sell 71 = .ok (.aload_n 0, 1) := by decide +kernel
theorem dX0_sell_72 : decode cX0_sell 72 = .ok (.getfield 46, 3) := by decide +kernel
theorem dX0_sell_75 : decode cX0_sell 75 = .ok (.iload_n 1, 1) := by decide +kernel
theorem dX0_sell_76 : decode cX0_sell 76 = .ok (.i2l, 1) := by decide +kernel
theorem dX0_sell_77 : decode cX0_sell 77 = .ok (.lmul, 1) := by decide +kernel
theorem dX0_sell_78 : decode cX0_sell 78 = .ok (.ldc2_w 130, 3) := by decide +kernel
theorem dX0_sell_81 : decode cX0_sell 81 = .ok (.invokestatic 132, 3) := by decide +kernel
theorem dX0_sell_84 : decode cX0_sell 84 = .ok (.lsub, 1) := by decide +kernel
theorem dX0_sell_85 : decode cX0_sell 85 = .ok (.putfield 46, 3) := by decide +kernel
theorem dX0_sell_88 : decode cX0_sell 88 = .ok (.aload_n 0, 1) := by decide +kernel
theorem dX0_sell_89 : decode cX0_sell 89 = .ok (.iload_n 1, 1) := by decide +kernel
theorem dX0_sell_90 : decode cX0_sell 90 = .ok (.ldc 135, 2) := by decide +kernel
theorem dX0_sell_92 : decode cX0_sell 92 = .ok (.if_icmp .ne 7, 3) := by decide +kernel
theorem dX0_sell_95 : decode cX0_sell 95 = .ok (.iconst 1, 1) := by decide +kernel
theorem dX0_sell_96 : decode cX0_sell 96 = .ok (.goto 4, 3) := by decide +kernel
theorem dX0_sell_99 : decode cX0_sell 99 = .ok (.iconst 0, 1) := by decide +kernel
theorem dX0_sell_100 : decode cX0_sell 100 = .ok (.putfield 57, 3) := by decide +kernel
theorem dX0_sell_103 : decode cX0_sell 103 = .ok (.return_, 1) := by decide +kernel
set_option maxRecDepth 20000 in
theorem ggX0_beginStretch_X0_book : GoodIn wsX0_beginStretch wsX0_book := goodIn_r _ [14, 15, 16, 28, 29, 30, 31, 32, 33, 34, 35, 36, 37, 38, 39, 40, 41, 42] (by decide +kernel) (by decide +kernel)
set_option maxRecDepth 20000 in
theorem gX0_beginStretch_X0_book : GoodIn wsX0_beginStretch (wsV RX0 77 RX0 yX0_book wsX0_book) := goodIn_app (goodIn_of _ (by decide +kernel)) ggX0_beginStretch_X0_book
set_option maxRecDepth 20000 in
theorem ggX0_beginStretch_X3_begin : GoodIn wsX0_beginStretch wsX3_begin := goodIn_r _ [21, 22, 23, 24, 25, 26, 27, 43, 44, 45, 46, 47, 48] (by decide +kernel) (by decide +kernel)
set_option maxRecDepth 20000 in
theorem gX0_beginStretch_X3_begin : GoodIn wsX0_beginStretch (wsV RX0 139 RX3 yX3_begin wsX3_begin) := goodIn_app (goodIn_of _ (by decide +kernel)) ggX0_beginStretch_X3_begin
theorem dX0_beginStretch_0 : decode cX0_beginStretch 0 = .ok (.aload_n 0, 1) := by decide +kernel
theorem dX0_beginStretch_1 : decode cX0_beginStretch 1 = .ok (.getfield 12, 3) := by decide +kernel
theorem dX0_beginStretch_4 : decode cX0_beginStretch 4 = .ok (.lconst 0, 1) := by decide +kernel
theorem dX0_beginStretch_5 : decode cX0_beginStretch 5 = .ok (.aload_n 0, 1) := by decide +kernel
theorem dX0_beginStretch_6 : decode cX0_beginStretch 6 = .ok (.invokevirtual 77, 3) := by decide +kernel
theorem dX0_beginStretch_9 : decode cX0_beginStretch 9 = .ok (.aload_n 0, 1) := by decide +kernel
theorem dX0_beginStretch_10 : decode cX0_beginStretch 10 = .ok (.getfield 46, 3) := by decide +kernel
theorem dX0_beginStretch_13 : decode cX0_beginStretch 13 = .ok (.lsub, 1) := by decide +kernel
theorem dX0_beginStretch_14 : decode cX0_beginStretch 14 = .ok (.invokestatic 136, 3) := by decide +kernel
theorem dX0_beginStretch_17 : decode cX0_beginStretch 17 = .ok (.aload_n 0, 1) := by decide +kernel
theorem dX0_beginStretch_18 : decode cX0_beginStretch 18 = .ok (.getfield 50, 3) := by decide +kernel
theorem dX0_beginStretch_21 : decode cX0_beginStretch 21 = .ok (.i2l, 1) := by decide +kernel
theorem dX0_beginStretch_22 : decode cX0_beginStretch 22 = .ok (.lconst 0, 1) := by decide +kernel
theorem dX0_beginStretch_23 : decode cX0_beginStretch 23 = .ok (.aload_n 0, 1) := by decide +kernel
theorem dX0_beginStretch_24 : decode cX0_beginStretch 24 = .ok (.getfield 28, 3) := by decide +kernel
theorem dX0_beginStretch_27 : decode cX0_beginStretch 27 = .ok (.i2l, 1) := by decide +kernel
theorem dX0_beginStretch_28 : decode cX0_beginStretch 28 = .ok (.aload_n 0, 1) := by decide +kernel
theorem dX0_beginStretch_29 : decode cX0_beginStretch 29 = .ok (.getfield 63, 3) := by decide +kernel
theorem dX0_beginStretch_32 : decode cX0_beginStretch 32 = .ok (.lsub, 1) := by decide +kernel
theorem dX0_beginStretch_33 : decode cX0_beginStretch 33 = .ok (.invokestatic 136, 3) := by decide +kernel
theorem dX0_beginStretch_36 : decode cX0_beginStretch 36 = .ok (.invokevirtual 139, 3) := by decide +kernel
theorem dX0_beginStretch_39 : decode cX0_beginStretch 39 = .ok (.return_, 1) := by decide +kernel
set_option maxRecDepth 20000 in
theorem ggX0_decliningCharge_X0_book : GoodIn wsX0_decliningCharge wsX0_book := goodIn_r _ [16, 17, 18, 23, 24, 25, 26, 27, 28, 29, 30, 31, 32, 33, 34, 35, 36, 37] (by decide +kernel) (by decide +kernel)
set_option maxRecDepth 20000 in
theorem gX0_decliningCharge_X0_book : GoodIn wsX0_decliningCharge (wsV RX0 77 RX0 yX0_book wsX0_book) := goodIn_app (goodIn_of _ (by decide +kernel)) ggX0_decliningCharge_X0_book
set_option maxRecDepth 20000 in
theorem ggX0_decliningCharge_X4_rounded : GoodIn wsX0_decliningCharge wsX4_rounded := goodIn_r _ [21, 22] (by decide +kernel) (by decide +kernel)
set_option maxRecDepth 20000 in
theorem gX0_decliningCharge_X4_rounded_n132 : GoodIn wsX0_decliningCharge (wsX4_rounded) := ggX0_decliningCharge_X4_rounded
theorem dX0_decliningCharge_0 : decode cX0_decliningCharge 0 = .ok (.aload_n 0, 1) := by decide +kernel
theorem dX0_decliningCharge_1 : decode cX0_decliningCharge 1 = .ok (.invokevirtual 77, 3) := by decide +kernel
theorem dX0_decliningCharge_4 : decode cX0_decliningCharge 4 = .ok (.aload_n 0, 1) := by decide +kernel
theorem dX0_decliningCharge_5 : decode cX0_decliningCharge 5 = .ok (.getfield 46, 3) := by decide +kernel
theorem dX0_decliningCharge_8 : decode cX0_decliningCharge 8 = .ok (.lsub, 1) := by decide +kernel
theorem dX0_decliningCharge_9 : decode cX0_decliningCharge 9 = .ok (.lstore_n 1, 1) := by decide +kernel
theorem dX0_decliningCharge_10 : decode cX0_decliningCharge 10 = .ok (.lload_n 1, 1) := by decide +kernel
theorem dX0_decliningCharge_11 : decode cX0_decliningCharge 11 = .ok (.lconst 0, 1) := by decide +kernel
theorem dX0_decliningCharge_12 : decode cX0_decliningCharge 12 = .ok (.lcmp, 1) := by decide +kernel
theorem dX0_decliningCharge_13 : decode cX0_decliningCharge 13 = .ok (.ifCond .gt 5, 3) := by decide +kernel
theorem dX0_decliningCharge_16 : decode cX0_decliningCharge 16 = .ok (.lconst 0, 1) := by decide +kernel
theorem dX0_decliningCharge_17 : decode cX0_decliningCharge 17 = .ok (.lreturn, 1) := by decide +kernel
theorem dX0_decliningCharge_18 : decode cX0_decliningCharge 18 = .ok (.aload_n 0, 1) := by decide +kernel
theorem dX0_decliningCharge_19 : decode cX0_decliningCharge 19 = .ok (.getfield 50, 3) := by decide +kernel
theorem dX0_decliningCharge_22 : decode cX0_decliningCharge 22 = .ok (.iconst 1, 1) := by decide +kernel
theorem dX0_decliningCharge_23 : decode cX0_decliningCharge 23 = .ok (.if_icmp .ne 5, 3) := by decide +kernel
theorem dX0_decliningCharge_26 : decode cX0_decliningCharge 26 = .ok (.lload_n 1, 1) := by decide +kernel
theorem dX0_decliningCharge_27 : decode cX0_decliningCharge 27 = .ok (.lreturn, 1) := by decide +kernel
theorem dX0_decliningCharge_28 : decode cX0_decliningCharge 28 = .ok (.aload_n 0, 1) := by decide +kernel
theorem dX0_decliningCharge_29 : decode cX0_decliningCharge 29 = .ok (.invokevirtual 77, 3) := by decide +kernel
theorem dX0_decliningCharge_32 : decode cX0_decliningCharge 32 = .ok (.aload_n 0, 1) := by decide +kernel
theorem dX0_decliningCharge_33 : decode cX0_decliningCharge 33 = .ok (.getfield 28, 3) := by decide +kernel
theorem dX0_decliningCharge_36 : decode cX0_decliningCharge 36 = .ok (.i2l, 1) := by decide +kernel
theorem dX0_decliningCharge_37 : decode cX0_decliningCharge 37 = .ok (.lmul, 1) := by decide +kernel
theorem dX0_decliningCharge_38 : decode cX0_decliningCharge 38 = .ok (.ldc2_w 130, 3) := by decide +kernel
theorem dX0_decliningCharge_41 : decode cX0_decliningCharge 41 = .ok (.invokestatic 132, 3) := by decide +kernel
theorem dX0_decliningCharge_44 : decode cX0_decliningCharge 44 = .ok (.lstore_n 3, 1) := by decide +kernel
theorem dX0_decliningCharge_45 : decode cX0_decliningCharge 45 = .ok (.lload_n 1, 1) := by decide +kernel
theorem dX0_decliningCharge_46 : decode cX0_decliningCharge 46 = .ok (.aload_n 0, 1) := by decide +kernel
theorem dX0_decliningCharge_47 : decode cX0_decliningCharge 47 = .ok (.getfield 50, 3) := by decide +kernel
theorem dX0_decliningCharge_50 : decode cX0_decliningCharge 50 = .ok (.i2l, 1) := by decide +kernel
theorem dX0_decliningCharge_51 : decode cX0_decliningCharge 51 = .ok (.invokestatic 132, 3) := by decide +kernel
theorem dX0_decliningCharge_54 : decode cX0_decliningCharge 54 = .ok (.lstore 5, 2) := by decide +kernel
theorem dX0_decliningCharge_56 : decode cX0_decliningCharge 56 = .ok (.lload_n 1, 1) := by decide +kernel
theorem dX0_decliningCharge_57 : decode cX0_decliningCharge 57 = .ok (.lload_n 3, 1) := by decide +kernel
theorem dX0_decliningCharge_58 : decode cX0_decliningCharge 58 = .ok (.lload 5, 2) := by decide +kernel
theorem dX0_decliningCharge_60 : decode cX0_decliningCharge 60 = .ok (.invokestatic 136, 3) := by decide +kernel
theorem dX0_decliningCharge_63 : decode cX0_decliningCharge 63 = .ok (.invokestatic 124, 3) := by decide +kernel
theorem dX0_decliningCharge_66 : decode cX0_decliningCharge 66 = .ok (.lreturn, 1) := by decide +kernel
theorem dX1_init_0 : decode cX1_init 0 = .ok (.aload_n 0, 1) := by decide +kernel
theorem dX1_init_1 : decode cX1_init 1 = .ok (.invokespecial 1, 3) := by decide +kernel
theorem dX1_init_4 : decode cX1_init 4 = .ok (.aload_n 0, 1) := by decide +kernel
theorem dX1_init_5 : decode cX1_init 5 = .ok (.iload_n 1, 1) := by decide +kernel
theorem dX1_init_6 : decode cX1_init 6 = .ok (.putfield 7, 3) := by decide +kernel
theorem dX1_init_9 : decode cX1_init 9 = .ok (.aload_n 0, 1) := by decide +kernel
theorem dX1_init_10 : decode cX1_init 10 = .ok (.iload_n 2, 1) := by decide +kernel
theorem dX1_init_11 : decode cX1_init 11 = .ok (.putfield 13, 3) := by decide +kernel
theorem dX1_init_14 : decode cX1_init 14 = .ok (.aload_n 0, 1) := by decide +kernel
theorem dX1_init_15 : decode cX1_init 15 = .ok (.iload_n 3, 1) := by decide +kernel
theorem dX1_init_16 : decode cX1_init 16 = .ok (.putfield 16, 3) := by decide +kernel
theorem dX1_init_19 : decode cX1_init 19 = .ok (.aload_n 0, 1) := by decide +kernel
theorem dX1_init_20 : decode cX1_init 20 = .ok (.lload 4, 2) := by decide +kernel
theorem dX1_init_22 : decode cX1_init 22 = .ok (.putfield 19, 3) := by decide +kernel
theorem dX1_init_25 : decode cX1_init 25 = .ok (.aload_n 0, 1) := by decide +kernel
theorem dX1_init_26 : decode cX1_init 26 = .ok (.iload 6, 2) := by decide +kernel
theorem dX1_init_28 : decode cX1_init 28 = .ok (.putfield 23, 3) := by decide +kernel
theorem dX1_init_31 : decode cX1_init 31 = .ok (.return_, 1) := by decide +kernel
theorem dX2_init_0 : decode cX2_init 0 = .ok (.aload_n 0, 1) := by decide +kernel
theorem dX2_init_1 : decode cX2_init 1 = .ok (.invokespecial 3, 3) := by decide +kernel
theorem dX2_init_4 : decode cX2_init 4 = .ok (.aload_n 0, 1) := by decide +kernel
theorem dX2_init_5 : decode cX2_init 5 = .ok (.lload_n 1, 1) := by decide +kernel
theorem dX2_init_6 : decode cX2_init 6 = .ok (.putfield 9, 3) := by decide +kernel
theorem dX2_init_9 : decode cX2_init 9 = .ok (.aload_n 0, 1) := by decide +kernel
theorem dX2_init_10 : decode cX2_init 10 = .ok (.lload_n 3, 1) := by decide +kernel
theorem dX2_init_11 : decode cX2_init 11 = .ok (.putfield 15, 3) := by decide +kernel
theorem dX2_init_14 : decode cX2_init 14 = .ok (.aload_n 0, 1) := by decide +kernel
theorem dX2_init_15 : decode cX2_init 15 = .ok (.iload 5, 2) := by decide +kernel
theorem dX2_init_17 : decode cX2_init 17 = .ok (.putfield 18, 3) := by decide +kernel
theorem dX2_init_20 : decode cX2_init 20 = .ok (.aload_n 0, 1) := by decide +kernel
theorem dX2_init_21 : decode cX2_init 21 = .ok (.iload 6, 2) := by decide +kernel
theorem dX2_init_23 : decode cX2_init 23 = .ok (.putfield 22, 3) := by decide +kernel
theorem dX2_init_26 : decode cX2_init 26 = .ok (.aload_n 0, 1) := by decide +kernel
theorem dX2_init_27 : decode cX2_init 27 = .ok (.iload 7, 2) := by decide +kernel
theorem dX2_init_29 : decode cX2_init 29 = .ok (.putfield 25, 3) := by decide +kernel
theorem dX2_init_32 : decode cX2_init 32 = .ok (.aload_n 0, 1) := by decide +kernel
theorem dX2_init_33 : decode cX2_init 33 = .ok (.iload 8, 2) := by decide +kernel
theorem dX2_init_35 : decode cX2_init 35 = .ok (.putfield 28, 3) := by decide +kernel
theorem dX2_init_38 : decode cX2_init 38 = .ok (.aload_n 0, 1) := by decide +kernel
theorem dX2_init_39 : decode cX2_init 39 = .ok (.bipush 36, 2) := by decide +kernel
theorem dX2_init_41 : decode cX2_init 41 = .ok (.newarray .int, 2) := by decide +kernel
theorem dX2_init_43 : decode cX2_init 43 = .ok (.putfield 31, 3) := by decide +kernel
theorem dX2_init_46 : decode cX2_init 46 = .ok (.aload_n 0, 1) := by decide +kernel
theorem dX2_init_47 : decode cX2_init 47 = .ok (.bipush 36, 2) := by decide +kernel
theorem dX2_init_49 : decode cX2_init 49 = .ok (.anewarray 35, 3) := by decide +kernel
theorem dX2_init_52 : decode cX2_init 52 = .ok (.putfield 37, 3) := by decide +kernel
theorem dX2_init_55 : decode cX2_init 55 = .ok (.aload_n 0, 1) := by decide +kernel
theorem dX2_init_56 : decode cX2_init 56 = .ok (.bipush 36, 2) := by decide +kernel
theorem dX2_init_58 : decode cX2_init 58 = .ok (.newarray .long, 2) := by decide +kernel
theorem dX2_init_60 : decode cX2_init 60 = .ok (.putfield 41, 3) := by decide +kernel
theorem dX2_init_63 : decode cX2_init 63 = .ok (.return_, 1) := by decide +kernel
theorem dX3_init_0 : decode cX3_init 0 = .ok (.aload_n 0, 1) := by decide +kernel
theorem dX3_init_1 : decode cX3_init 1 = .ok (.invokespecial 3, 3) := by decide +kernel
theorem dX3_init_4 : decode cX3_init 4 = .ok (.return_, 1) := by decide +kernel
theorem dX3_begin_0 : decode cX3_begin 0 = .ok (.aload_n 0, 1) := by decide +kernel
theorem dX3_begin_1 : decode cX3_begin 1 = .ok (.lload_n 1, 1) := by decide +kernel
theorem dX3_begin_2 : decode cX3_begin 2 = .ok (.putfield 9, 3) := by decide +kernel
theorem dX3_begin_5 : decode cX3_begin 5 = .ok (.aload_n 0, 1) := by decide +kernel
theorem dX3_begin_6 : decode cX3_begin 6 = .ok (.lload_n 3, 1) := by decide +kernel
theorem dX3_begin_7 : decode cX3_begin 7 = .ok (.putfield 15, 3) := by decide +kernel
theorem dX3_begin_10 : decode cX3_begin 10 = .ok (.aload_n 0, 1) := by decide +kernel
theorem dX3_begin_11 : decode cX3_begin 11 = .ok (.lload 5, 2) := by decide +kernel
theorem dX3_begin_13 : decode cX3_begin 13 = .ok (.putfield 18, 3) := by decide +kernel
theorem dX3_begin_16 : decode cX3_begin 16 = .ok (.aload_n 0, 1) := by decide +kernel
theorem dX3_begin_17 : decode cX3_begin 17 = .ok (.lconst 0, 1) := by decide +kernel
theorem dX3_begin_18 : decode cX3_begin 18 = .ok (.putfield 21, 3) := by decide +kernel
theorem dX3_begin_21 : decode cX3_begin 21 = .ok (.aload_n 0, 1) := by decide +kernel
theorem dX3_begin_22 : decode cX3_begin 22 = .ok (.lconst 0, 1) := by decide +kernel
theorem dX3_begin_23 : decode cX3_begin 23 = .ok (.putfield 24, 3) := by decide +kernel
theorem dX3_begin_26 : decode cX3_begin 26 = .ok (.aload_n 0, 1) := by decide +kernel
theorem dX3_begin_27 : decode cX3_begin 27 = .ok (.lconst 0, 1) := by decide +kernel
theorem dX3_begin_28 : decode cX3_begin 28 = .ok (.putfield 27, 3) := by decide +kernel
theorem dX3_begin_31 : decode cX3_begin 31 = .ok (.return_, 1) := by decide +kernel
set_option maxRecDepth 20000 in
theorem ggX3_nextCharge_X3_chargesTogether : GoodIn wsX3_nextCharge wsX3_chargesTogether := goodIn_r _ [8, 9, 1, 10, 11, 2, 12, 13, 14, 15, 16, 17, 18, 19, 20, 21, 7, 22, 23, 24, 25, 26, 27, 28, 29] (by decide +kernel) (by decide +kernel)
set_option maxRecDepth 20000 in
theorem gX3_nextCharge_X3_chargesTogether : GoodIn wsX3_nextCharge (wsV RX3 30 RX3 yX3_chargesTogether wsX3_chargesTogether) := goodIn_app (goodIn_of _ (by decide +kernel)) ggX3_nextCharge_X3_chargesTogether
theorem dX3_nextCharge_0 : decode cX3_nextCharge 0 = .ok (.aload_n 0, 1) := by decide +kernel
theorem dX3_nextCharge_1 : decode cX3_nextCharge 1 = .ok (.dup, 1) := by decide +kernel
theorem dX3_nextCharge_2 : decode cX3_nextCharge 2 = .ok (.getfield 21, 3) := by decide +kernel
theorem dX3_nextCharge_5 : decode cX3_nextCharge 5 = .ok (.lconst 1, 1) := by decide +kernel
theorem dX3_nextCharge_6 : decode cX3_nextCharge 6 = .ok (.ladd, 1) := by decide +kernel
theorem dX3_nextCharge_7 : decode cX3_nextCharge 7 = .ok (.putfield 21, 3) := by decide +kernel
theorem dX3_nextCharge_10 : decode cX3_nextCharge 10 = .ok (.aload_n 0, 1) := by decide +kernel
theorem dX3_nextCharge_11 : decode cX3_nextCharge 11 = .ok (.dup, 1) := by decide +kernel
theorem dX3_nextCharge_12 : decode cX3_nextCharge 12 = .ok (.getfield 24, 3) := by decide +kernel
theorem dX3_nextCharge_15 : decode cX3_nextCharge 15 = .ok (.iload_n 2, 1) := by decide +kernel
theorem dX3_nextCharge_16 : decode cX3_nextCharge 16 = .ok (.i2l, 1) := by decide +kernel
theorem dX3_nextCharge_17 : decode cX3_nextCharge 17 = .ok (.ladd, 1) := by decide +kernel
theorem dX3_nextCharge_18 : decode cX3_nextCharge 18 = .ok (.putfield 24, 3) := by decide +kernel
theorem dX3_nextCharge_21 : decode cX3_nextCharge 21 = .ok (.aload_n 0, 1) := by decide +kernel
theorem dX3_nextCharge_22 : decode cX3_nextCharge 22 = .ok (.getfield 27, 3) := by decide +kernel
theorem dX3_nextCharge_25 : decode cX3_nextCharge 25 = .ok (.lstore_n 3, 1) := by decide +kernel
theorem dX3_nextCharge_26 : decode cX3_nextCharge 26 = .ok (.aload_n 0, 1) := by decide +kernel
theorem dX3_nextCharge_27 : decode cX3_nextCharge 27 = .ok (.aload_n 0, 1) := by decide +kernel
theorem dX3_nextCharge_28 : decode cX3_nextCharge 28 = .ok (.iload_n 1, 1) := by decide +kernel
theorem dX3_nextCharge_29 : decode cX3_nextCharge 29 = .ok (.invokevirtual 30, 3) := by decide +kernel
theorem dX3_nextCharge_32 : decode cX3_nextCharge 32 = .ok (.putfield 27, 3) := by decide +kernel
theorem dX3_nextCharge_35 : decode cX3_nextCharge 35 = .ok (.aload_n 0, 1) := by decide +kernel
theorem dX3_nextCharge_36 : decode cX3_nextCharge 36 = .ok (.getfield 27, 3) := by decide +kernel
theorem dX3_nextCharge_39 : decode cX3_nextCharge 39 = .ok (.lload_n 3, 1) := by decide +kernel
theorem dX3_nextCharge_40 : decode cX3_nextCharge 40 = .ok (.lsub, 1) := by decide +kernel
theorem dX3_nextCharge_41 : decode cX3_nextCharge 41 = .ok (.lreturn, 1) := by decide +kernel
set_option maxRecDepth 20000 in
theorem ggX3_chargesTogether_X4_rounded : GoodIn wsX3_chargesTogether wsX4_rounded := goodIn_r _ [12, 13] (by decide +kernel) (by decide +kernel)
set_option maxRecDepth 20000 in
theorem gX3_chargesTogether_X4_rounded_n34 : GoodIn wsX3_chargesTogether (wsX4_rounded) := ggX3_chargesTogether_X4_rounded
set_option maxRecDepth 20000 in
theorem ggX3_chargesTogether_X3_sumUpTo : GoodIn wsX3_chargesTogether wsX3_sumUpTo := goodIn_r _ [17, 18] (by decide +kernel) (by decide +kernel)
set_option maxRecDepth 20000 in
theorem gX3_chargesTogether_X3_sumUpTo : GoodIn wsX3_chargesTogether (va_wsS RX3 38 yX3_sumUpTo wsX3_sumUpTo) := goodIn_app (goodIn_of _ (by decide +kernel)) ggX3_chargesTogether_X3_sumUpTo
theorem dX3_chargesTogether_0 : decode cX3_chargesTogether 0 = .ok (.iload_n 1, 1) := by decide +kernel
theorem dX3_chargesTogether_1 : decode cX3_chargesTogether 1 = .ok (.lookupswitch 80 #[(0, 27), (2, 44)], 27) := by decide +kernel
theorem dX3_chargesTogether_28 : decode cX3_chargesTogether 28 = .ok (.aload_n 0, 1) := by decide +kernel
theorem dX3_chargesTogether_29 : decode cX3_chargesTogether 29 = .ok (.getfield 9, 3) := by decide +kernel
theorem dX3_chargesTogether_32 : decode cX3_chargesTogether 32 = .ok (.aload_n 0, 1) := by decide +kernel
theorem dX3_chargesTogether_33 : decode cX3_chargesTogether 33 = .ok (.getfield 21, 3) := by decide +kernel
theorem dX3_chargesTogether_36 : decode cX3_chargesTogether 36 = .ok (.lmul, 1) := by decide +kernel
theorem dX3_chargesTogether_37 : decode cX3_chargesTogether 37 = .ok (.aload_n 0, 1) := by decide +kernel
theorem dX3_chargesTogether_38 : decode cX3_chargesTogether 38 = .ok (.getfield 15, 3) := by decide +kernel
theorem dX3_chargesTogether_41 : decode cX3_chargesTogether 41 = .ok (.invokestatic 34, 3) := by decide +kernel
theorem dX3_chargesTogether_44 : decode cX3_chargesTogether 44 = .ok (.lreturn, 1) := by decide +kernel
theorem dX3_chargesTogether_45 : decode cX3_chargesTogether 45 = .ok (.aload_n 0, 1) := by decide +kernel
theorem dX3_chargesTogether_46 : decode cX3_chargesTogether 46 = .ok (.getfield 9, 3) := by decide +kernel
theorem dX3_chargesTogether_49 : decode cX3_chargesTogether 49 = .ok (.aload_n 0, 1) := by decide +kernel
theorem dX3_chargesTogether_50 : decode cX3_chargesTogether 50 = .ok (.getfield 15, 3) := by decide +kernel
theorem dX3_chargesTogether_53 : decode cX3_chargesTogether 53 = .ok (.invokestatic 38, 3) := by decide +kernel
theorem dX3_chargesTogether_56 : decode cX3_chargesTogether 56 = .ok (.aload_n 0, 1) := by decide +kernel
theorem dX3_chargesTogether_57 : decode cX3_chargesTogether 57 = .ok (.getfield 15, 3) := by decide +kernel
theorem dX3_chargesTogether_60 : decode cX3_chargesTogether 60 = .ok (.aload_n 0, 1) := by decide +kernel
theorem dX3_chargesTogether_61 : decode cX3_chargesTogether 61 = .ok (.getfield 21, 3) := by decide +kernel
theorem dX3_chargesTogether_64 : decode cX3_chargesTogether 64 = .ok (.lsub, 1) := by decide +kernel
theorem dX3_chargesTogether_65 : decode cX3_chargesTogether 65 = .ok (.invokestatic 38, 3) := by decide +kernel
theorem dX3_chargesTogether_68 : decode cX3_chargesTogether 68 = .ok (.lsub, 1) := by decide +kernel
theorem dX3_chargesTogether_69 : decode cX3_chargesTogether 69 = .ok (.lmul, 1) := by decide +kernel
theorem dX3_chargesTogether_70 : decode cX3_chargesTogether 70 = .ok (.aload_n 0, 1) := by decide +kernel
theorem dX3_chargesTogether_71 : decode cX3_chargesTogether 71 = .ok (.getfield 15, 3) := by decide +kernel
theorem dX3_chargesTogether_74 : decode cX3_chargesTogether 74 = .ok (.invokestatic 38, 3) := by decide +kernel
theorem dX3_chargesTogether_77 : decode cX3_chargesTogether 77 = .ok (.invokestatic 34, 3) := by decide +kernel
theorem dX3_chargesTogether_80 : decode cX3_chargesTogether 80 = .ok (.lreturn, 1) := by decide +kernel
theorem dX3_chargesTogether_81 : decode cX3_chargesTogether 81 = .ok (.aload_n 0, 1) := by decide +kernel
theorem dX3_chargesTogether_82 : decode cX3_chargesTogether 82 = .ok (.getfield 18, 3) := by decide +kernel
theorem dX3_chargesTogether_85 : decode cX3_chargesTogether 85 = .ok (.lconst 0, 1) := by decide +kernel
theorem dX3_chargesTogether_86 : decode cX3_chargesTogether 86 = .ok (.lcmp, 1) := by decide +kernel
theorem dX3_chargesTogether_87 : decode cX3_chargesTogether 87 = .ok (.ifCond .ne 10, 3) := by decide +kernel
theorem dX3_chargesTogether_90 : decode cX3_chargesTogether 90 = .ok (.aload_n 0, 1) := by decide +kernel
theorem dX3_chargesTogether_91 : decode cX3_chargesTogether 91 = .ok (.getfield 9, 3) := by decide +kernel
theorem dX3_chargesTogether_94 : decode cX3_chargesTogether 94 = .ok (.goto 26, 3) := by decide +kernel
theorem dX3_chargesTogether_97 : decode cX3_chargesTogether 97 = .ok (.aload_n 0, 1) := by decide +kernel
theorem dX3_chargesTogether_98 : decode cX3_chargesTogether 98 = .ok (.getfield 9, 3) := by decide +kernel
theorem dX3_chargesTogether_101 : decode cX3_chargesTogether 101 = .ok (.aload_n 0, 1) := by decide +kernel
theorem dX3_chargesTogether_102 : decode cX3_chargesTogether 102 = .ok (.getfield 24, 3) := by decide +kernel
theorem dX3_chargesTogether_105 : decode cX3_chargesTogether 105 = .ok (.aload_n 0, 1) := by decide +kernel
theorem dX3_chargesTogether_106 : decode cX3_chargesTogether 106 = .ok (.getfield 18, 3) := by decide +kernel
theorem dX3_chargesTogether_109 : decode cX3_chargesTogether 109 = .ok (.invokestatic 42, 3) := by decide +kernel
theorem dX3_chargesTogether_112 : decode cX3_chargesTogether 112 = .ok (.lmul, 1) := by decide +kernel
theorem dX3_chargesTogether_113 : decode cX3_chargesTogether 113 = .ok (.aload_n 0, 1) := by decide +kernel
theorem dX3_chargesTogether_114 : decode cX3_chargesTogether 114 = .ok (.getfield 18, 3) := by decide +kernel
theorem dX3_chargesTogether_117 : decode cX3_chargesTogether 117 = .ok (.invokestatic 34, 3) := by decide +kernel
theorem dX3_chargesTogether_120 : decode cX3_chargesTogether 120 = .ok (.lreturn, 1) := by decide +kernel
theorem dX3_sumUpTo_0 : decode cX3_sumUpTo 0 = .ok (.lload_n 0, 1) := by decide +kernel
theorem dX3_sumUpTo_1 : decode cX3_sumUpTo 1 = .ok (.lload_n 0, 1) := by decide +kernel
theorem dX3_sumUpTo_2 : decode cX3_sumUpTo 2 = .ok (.lconst 1, 1) := by decide +kernel
theorem dX3_sumUpTo_3 : decode cX3_sumUpTo 3 = .ok (.ladd, 1) := by decide +kernel
theorem dX3_sumUpTo_4 : decode cX3_sumUpTo 4 = .ok (.lmul, 1) := by decide +kernel
theorem dX3_sumUpTo_5 : decode cX3_sumUpTo 5 = .ok (.ldc2_w 47, 3) := by decide +kernel
theorem dX3_sumUpTo_8 : decode cX3_sumUpTo 8 = .ok (.ldiv, 1) := by decide +kernel
theorem dX3_sumUpTo_9 : decode cX3_sumUpTo 9 = .ok (.lreturn, 1) := by decide +kernel
set_option maxRecDepth 20000 in
theorem ggX4_init_X0_init : GoodIn wsX4_init wsX0_init := goodIn_r _ [15, 16, 2, 3, 17, 18, 19, 20, 21, 22, 23, 46, 47, 48, 49, 50, 51, 31, 32, 33, 34, 35, 36, 37, 38, 39, 40, 41, 42, 43, 44, 45] (by decide +kernel) (by decide +kernel)
set_option maxRecDepth 20000 in
theorem gX4_init_X0_init : GoodIn wsX4_init (wsX0_init) := ggX4_init_X0_init
theorem dX4_init_0 : decode cX4_init 0 = .ok (.aload_n 0, 1) := by decide +kernel
theorem dX4_init_1 : decode cX4_init 1 = .ok (.invokespecial 1, 3) := by decide +kernel
theorem dX4_init_4 : decode cX4_init 4 = .ok (.aload_n 0, 1) := by decide +kernel
theorem dX4_init_5 : decode cX4_init 5 = .ok (.bipush 6, 2) := by decide +kernel
theorem dX4_init_7 : decode cX4_init 7 = .ok (.anewarray 9, 3) := by decide +kernel
theorem dX4_init_10 : decode cX4_init 10 = .ok (.putfield 11, 3) := by decide +kernel
theorem dX4_init_13 : decode cX4_init 13 = .ok (.aload_n 0, 1) := by decide +kernel
theorem dX4_init_14 : decode cX4_init 14 = .ok (.bipush 40, 2) := by decide +kernel
theorem dX4_init_16 : decode cX4_init 16 = .ok (.anewarray 15, 3) := by decide +kernel
theorem dX4_init_19 : decode cX4_init 19 = .ok (.putfield 17, 3) := by decide +kernel
theorem dX4_init_22 : decode cX4_init 22 = .ok (.aload_n 0, 1) := by decide +kernel
theorem dX4_init_23 : decode cX4_init 23 = .ok (.new 21, 3) := by decide +kernel
theorem dX4_init_26 : decode cX4_init 26 = .ok (.dup, 1) := by decide +kernel
theorem dX4_init_27 : decode cX4_init 27 = .ok (.invokespecial 23, 3) := by decide +kernel
theorem dX4_init_30 : decode cX4_init 30 = .ok (.putfield 24, 3) := by decide +kernel
theorem dX4_init_33 : decode cX4_init 33 = .ok (.aload_n 0, 1) := by decide +kernel
theorem dX4_init_34 : decode cX4_init 34 = .ok (.new 21, 3) := by decide +kernel
theorem dX4_init_37 : decode cX4_init 37 = .ok (.dup, 1) := by decide +kernel
theorem dX4_init_38 : decode cX4_init 38 = .ok (.invokespecial 23, 3) := by decide +kernel
theorem dX4_init_41 : decode cX4_init 41 = .ok (.putfield 28, 3) := by decide +kernel
theorem dX4_init_44 : decode cX4_init 44 = .ok (.return_, 1) := by decide +kernel
set_option maxRecDepth 20000 in
theorem ggX4_part_X4_isWithin : GoodIn wsX4_part wsX4_isWithin := goodIn_r _ [15] (by decide +kernel) (by decide +kernel)
set_option maxRecDepth 20000 in
theorem gX4_part_X4_isWithin : GoodIn wsX4_part (va_wsS RX4 33 yX4_isWithin wsX4_isWithin) := goodIn_app (goodIn_of _ (by decide +kernel)) ggX4_part_X4_isWithin
set_option maxRecDepth 20000 in
theorem ggX4_part_X4_isMonth : GoodIn wsX4_part wsX4_isMonth := goodIn_r _ [18] (by decide +kernel) (by decide +kernel)
set_option maxRecDepth 20000 in
theorem gX4_part_X4_isMonth : GoodIn wsX4_part (va_wsS RX4 37 yX4_isMonth wsX4_isMonth) := goodIn_app (goodIn_of _ (by decide +kernel)) ggX4_part_X4_isMonth
set_option maxRecDepth 20000 in
theorem ggX4_part_X4_isRateOf : GoodIn wsX4_part wsX4_isRateOf := goodIn_r _ [21, 22, 12, 13, 14, 15] (by decide +kernel) (by decide +kernel)
set_option maxRecDepth 20000 in
theorem gX4_part_X4_isRateOf : GoodIn wsX4_part (va_wsS RX4 43 yX4_isRateOf wsX4_isRateOf) := goodIn_app (goodIn_of _ (by decide +kernel)) ggX4_part_X4_isRateOf
set_option maxRecDepth 20000 in
theorem ggX4_part_X2_init : GoodIn wsX4_part wsX2_init := goodIn_r _ [25, 26, 27, 28, 29, 30, 31, 32, 33, 34, 35, 36, 37, 38, 39, 40, 48, 49, 50, 51, 52, 53, 54, 55, 56, 57, 58] (by decide +kernel) (by decide +kernel)
set_option maxRecDepth 20000 in
theorem gX4_part_X2_init : GoodIn wsX4_part (wsX2_init) := ggX4_part_X2_init
theorem dX4_part_0 : decode cX4_part 0 = .ok (.lload_n 1, 1) := by decide +kernel
theorem dX4_part_1 : decode cX4_part 1 = .ok (.lconst 1, 1) := by decide +kernel
theorem dX4_part_2 : decode cX4_part 2 = .ok (.ldc2_w 31, 3) := by decide +kernel
theorem dX4_part_5 : decode cX4_part 5 = .ok (.invokestatic 33, 3) := by decide +kernel
theorem dX4_part_8 : decode cX4_part 8 = .ok (.ifCond .eq 16, 3) := by decide +kernel
theorem dX4_part_11 : decode cX4_part 11 = .ok (.lload_n 3, 1) := by decide +kernel
theorem dX4_part_12 : decode cX4_part 12 = .ok (.lconst 0, 1) := by decide +kernel
theorem dX4_part_13 : decode cX4_part 13 = .ok (.lload_n 1, 1) := by decide +kernel
theorem dX4_part_14 : decode cX4_part 14 = .ok (.invokestatic 33, 3) := by decide +kernel
theorem dX4_part_17 : decode cX4_part 17 = .ok (.ifCond .eq 7, 3) := by decide +kernel
theorem dX4_part_20 : decode cX4_part 20 = .ok (.iconst 1, 1) := by decide +kernel
theorem dX4_part_21 : decode cX4_part 21 = .ok (.goto 4, 3) := by decide +kernel
theorem dX4_part_24 : decode cX4_part 24 = .ok (.iconst 0, 1) := by decide +kernel
theorem dX4_part_25 : decode cX4_part 25 = .ok (.istore 9, 2) := by decide +kernel
theorem dX4_part_27 : decode cX4_part 27 = .ok (.iload 5, 2) := by decide +kernel
theorem dX4_part_29 : decode cX4_part 29 = .ok (.invokestatic 37, 3) := by decide +kernel
theorem dX4_part_32 : decode cX4_part 32 = .ok (.ifCond .eq 20, 3) := by decide +kernel
theorem dX4_part_35 : decode cX4_part 35 = .ok (.iload 6, 2) := by decide +kernel
theorem dX4_part_37 : decode cX4_part 37 = .ok (.i2l, 1) := by decide +kernel
theorem dX4_part_38 : decode cX4_part 38 = .ok (.lconst 1, 1) := by decide +kernel
theorem dX4_part_39 : decode cX4_part 39 = .ok (.ldc2_w 41, 3) := by decide +kernel
theorem dX4_part_42 : decode cX4_part 42 = .ok (.invokestatic 33, 3) := by decide +kernel
theorem dX4_part_45 : decode cX4_part 45 = .ok (.ifCond .eq 7, 3) := by decide +kernel
theorem dX4_part_48 : decode cX4_part 48 = .ok (.iconst 1, 1) := by decide +kernel
theorem dX4_part_49 : decode cX4_part 49 = .ok (.goto 4, 3) := by decide +kernel
theorem dX4_part_52 : decode cX4_part 52 = .ok (.iconst 0, 1) := by decide +kernel
theorem dX4_part_53 : decode cX4_part 53 = .ok (.istore 10, 2) := by decide +kernel
theorem dX4_part_55 : decode cX4_part 55 = .ok (.iload 9, 2) := by decide +kernel
theorem dX4_part_57 : decode cX4_part 57 = .ok (.ifCond .eq 18, 3) := by decide +kernel
theorem dX4_part_60 : decode cX4_part 60 = .ok (.iload 10, 2) := by decide +kernel
theorem dX4_part_62 : decode cX4_part 62 = .ok (.ifCond .eq 13, 3) := by decide +kernel
theorem dX4_part_65 : decode cX4_part 65 = .ok (.iload 7, 2) := by decide +kernel
theorem dX4_part_67 : decode cX4_part 67 = .ok (.iload 8, 2) := by decide +kernel
theorem dX4_part_69 : decode cX4_part 69 = .ok (.invokestatic 43, 3) := by decide +kernel
theorem dX4_part_72 : decode cX4_part 72 = .ok (.ifCond .ne 13, 3) := by decide +kernel
theorem dX4_part_75 : decode cX4_part 75 = .ok (.new 47, 3) := by decide +kernel
theorem dX4_part_78 : decode cX4_part 78 = .ok (.dup, 1) := by decide +kernel
theorem dX4_part_79 : decode cX4_part 79 = .ok (.ldc 49, 2) := by decide +kernel
theorem dX4_part_81 : decode cX4_part 81 = .ok (.invokespecial 51, 3) := by decide +kernel
theorem dX4_part_84 : decode cX4_part 84 = .ok (.athrow, 1) := by decide +kernel
theorem dX4_part_85 : decode cX4_part 85 = .ok (.aload_n 0, 1) := by decide +kernel
theorem dX4_part_86 : decode cX4_part 86 = .ok (.getfield 54, 3) := by decide +kernel
theorem dX4_part_89 : decode cX4_part 89 = .ok (.bipush 6, 2) := by decide +kernel
theorem dX4_part_91 : decode cX4_part 91 = .ok (.if_icmp .lt 13, 3) := by decide +kernel
theorem dX4_part_94 : decode cX4_part 94 = .ok (.new 58, 3) := by decide +kernel
theorem dX4_part_97 : decode cX4_part 97 = .ok (.dup, 1) := by decide +kernel
theorem dX4_part_98 : decode cX4_part 98 = .ok (.ldc 60, 2) := by decide +kernel
theorem dX4_part_100 : decode cX4_part 100 = .ok (.invokespecial 62, 3) := by decide +kernel
theorem dX4_part_103 : decode cX4_part 103 = .ok (.athrow, 1) := by decide +kernel
theorem dX4_part_104 : decode cX4_part 104 = .ok (.aload_n 0, 1) := by decide +kernel
theorem dX4_part_105 : decode cX4_part 105 = .ok (.getfield 11, 3) := by decide +kernel
theorem dX4_part_108 : decode cX4_part 108 = .ok (.aload_n 0, 1) := by decide +kernel
theorem dX4_part_109 : decode cX4_part 109 = .ok (.getfield 54, 3) := by decide +kernel
theorem dX4_part_112 : decode cX4_part 112 = .ok (.new 9, 3) := by decide +kernel
theorem dX4_part_115 : decode cX4_part 115 = .ok (.dup, 1) := by decide +kernel
theorem dX4_part_116 : decode cX4_part 116 = .ok (.lload_n 1, 1) := by decide +kernel
theorem dX4_part_117 : decode cX4_part 117 = .ok (.lload_n 3, 1) := by decide +kernel
theorem dX4_part_118 : decode cX4_part 118 = .ok (.iload 5, 2) := by decide +kernel
theorem dX4_part_120 : decode cX4_part 120 = .ok (.iload 6, 2) := by decide +kernel
theorem dX4_part_122 : decode cX4_part 122 = .ok (.iload 7, 2) := by decide +kernel
theorem dX4_part_124 : decode cX4_part 124 = .ok (.iload 8, 2) := by decide +kernel
theorem dX4_part_126 : decode cX4_part 126 = .ok (.invokespecial 63, 3) := by decide +kernel
theorem dX4_part_129 : decode cX4_part 129 = .ok (.aastore, 1) := by decide +kernel
theorem dX4_part_130 : decode cX4_part 130 = .ok (.aload_n 0, 1) := by decide +kernel
theorem dX4_part_131 : decode cX4_part 131 = .ok (.dup, 1) := by decide +kernel
theorem dX4_part_132 : decode cX4_part 132 = .ok (.getfield 54, 3) := by decide +kernel
theorem dX4_part_135 : decode cX4_part 135 = .ok (.iconst 1, 1) := by decide +kernel
theorem dX4_part_136 : decode cX4_part 136 = .ok (.iadd, 1) := by decide +kernel
theorem dX4_part_137 : decode cX4_part 137 = .ok (.putfield 54, 3) := by decide +kernel
theorem dX4_part_140 : decode cX4_part 140 = .ok (.aload_n 0, 1) := by decide +kernel
theorem dX4_part_141 : decode cX4_part 141 = .ok (.getfield 54, 3) := by decide +kernel
theorem dX4_part_144 : decode cX4_part 144 = .ok (.iconst 1, 1) := by decide +kernel
theorem dX4_part_145 : decode cX4_part 145 = .ok (.isub, 1) := by decide +kernel
theorem dX4_part_146 : decode cX4_part 146 = .ok (.ireturn, 1) := by decide +kernel
set_option maxRecDepth 20000 in
theorem ggX4_units_X4_partOf : GoodIn wsX4_units wsX4_partOf := goodIn_r _ [11, 12, 13, 162, 163, 164, 165, 166, 167, 168] (by decide +kernel) (by decide +kernel)
set_option maxRecDepth 20000 in
theorem gX4_units_X4_partOf : GoodIn wsX4_units (wsV RX4 66 RX4 yX4_partOf wsX4_partOf) := goodIn_app (goodIn_of _ (by decide +kernel)) ggX4_units_X4_partOf
set_option maxRecDepth 20000 in
theorem ggX4_units_X4_isMonth : GoodIn wsX4_units wsX4_isMonth := goodIn_r _ [16] (by decide +kernel) (by decide +kernel)
set_option maxRecDepth 20000 in
theorem gX4_units_X4_isMonth : GoodIn wsX4_units (va_wsS RX4 37 yX4_isMonth wsX4_isMonth) := goodIn_app (goodIn_of _ (by decide +kernel)) ggX4_units_X4_isMonth
set_option maxRecDepth 20000 in
theorem ggX4_units_X4_isWithin : GoodIn wsX4_units wsX4_isWithin := goodIn_r _ [19] (by decide +kernel) (by decide +kernel)
set_option maxRecDepth 20000 in
theorem gX4_units_X4_isWithin : GoodIn wsX4_units (va_wsS RX4 33 yX4_isWithin wsX4_isWithin) := goodIn_app (goodIn_of _ (by decide +kernel)) ggX4_units_X4_isWithin
set_option maxRecDepth 20000 in
theorem ggX4_units_X4_hasBreach : GoodIn wsX4_units wsX4_hasBreach := goodIn_r _ [23, 24, 25, 26, 27, 10, 28, 29, 30, 31, 32, 33, 6, 34, 35, 36, 37, 38, 39, 40, 41, 42, 43, 44, 45, 46, 47, 48, 49, 50, 51, 52, 53, 54, 55, 56, 57, 58, 59, 60, 61, 62, 63, 64, 65, 66, 67, 68, 69, 70, 71, 72, 73, 74, 75, 76, 77, 78, 79, 80, 81, 82, 83, 84, 85, 86, 87, 88, 89, 90, 91, 92, 93, 94, 95, 96, 97, 98, 99, 100, 101, 102, 103, 104, 105, 106, 107, 108, 109, 110, 111, 112, 113, 114, 115, 116, 117, 118, 119, 120, 121, 122, 123, 124, 125, 126, 127, 128, 129, 130, 131, 132, 133, 134, 135, 136, 137, 138, 139, 140, 141, 142, 143, 144, 145, 146, 147, 148, 149, 150, 162, 163, 164, 165, 166, 167, 168, 169, 170, 171, 172, 173, 174, 175, 176, 177, 178, 179, 180, 181, 182, 183, 151, 152, 153, 154, 155, 156, 157, 158, 159, 160, 161, 184, 185, 186, 187, 188, 189, 190, 191, 192, 193, 194] (by decide +kernel) (by decide +kernel)
set_option maxRecDepth 20000 in
theorem gX4_units_X4_hasBreach : GoodIn wsX4_units (wsV RX4 78 RX4 yX4_hasBreach wsX4_hasBreach) := goodIn_app (goodIn_of _ (by decide +kernel)) ggX4_units_X4_hasBreach
theorem dX4_units_0 : decode cX4_units 0 = .ok (.aload_n 0, 1) := by decide +kernel
theorem dX4_units_1 : decode cX4_units 1 = .ok (.iload_n 1, 1) := by decide +kernel
theorem dX4_units_2 : decode cX4_units 2 = .ok (.invokevirtual 66, 3) := by decide +kernel
theorem dX4_units_5 : decode cX4_units 5 = .ok (.astore 4, 2) := by decide +kernel
theorem dX4_units_7 : decode cX4_units 7 = .ok (.aload 4, 2) := by decide +kernel
theorem dX4_units_9 : decode cX4_units 9 = .ok (.ifnull 22, 3) := by decide +kernel
theorem dX4_units_12 : decode cX4_units 12 = .ok (.iload_n 2, 1) := by decide +kernel
theorem dX4_units_13 : decode cX4_units 13 = .ok (.invokestatic 37, 3) := by decide +kernel
theorem dX4_units_16 : decode cX4_units 16 = .ok (.ifCond .eq 15, 3) := by decide +kernel
theorem dX4_units_19 : decode cX4_units 19 = .ok (.iload_n 3, 1) := by decide +kernel
theorem dX4_units_20 : decode cX4_units 20 = .ok (.i2l, 1) := by decide +kernel
theorem dX4_units_21 : decode cX4_units 21 = .ok (.lconst 0, 1) := by decide +kernel
theorem dX4_units_22 : decode cX4_units 22 = .ok (.ldc2_w 70, 3) := by decide +kernel
theorem dX4_units_25 : decode cX4_units 25 = .ok (.invokestatic 33, 3) := by decide +kernel
theorem dX4_units_28 : decode cX4_units 28 = .ok (.ifCond .ne 13, 3) := by decide +kernel
theorem dX4_units_31 : decode cX4_units 31 = .ok (.new 47, 3) := by decide +kernel
theorem dX4_units_34 : decode cX4_units 34 = .ok (.dup, 1) := by decide +kernel
theorem dX4_units_35 : decode cX4_units 35 = .ok (.ldc 72, 2) := by decide +kernel
theorem dX4_units_37 : decode cX4_units 37 = .ok (.invokespecial 51, 3) := by decide +kernel
theorem dX4_units_40 : decode cX4_units 40 = .ok (.athrow, 1) := by decide +kernel
theorem dX4_units_41 : decode cX4_units 41 = .ok (.aload 4, 2) := by decide +kernel
theorem dX4_units_43 : decode cX4_units 43 = .ok (.getfield 74, 3) := by decide +kernel
theorem dX4_units_46 : decode cX4_units 46 = .ok (.iload_n 2, 1) := by decide +kernel
theorem dX4_units_47 : decode cX4_units 47 = .ok (.iaload, 1) := by decide +kernel
theorem dX4_units_48 : decode cX4_units 48 = .ok (.istore 5, 2) := by decide +kernel
theorem dX4_units_50 : decode cX4_units 50 = .ok (.aload 4, 2) := by decide +kernel
theorem dX4_units_52 : decode cX4_units 52 = .ok (.getfield 74, 3) := by decide +kernel
theorem dX4_units_55 : decode cX4_units 55 = .ok (.iload_n 2, 1) := by decide +kernel
theorem dX4_units_56 : decode cX4_units 56 = .ok (.iload_n 3, 1) := by decide +kernel
theorem dX4_units_57 : decode cX4_units 57 = .ok (.iastore, 1) := by decide +kernel
theorem dX4_units_58 : decode cX4_units 58 = .ok (.aload_n 0, 1) := by decide +kernel
theorem dX4_units_59 : decode cX4_units 59 = .ok (.aload 4, 2) := by decide +kernel
theorem dX4_units_61 : decode cX4_units 61 = .ok (.invokevirtual 78, 3) := by decide +kernel
theorem dX4_units_64 : decode cX4_units 64 = .ok (.ifCond .eq 22, 3) := by decide +kernel
theorem dX4_units_67 : decode cX4_units 67 = .ok (.aload 4, 2) := by decide +kernel
theorem dX4_units_69 : decode cX4_units 69 = .ok (.getfield 74, 3) := by decide +kernel
theorem dX4_units_72 : decode cX4_units 72 = .ok (.iload_n 2, 1) := by decide +kernel
theorem dX4_units_73 : decode cX4_units 73 = .ok (.iload 5, 2) := by decide +kernel
theorem dX4_units_75 : decode cX4_units 75 = .ok (.iastore, 1) := by decide +kernel
theorem dX4_units_76 : decode cX4_units 76 = .ok (.new 58, 3) := by decide +kernel
theorem dX4_units_79 : decode cX4_units 79 = .ok (.dup, 1) := by decide +kernel
theorem dX4_units_80 : decode cX4_units 80 = .ok (.ldc 82, 2) := by decide +kernel
theorem dX4_units_82 : decode cX4_units 82 = .ok (.invokespecial 62, 3) := by decide +kernel
theorem dX4_units_85 : decode cX4_units 85 = .ok (.athrow, 1) := by decide +kernel
theorem dX4_units_86 : decode cX4_units 86 = .ok (.iload 5, 2) := by decide +kernel
theorem dX4_units_88 : decode cX4_units 88 = .ok (.ireturn, 1) := by decide +kernel
set_option maxRecDepth 20000 in
theorem ggX4_event_X4_partOf : GoodIn wsX4_event wsX4_partOf := goodIn_r _ [17, 18, 19, 184, 185, 186, 187, 188, 189, 190] (by decide +kernel) (by decide +kernel)
set_option maxRecDepth 20000 in
theorem gX4_event_X4_partOf : GoodIn wsX4_event (wsV RX4 66 RX4 yX4_partOf wsX4_partOf) := goodIn_app (goodIn_of _ (by decide +kernel)) ggX4_event_X4_partOf
set_option maxRecDepth 20000 in
theorem ggX4_event_X4_isMonth : GoodIn wsX4_event wsX4_isMonth := goodIn_r _ [22] (by decide +kernel) (by decide +kernel)
set_option maxRecDepth 20000 in
theorem gX4_event_X4_isMonth : GoodIn wsX4_event (va_wsS RX4 37 yX4_isMonth wsX4_isMonth) := goodIn_app (goodIn_of _ (by decide +kernel)) ggX4_event_X4_isMonth
set_option maxRecDepth 20000 in
theorem ggX4_event_X4_isEvent : GoodIn wsX4_event wsX4_isEvent := goodIn_r _ [25, 26, 27, 28, 29, 30, 16, 31] (by decide +kernel) (by decide +kernel)
set_option maxRecDepth 20000 in
theorem gX4_event_X4_isEvent : GoodIn wsX4_event (va_wsS RX4 87 yX4_isEvent wsX4_isEvent) := goodIn_app (goodIn_of _ (by decide +kernel)) ggX4_event_X4_isEvent
set_option maxRecDepth 20000 in
theorem ggX4_event_X1_init : GoodIn wsX4_event wsX1_init := goodIn_r _ [34, 35, 36, 37, 38, 39, 40, 41, 42, 191, 192, 193, 194, 195] (by decide +kernel) (by decide +kernel)
set_option maxRecDepth 20000 in
theorem gX4_event_X1_init : GoodIn wsX4_event (wsX1_init) := ggX4_event_X1_init
set_option maxRecDepth 20000 in
theorem ggX4_event_X4_hasBreach : GoodIn wsX4_event wsX4_hasBreach := goodIn_r _ [46, 47, 48, 49, 50, 16, 51, 52, 5, 6, 53, 54, 55, 56, 57, 58, 59, 60, 61, 62, 63, 64, 65, 66, 67, 68, 69, 70, 71, 72, 73, 74, 75, 76, 77, 78, 79, 80, 81, 82, 83, 84, 85, 86, 87, 88, 89, 90, 91, 92, 93, 94, 95, 96, 97, 98, 99, 100, 101, 102, 103, 104, 105, 106, 107, 108, 109, 110, 111, 112, 113, 114, 115, 116, 117, 118, 119, 120, 121, 122, 123, 124, 125, 126, 127, 128, 129, 130, 131, 132, 133, 134, 135, 136, 137, 138, 139, 140, 141, 142, 143, 144, 145, 146, 147, 148, 149, 150, 151, 152, 153, 154, 155, 156, 157, 158, 159, 160, 161, 162, 163, 164, 165, 166, 167, 168, 169, 170, 171, 172, 184, 185, 186, 187, 188, 189, 190, 196, 197, 198, 199, 200, 201, 202, 203, 204, 205, 206, 207, 208, 209, 210, 173, 174, 175, 176, 177, 178, 179, 180, 181, 182, 183, 191, 192, 193, 194, 195, 211, 212, 213, 214, 215, 216] (by decide +kernel) (by decide +kernel)
set_option maxRecDepth 20000 in
theorem gX4_event_X4_hasBreach : GoodIn wsX4_event (wsV RX4 78 RX4 yX4_hasBreach wsX4_hasBreach) := goodIn_app (goodIn_of _ (by decide +kernel)) ggX4_event_X4_hasBreach
theorem dX4_event_0 : decode cX4_event 0 = .ok (.aload_n 0, 1) := by decide +kernel
theorem dX4_event_1 : decode cX4_event 1 = .ok (.iload_n 1, 1) := by decide +kernel
theorem dX4_event_2 : decode cX4_event 2 = .ok (.invokevirtual 66, 3) := by decide +kernel
theorem dX4_event_5 : decode cX4_event 5 = .ok (.astore 7, 2) := by decide +kernel
theorem dX4_event_7 : decode cX4_event 7 = .ok (.aload 7, 2) := by decide +kernel
theorem dX4_event_9 : decode cX4_event 9 = .ok (.ifnull 30, 3) := by decide +kernel
theorem dX4_event_12 : decode cX4_event 12 = .ok (.iload_n 2, 1) := by decide +kernel
theorem dX4_event_13 : decode cX4_event 13 = .ok (.invokestatic 37, 3) := by decide +kernel
theorem dX4_event_16 : decode cX4_event 16 = .ok (.ifCond .eq 23, 3) := by decide +kernel
theorem dX4_event_19 : decode cX4_event 19 = .ok (.iload_n 2, 1) := by decide +kernel
theorem dX4_event_20 : decode cX4_event 20 = .ok (.aload 7, 2) := by decide +kernel
theorem dX4_event_22 : decode cX4_event 22 = .ok (.getfield 84, 3) := by decide +kernel
theorem dX4_event_25 : decode cX4_event 25 = .ok (.if_icmp .lt 14, 3) := by decide +kernel
theorem dX4_event_28 : decode cX4_event 28 = .ok (.iload_n 3, 1) := by decide +kernel
theorem dX4_event_29 : decode cX4_event 29 = .ok (.lload 4, 2) := by decide +kernel
theorem dX4_event_31 : decode cX4_event 31 = .ok (.iload 6, 2) := by decide +kernel
theorem dX4_event_33 : decode cX4_event 33 = .ok (.invokestatic 87, 3) := by decide +kernel
theorem dX4_event_36 : decode cX4_event 36 = .ok (.ifCond .ne 13, 3) := by decide +kernel
theorem dX4_event_39 : decode cX4_event 39 = .ok (.new 47, 3) := by decide +kernel
theorem dX4_event_42 : decode cX4_event 42 = .ok (.dup, 1) := by decide +kernel
theorem dX4_event_43 : decode cX4_event 43 = .ok (.ldc 91, 2) := by decide +kernel
theorem dX4_event_45 : decode cX4_event 45 = .ok (.invokespecial 51, 3) := by decide +kernel
theorem dX4_event_48 : decode cX4_event 48 = .ok (.athrow, 1) := by decide +kernel
theorem dX4_event_49 : decode cX4_event 49 = .ok (.aload 7, 2) := by decide +kernel
theorem dX4_event_51 : decode cX4_event 51 = .ok (.getfield 93, 3) := by decide +kernel
theorem dX4_event_54 : decode cX4_event 54 = .ok (.iload_n 2, 1) := by decide +kernel
theorem dX4_event_55 : decode cX4_event 55 = .ok (.aaload, 1) := by decide +kernel
theorem dX4_event_56 : decode cX4_event 56 = .ok (.ifnonnull 22, 3) := by decide +kernel
theorem dX4_event_59 : decode cX4_event 59 = .ok (.aload 7, 2) := by decide +kernel
theorem dX4_event_61 : decode cX4_event 61 = .ok (.getfield 96, 3) := by decide +kernel
theorem dX4_event_64 : decode cX4_event 64 = .ok (.bipush 8, 2) := by decide +kernel
theorem dX4_event_66 : decode cX4_event 66 = .ok (.if_icmp .ge 12, 3) := by decide +kernel
theorem dX4_event_69 : decode cX4_event 69 = .ok (.aload_n 0, 1) := by decide +kernel
theorem dX4_event_70 : decode cX4_event 70 = .ok (.getfield 99, 3) := by decide +kernel
theorem dX4_event_73 : decode cX4_event 73 = .ok (.bipush 40, 2) := by decide +kernel
theorem dX4_event_75 : decode cX4_event 75 = .ok (.if_icmp .lt 13, 3) := by decide +kernel
theorem dX4_event_78 : decode cX4_event 78 = .ok (.new 58, 3) := by decide +kernel
theorem dX4_event_81 : decode cX4_event 81 = .ok (.dup, 1) := by decide +kernel
theorem dX4_event_82 : decode cX4_event 82 = .ok (.ldc 100, 2) := by decide +kernel
theorem dX4_event_84 : decode cX4_event 84 = .ok (.invokespecial 62, 3) := by decide +kernel
theorem dX4_event_87 : decode cX4_event 87 = .ok (.athrow, 1) := by decide +kernel
theorem dX4_event_88 : decode cX4_event 88 = .ok (.new 15, 3) := by decide +kernel
theorem dX4_event_91 : decode cX4_event 91 = .ok (.dup, 1) := by decide +kernel
theorem dX4_event_92 : decode cX4_event 92 = .ok (.iload_n 1, 1) := by decide +kernel
theorem dX4_event_93 : decode cX4_event 93 = .ok (.iload_n 2, 1) := by decide +kernel
theorem dX4_event_94 : decode cX4_event 94 = .ok (.iload_n 3, 1) := by decide +kernel
theorem dX4_event_95 : decode cX4_event 95 = .ok (.lload 4, 2) := by decide +kernel
theorem dX4_event_97 : decode cX4_event 97 = .ok (.iload 6, 2) := by decide +kernel
theorem dX4_event_99 : decode cX4_event 99 = .ok (.invokespecial 102, 3) := by decide +kernel
theorem dX4_event_102 : decode cX4_event 102 = .ok (.astore 8, 2) := by decide +kernel
theorem dX4_event_104 : decode cX4_event 104 = .ok (.aload 7, 2) := by decide +kernel
theorem dX4_event_106 : decode cX4_event 106 = .ok (.getfield 93, 3) := by decide +kernel
theorem dX4_event_109 : decode cX4_event 109 = .ok (.iload_n 2, 1) := by decide +kernel
theorem dX4_event_110 : decode cX4_event 110 = .ok (.aload 8, 2) := by decide +kernel
theorem dX4_event_112 : decode cX4_event 112 = .ok (.aastore, 1) := by decide +kernel
theorem dX4_event_113 : decode cX4_event 113 = .ok (.aload_n 0, 1) := by decide +kernel
theorem dX4_event_114 : decode cX4_event 114 = .ok (.aload 7, 2) := by decide +kernel
theorem dX4_event_116 : decode cX4_event 116 = .ok (.invokevirtual 78, 3) := by decide +kernel
theorem dX4_event_119 : decode cX4_event 119 = .ok (.ifCond .eq 21, 3) := by decide +kernel
theorem dX4_event_122 : decode cX4_event 122 = .ok (.aload 7, 2) := by decide +kernel
theorem dX4_event_124 : decode cX4_event 124 = .ok (.getfield 93, 3) := by decide +kernel
theorem dX4_event_127 : decode cX4_event 127 = .ok (.iload_n 2, 1) := by decide +kernel
theorem dX4_event_128 : decode cX4_event 128 = .ok (.aconst_null, 1) := by decide +kernel
theorem dX4_event_129 : decode cX4_event 129 = .ok (.aastore, 1) := by decide +kernel
theorem dX4_event_130 : decode cX4_event 130 = .ok (.new 58, 3) := by decide +kernel
theorem dX4_event_133 : decode cX4_event 133 = .ok (.dup, 1) := by decide +kernel
theorem dX4_event_134 : decode cX4_event 134 = .ok (.ldc 105, 2) := by decide +kernel
theorem dX4_event_136 : decode cX4_event 136 = .ok (.invokespecial 62, 3) := by decide +kernel
theorem dX4_event_139 : decode cX4_event 139 = .ok (.athrow, 1) := by decide +kernel
theorem dX4_event_140 : decode cX4_event 140 = .ok (.aload 7, 2) := by decide +kernel
theorem dX4_event_142 : decode cX4_event 142 = .ok (.dup, 1) := by decide +kernel
theorem dX4_event_143 : decode cX4_event 143 = .ok (.getfield 96, 3) := by decide +kernel
theorem dX4_event_146 : decode cX4_event 146 = .ok (.iconst 1, 1) := by decide +kernel
theorem dX4_event_147 : decode cX4_event 147 = .ok (.iadd, 1) := by decide +kernel
theorem dX4_event_148 : decode cX4_event 148 = .ok (.putfield 96, 3) := by decide +kernel
theorem dX4_event_151 : decode cX4_event 151 = .ok (.aload_n 0, 1) := by decide +kernel
theorem dX4_event_152 : decode cX4_event 152 = .ok (.getfield 17, 3) := by decide +kernel
theorem dX4_event_155 : decode cX4_event 155 = .ok (.aload_n 0, 1) := by decide +kernel
theorem dX4_event_156 : decode cX4_event 156 = .ok (.getfield 99, 3) := by decide +kernel
theorem dX4_event_159 : decode cX4_event 159 = .ok (.aload 8, 2) := by decide +kernel
theorem dX4_event_161 : decode cX4_event 161 = .ok (.aastore, 1) := by decide +kernel
theorem dX4_event_162 : decode cX4_event 162 = .ok (.aload_n 0, 1) := by decide +kernel
theorem dX4_event_163 : decode cX4_event 163 = .ok (.dup, 1) := by decide +kernel
theorem dX4_event_164 : decode cX4_event 164 = .ok (.getfield 99, 3) := by decide +kernel
theorem dX4_event_167 : decode cX4_event 167 = .ok (.iconst 1, 1) := by decide +kernel
theorem dX4_event_168 : decode cX4_event 168 = .ok (.iadd, 1) := by decide +kernel
theorem dX4_event_169 : decode cX4_event 169 = .ok (.putfield 99, 3) := by decide +kernel
theorem dX4_event_172 : decode cX4_event 172 = .ok (.aload_n 0, 1) := by decide +kernel
theorem dX4_event_173 : decode cX4_event 173 = .ok (.getfield 99, 3) := by decide +kernel
theorem dX4_event_176 : decode cX4_event 176 = .ok (.iconst 1, 1) := by decide +kernel
theorem dX4_event_177 : decode cX4_event 177 = .ok (.isub, 1) := by decide +kernel
theorem dX4_event_178 : decode cX4_event 178 = .ok (.ireturn, 1) := by decide +kernel
set_option maxRecDepth 20000 in
theorem ggX4_strike_X4_eventOf : GoodIn wsX4_strike wsX4_eventOf := goodIn_r _ [10, 11, 5, 165, 166, 167, 168, 169, 170, 171] (by decide +kernel) (by decide +kernel)
set_option maxRecDepth 20000 in
theorem gX4_strike_X4_eventOf : GoodIn wsX4_strike (wsV RX4 107 RX4 yX4_eventOf wsX4_eventOf) := goodIn_app (goodIn_of _ (by decide +kernel)) ggX4_strike_X4_eventOf
set_option maxRecDepth 20000 in
theorem ggX4_strike_X4_partOf : GoodIn wsX4_strike wsX4_partOf := goodIn_r _ [15, 16, 17, 165, 166, 167, 168, 169, 170, 171] (by decide +kernel) (by decide +kernel)
set_option maxRecDepth 20000 in
theorem gX4_strike_X4_partOf : GoodIn wsX4_strike (wsV RX4 66 RX4 yX4_partOf wsX4_partOf) := goodIn_app (goodIn_of _ (by decide +kernel)) ggX4_strike_X4_partOf
set_option maxRecDepth 20000 in
theorem ggX4_strike_X4_hasBreach : GoodIn wsX4_strike wsX4_hasBreach := goodIn_r _ [21, 22, 23, 24, 25, 9, 26, 27, 28, 2, 29, 30, 31, 32, 33, 34, 35, 36, 37, 38, 39, 40, 41, 42, 43, 44, 45, 46, 47, 48, 49, 50, 51, 52, 53, 54, 55, 56, 57, 58, 59, 60, 61, 62, 63, 64, 65, 66, 67, 68, 69, 70, 71, 72, 73, 74, 75, 76, 77, 78, 79, 80, 81, 82, 83, 84, 85, 86, 87, 88, 89, 90, 91, 92, 93, 94, 95, 96, 97, 98, 99, 100, 101, 102, 103, 104, 105, 106, 107, 108, 109, 110, 111, 112, 113, 114, 115, 116, 117, 118, 119, 120, 121, 122, 123, 124, 125, 126, 127, 128, 129, 130, 131, 132, 133, 134, 135, 136, 137, 138, 139, 140, 141, 142, 143, 144, 145, 146, 147, 148, 165, 166, 167, 168, 169, 170, 171, 172, 173, 174, 175, 176, 177, 178, 179, 180, 181, 182, 183, 184, 185, 186, 154, 155, 156, 157, 158, 159, 160, 161, 162, 163, 164, 149, 150, 151, 152, 153, 187, 188, 189, 190, 191, 192] (by decide +kernel) (by decide +kernel)
set_option maxRecDepth 20000 in
theorem gX4_strike_X4_hasBreach : GoodIn wsX4_strike (wsV RX4 78 RX4 yX4_hasBreach wsX4_hasBreach) := goodIn_app (goodIn_of _ (by decide +kernel)) ggX4_strike_X4_hasBreach
theorem dX4_strike_0 : decode cX4_strike 0 = .ok (.aload_n 0, 1) := by decide +kernel
theorem dX4_strike_1 : decode cX4_strike 1 = .ok (.iload_n 1, 1) := by decide +kernel
theorem dX4_strike_2 : decode cX4_strike 2 = .ok (.invokevirtual 107, 3) := by decide +kernel
theorem dX4_strike_5 : decode cX4_strike 5 = .ok (.astore_n 2, 1) := by decide +kernel
theorem dX4_strike_6 : decode cX4_strike 6 = .ok (.aload_n 2, 1) := by decide +kernel
theorem dX4_strike_7 : decode cX4_strike 7 = .ok (.ifnonnull 5, 3) := by decide +kernel
theorem dX4_strike_10 : decode cX4_strike 10 = .ok (.iconst 0, 1) := by decide +kernel
theorem dX4_strike_11 : decode cX4_strike 11 = .ok (.ireturn, 1) := by decide +kernel
theorem dX4_strike_12 : decode cX4_strike 12 = .ok (.aload_n 0, 1) := by decide +kernel
theorem dX4_strike_13 : decode cX4_strike 13 = .ok (.aload_n 2, 1) := by decide +kernel
theorem dX4_strike_14 : decode cX4_strike 14 = .ok (.getfield 111, 3) := by decide +kernel
theorem dX4_strike_17 : decode cX4_strike 17 = .ok (.invokevirtual 66, 3) := by decide +kernel
theorem dX4_strike_20 : decode cX4_strike 20 = .ok (.astore_n 3, 1) := by decide +kernel
theorem dX4_strike_21 : decode cX4_strike 21 = .ok (.aload_n 3, 1) := by decide +kernel
theorem dX4_strike_22 : decode cX4_strike 22 = .ok (.ifnonnull 5, 3) := by decide +kernel
theorem dX4_strike_25 : decode cX4_strike 25 = .ok (.iconst 0, 1) := by decide +kernel
theorem dX4_strike_26 : decode cX4_strike 26 = .ok (.ireturn, 1) := by decide +kernel
theorem dX4_strike_27 : decode cX4_strike 27 = .ok (.aload_n 3, 1) := by decide +kernel
theorem dX4_strike_28 : decode cX4_strike 28 = .ok (.getfield 93, 3) := by decide +kernel
theorem dX4_strike_31 : decode cX4_strike 31 = .ok (.aload_n 2, 1) := by decide +kernel
theorem dX4_strike_32 : decode cX4_strike 32 = .ok (.getfield 114, 3) := by decide +kernel
theorem dX4_strike_35 : decode cX4_strike 35 = .ok (.aconst_null, 1) := by decide +kernel
theorem dX4_strike_36 : decode cX4_strike 36 = .ok (.aastore, 1) := by decide +kernel
theorem dX4_strike_37 : decode cX4_strike 37 = .ok (.aload_n 0, 1) := by decide +kernel
theorem dX4_strike_38 : decode cX4_strike 38 = .ok (.aload_n 3, 1) := by decide +kernel
theorem dX4_strike_39 : decode cX4_strike 39 = .ok (.invokevirtual 78, 3) := by decide +kernel
theorem dX4_strike_42 : decode cX4_strike 42 = .ok (.ifCond .eq 15, 3) := by decide +kernel
theorem dX4_strike_45 : decode cX4_strike 45 = .ok (.aload_n 3, 1) := by decide +kernel
theorem dX4_strike_46 : decode cX4_strike 46 = .ok (.getfield 93, 3) := by decide +kernel
theorem dX4_strike_49 : decode cX4_strike 49 = .ok (.aload_n 2, 1) := by decide +kernel
theorem dX4_strike_50 : decode cX4_strike 50 = .ok (.getfield 114, 3) := by decide +kernel
theorem dX4_strike_53 : decode cX4_strike 53 = .ok (.aload_n 2, 1) := by decide +kernel
theorem dX4_strike_54 : decode cX4_strike 54 = .ok (.aastore, 1) := by decide +kernel
theorem dX4_strike_55 : decode cX4_strike 55 = .ok (.iconst 0, 1) := by decide +kernel
theorem dX4_strike_56 : decode cX4_strike 56 = .ok (.ireturn, 1) := by decide +kernel
theorem dX4_strike_57 : decode cX4_strike 57 = .ok (.aload_n 3, 1) := by decide +kernel
theorem dX4_strike_58 : decode cX4_strike 58 = .ok (.dup, 1) := by decide +kernel
theorem dX4_strike_59 : decode cX4_strike 59 = .ok (.getfield 96, 3) := by decide +kernel
theorem dX4_strike_62 : decode cX4_strike 62 = .ok (.iconst 1, 1) := by decide +kernel
theorem dX4_strike_63 : decode cX4_strike 63 = .ok (.isub, 1) := by decide +kernel
theorem dX4_strike_64 : decode cX4_strike 64 = .ok (.putfield 96, 3) := by decide +kernel
theorem dX4_strike_67 : decode cX4_strike 67 = .ok (.aload_n 0, 1) := by decide +kernel
theorem dX4_strike_68 : decode cX4_strike 68 = .ok (.getfield 17, 3) := by decide +kernel
theorem dX4_strike_71 : decode cX4_strike 71 = .ok (.iload_n 1, 1) := by decide +kernel
theorem dX4_strike_72 : decode cX4_strike 72 = .ok (.aconst_null, 1) := by decide +kernel
theorem dX4_strike_73 : decode cX4_strike 73 = .ok (.aastore, 1) := by decide +kernel
theorem dX4_strike_74 : decode cX4_strike 74 = .ok (.iconst 1, 1) := by decide +kernel
theorem dX4_strike_75 : decode cX4_strike 75 = .ok (.ireturn, 1) := by decide +kernel
set_option maxRecDepth 20000 in
theorem ggX4_told_X4_eventOf : GoodIn wsX4_told wsX4_eventOf := goodIn_r _ [9, 10, 11, 17, 18, 19, 20, 21, 22, 23] (by decide +kernel) (by decide +kernel)
set_option maxRecDepth 20000 in
theorem gX4_told_X4_eventOf : GoodIn wsX4_told (wsV RX4 107 RX4 yX4_eventOf wsX4_eventOf) := goodIn_app (goodIn_of _ (by decide +kernel)) ggX4_told_X4_eventOf
theorem dX4_told_0 : decode cX4_told 0 = .ok (.aload_n 0, 1) := by decide +kernel
theorem dX4_told_1 : decode cX4_told 1 = .ok (.iload_n 1, 1) := by decide +kernel
theorem dX4_told_2 : decode cX4_told 2 = .ok (.invokevirtual 107, 3) := by decide +kernel
theorem dX4_told_5 : decode cX4_told 5 = .ok (.astore_n 3, 1) := by decide +kernel
theorem dX4_told_6 : decode cX4_told 6 = .ok (.aload_n 3, 1) := by decide +kernel
theorem dX4_told_7 : decode cX4_told 7 = .ok (.ifnonnull 5, 3) := by decide +kernel
theorem dX4_told_10 : decode cX4_told 10 = .ok (.iconst (-1), 1) := by decide +kernel
theorem dX4_told_11 : decode cX4_told 11 = .ok (.ireturn, 1) := by decide +kernel
theorem dX4_told_12 : decode cX4_told 12 = .ok (.iload_n 2, 1) := by decide +kernel
theorem dX4_told_13 : decode cX4_told 13 = .ok (.tableswitch 51 0 3 #[31, 36, 41, 46], 31) := by decide +kernel
theorem dX4_told_44 : decode cX4_told 44 = .ok (.aload_n 3, 1) := by decide +kernel
theorem dX4_told_45 : decode cX4_told 45 = .ok (.getfield 111, 3) := by decide +kernel
theorem dX4_told_48 : decode cX4_told 48 = .ok (.ireturn, 1) := by decide +kernel
theorem dX4_told_49 : decode cX4_told 49 = .ok (.aload_n 3, 1) := by decide +kernel
theorem dX4_told_50 : decode cX4_told 50 = .ok (.getfield 114, 3) := by decide +kernel
theorem dX4_told_53 : decode cX4_told 53 = .ok (.ireturn, 1) := by decide +kernel
theorem dX4_told_54 : decode cX4_told 54 = .ok (.aload_n 3, 1) := by decide +kernel
theorem dX4_told_55 : decode cX4_told 55 = .ok (.getfield 117, 3) := by decide +kernel
theorem dX4_told_58 : decode cX4_told 58 = .ok (.ireturn, 1) := by decide +kernel
theorem dX4_told_59 : decode cX4_told 59 = .ok (.aload_n 3, 1) := by decide +kernel
theorem dX4_told_60 : decode cX4_told 60 = .ok (.getfield 120, 3) := by decide +kernel
theorem dX4_told_63 : decode cX4_told 63 = .ok (.ireturn, 1) := by decide +kernel
theorem dX4_told_64 : decode cX4_told 64 = .ok (.iconst (-1), 1) := by decide +kernel
theorem dX4_told_65 : decode cX4_told 65 = .ok (.ireturn, 1) := by decide +kernel
set_option maxRecDepth 20000 in
theorem ggX4_value_X4_partOf : GoodIn wsX4_value wsX4_partOf := goodIn_r _ [10, 11, 12, 157, 158, 159, 160, 161, 162, 163] (by decide +kernel) (by decide +kernel)
set_option maxRecDepth 20000 in
theorem gX4_value_X4_partOf : GoodIn wsX4_value (wsV RX4 66 RX4 yX4_partOf wsX4_partOf) := goodIn_app (goodIn_of _ (by decide +kernel)) ggX4_value_X4_partOf
set_option maxRecDepth 20000 in
theorem ggX4_value_X4_isMonth : GoodIn wsX4_value wsX4_isMonth := goodIn_r _ [15] (by decide +kernel) (by decide +kernel)
set_option maxRecDepth 20000 in
theorem gX4_value_X4_isMonth : GoodIn wsX4_value (va_wsS RX4 37 yX4_isMonth wsX4_isMonth) := goodIn_app (goodIn_of _ (by decide +kernel)) ggX4_value_X4_isMonth
set_option maxRecDepth 20000 in
theorem ggX4_value_X4_isWithin : GoodIn wsX4_value wsX4_isWithin := goodIn_r _ [18] (by decide +kernel) (by decide +kernel)
set_option maxRecDepth 20000 in
theorem gX4_value_X4_isWithin : GoodIn wsX4_value (va_wsS RX4 33 yX4_isWithin wsX4_isWithin) := goodIn_app (goodIn_of _ (by decide +kernel)) ggX4_value_X4_isWithin
set_option maxRecDepth 20000 in
theorem ggX4_value_X4_follow : GoodIn wsX4_value wsX4_follow := goodIn_r _ [22, 5, 23, 4, 24, 25, 26, 27, 28, 29, 30, 31, 32, 33, 34, 35, 36, 37, 38, 39, 40, 41, 42, 43, 44, 45, 46, 47, 48, 49, 50, 51, 52, 53, 54, 55, 56, 57, 58, 59, 60, 61, 62, 63, 64, 65, 66, 67, 68, 69, 70, 71, 72, 73, 74, 75, 76, 77, 78, 79, 80, 81, 82, 83, 84, 85, 86, 87, 88, 89, 90, 91, 92, 93, 94, 95, 96, 97, 98, 99, 100, 101, 102, 103, 104, 105, 106, 107, 108, 109, 110, 111, 112, 113, 114, 115, 116, 117, 118, 119, 120, 121, 9, 122, 123, 124, 125, 126, 127, 128, 129, 130, 131, 132, 133, 134, 135, 136, 137, 138, 139, 140, 141, 142, 143, 144, 157, 158, 159, 160, 161, 162, 163, 146, 147, 148, 149, 150, 151, 152, 153, 154, 155, 156, 179, 180, 181, 182, 183, 164, 165, 166, 167, 168, 169, 170, 171, 172, 173, 174, 175, 176, 177, 178, 184, 185, 186, 187, 188, 189] (by decide +kernel) (by decide +kernel)
set_option maxRecDepth 20000 in
theorem gX4_value_X4_follow : GoodIn wsX4_value (wsV RX4 127 RX4 yX4_follow wsX4_follow) := goodIn_app (goodIn_of _ (by decide +kernel)) ggX4_value_X4_follow
set_option maxRecDepth 20000 in
theorem ggX4_value_X0_book : GoodIn wsX4_value wsX0_book := goodIn_r _ [64, 38, 39, 164, 165, 166, 167, 168, 169, 170, 171, 172, 173, 174, 175, 176, 177, 178] (by decide +kernel) (by decide +kernel)
set_option maxRecDepth 20000 in
theorem gX4_value_X0_book : GoodIn wsX4_value (wsV RX4 138 RX0 yX0_book wsX0_book) := goodIn_app (goodIn_of _ (by decide +kernel)) ggX4_value_X0_book
theorem dX4_value_0 : decode cX4_value 0 = .ok (.aload_n 0, 1) := by decide +kernel
theorem dX4_value_1 : decode cX4_value 1 = .ok (.iload_n 1, 1) := by decide +kernel
theorem dX4_value_2 : decode cX4_value 2 = .ok (.invokevirtual 66, 3) := by decide +kernel
theorem dX4_value_5 : decode cX4_value 5 = .ok (.astore 4, 2) := by decide +kernel
theorem dX4_value_7 : decode cX4_value 7 = .ok (.aload 4, 2) := by decide +kernel
theorem dX4_value_9 : decode cX4_value 9 = .ok (.ifnull 22, 3) := by decide +kernel
theorem dX4_value_12 : decode cX4_value 12 = .ok (.iload_n 2, 1) := by decide +kernel
theorem dX4_value_13 : decode cX4_value 13 = .ok (.invokestatic 37, 3) := by decide +kernel
theorem dX4_value_16 : decode cX4_value 16 = .ok (.ifCond .eq 15, 3) := by decide +kernel
theorem dX4_value_19 : decode cX4_value 19 = .ok (.iload_n 3, 1) := by decide +kernel
theorem dX4_value_20 : decode cX4_value 20 = .ok (.i2l, 1) := by decide +kernel
theorem dX4_value_21 : decode cX4_value 21 = .ok (.lconst 0, 1) := by decide +kernel
theorem dX4_value_22 : decode cX4_value 22 = .ok (.ldc2_w 123, 3) := by decide +kernel
theorem dX4_value_25 : decode cX4_value 25 = .ok (.invokestatic 33, 3) := by decide +kernel
theorem dX4_value_28 : decode cX4_value 28 = .ok (.ifCond .ne 13, 3) := by decide +kernel
theorem dX4_value_31 : decode cX4_value 31 = .ok (.new 47, 3) := by decide +kernel
theorem dX4_value_34 : decode cX4_value 34 = .ok (.dup, 1) := by decide +kernel
theorem dX4_value_35 : decode cX4_value 35 = .ok (.ldc 125, 2) := by decide +kernel
theorem dX4_value_37 : decode cX4_value 37 = .ok (.invokespecial 51, 3) := by decide +kernel
theorem dX4_value_40 : decode cX4_value 40 = .ok (.athrow, 1) := by decide +kernel
theorem dX4_value_41 : decode cX4_value 41 = .ok (.iload_n 2, 1) := by decide +kernel
theorem dX4_value_42 : decode cX4_value 42 = .ok (.aload 4, 2) := by decide +kernel
theorem dX4_value_44 : decode cX4_value 44 = .ok (.getfield 84, 3) := by decide +kernel
theorem dX4_value_47 : decode cX4_value 47 = .ok (.if_icmp .ge 5, 3) := by decide +kernel
theorem dX4_value_50 : decode cX4_value 50 = .ok (.lconst 0, 1) := by decide +kernel
theorem dX4_value_51 : decode cX4_value 51 = .ok (.lreturn, 1) := by decide +kernel
theorem dX4_value_52 : decode cX4_value 52 = .ok (.aload_n 0, 1) := by decide +kernel
theorem dX4_value_53 : decode cX4_value 53 = .ok (.aload 4, 2) := by decide +kernel
theorem dX4_value_55 : decode cX4_value 55 = .ok (.iload_n 2, 1) := by decide +kernel
theorem dX4_value_56 : decode cX4_value 56 = .ok (.invokevirtual 127, 3) := by decide +kernel
theorem dX4_value_59 : decode cX4_value 59 = .ok (.iload_n 3, 1) := by decide +kernel
theorem dX4_value_60 : decode cX4_value 60 = .ok (.tableswitch 88 0 5 #[40, 48, 56, 64, 72, 80], 40) := by decide +kernel
theorem dX4_value_100 : decode cX4_value 100 = .ok (.aload_n 0, 1) := by decide +kernel
theorem dX4_value_101 : decode cX4_value 101 = .ok (.getfield 24, 3) := by decide +kernel
theorem dX4_value_104 : decode cX4_value 104 = .ok (.getfield 131, 3) := by decide +kernel
theorem dX4_value_107 : decode cX4_value 107 = .ok (.lreturn, 1) := by decide +kernel
theorem dX4_value_108 : decode cX4_value 108 = .ok (.aload_n 0, 1) := by decide +kernel
theorem dX4_value_109 : decode cX4_value 109 = .ok (.getfield 24, 3) := by decide +kernel
theorem dX4_value_112 : decode cX4_value 112 = .ok (.getfield 135, 3) := by decide +kernel
theorem dX4_value_115 : decode cX4_value 115 = .ok (.lreturn, 1) := by decide +kernel
theorem dX4_value_116 : decode cX4_value 116 = .ok (.aload_n 0, 1) := by decide +kernel
theorem dX4_value_117 : decode cX4_value 117 = .ok (.getfield 24, 3) := by decide +kernel
theorem dX4_value_120 : decode cX4_value 120 = .ok (.invokevirtual 138, 3) := by decide +kernel
theorem dX4_value_123 : decode cX4_value 123 = .ok (.lreturn, 1) := by decide +kernel
theorem dX4_value_124 : decode cX4_value 124 = .ok (.aload_n 0, 1) := by decide +kernel
theorem dX4_value_125 : decode cX4_value 125 = .ok (.getfield 24, 3) := by decide +kernel
theorem dX4_value_128 : decode cX4_value 128 = .ok (.getfield 142, 3) := by decide +kernel
theorem dX4_value_131 : decode cX4_value 131 = .ok (.lreturn, 1) := by decide +kernel
theorem dX4_value_132 : decode cX4_value 132 = .ok (.aload_n 0, 1) := by decide +kernel
theorem dX4_value_133 : decode cX4_value 133 = .ok (.getfield 24, 3) := by decide +kernel
theorem dX4_value_136 : decode cX4_value 136 = .ok (.getfield 145, 3) := by decide +kernel
theorem dX4_value_139 : decode cX4_value 139 = .ok (.lreturn, 1) := by decide +kernel
theorem dX4_value_140 : decode cX4_value 140 = .ok (.aload_n 0, 1) := by decide +kernel
theorem dX4_value_141 : decode cX4_value 141 = .ok (.getfield 24, 3) := by decide +kernel
theorem dX4_value_144 : decode cX4_value 144 = .ok (.getfield 148, 3) := by decide +kernel
theorem dX4_value_147 : decode cX4_value 147 = .ok (.lreturn, 1) := by decide +kernel
theorem dX4_value_148 : decode cX4_value 148 = .ok (.aload_n 0, 1) := by decide +kernel
theorem dX4_value_149 : decode cX4_value 149 = .ok (.getfield 24, 3) := by decide +kernel
theorem dX4_value_152 : decode cX4_value 152 = .ok (.getfield 151, 3) := by decide +kernel
theorem dX4_value_155 : decode cX4_value 155 = .ok (.i2l, 1) := by decide +kernel
theorem dX4_value_156 : decode cX4_value 156 = .ok (.lreturn, 1) := by decide +kernel
set_option maxRecDepth 20000 in
theorem ggX4_charge_X4_partOf : GoodIn wsX4_charge wsX4_partOf := goodIn_r _ [9, 10, 11, 152, 153, 154, 155, 156, 157, 158] (by decide +kernel) (by decide +kernel)
set_option maxRecDepth 20000 in
theorem gX4_charge_X4_partOf : GoodIn wsX4_charge (wsV RX4 66 RX4 yX4_partOf wsX4_partOf) := goodIn_app (goodIn_of _ (by decide +kernel)) ggX4_charge_X4_partOf
set_option maxRecDepth 20000 in
theorem ggX4_charge_X4_isMonth : GoodIn wsX4_charge wsX4_isMonth := goodIn_r _ [14] (by decide +kernel) (by decide +kernel)
set_option maxRecDepth 20000 in
theorem gX4_charge_X4_isMonth : GoodIn wsX4_charge (va_wsS RX4 37 yX4_isMonth wsX4_isMonth) := goodIn_app (goodIn_of _ (by decide +kernel)) ggX4_charge_X4_isMonth
set_option maxRecDepth 20000 in
theorem ggX4_charge_X4_follow : GoodIn wsX4_charge wsX4_follow := goodIn_r _ [18, 4, 19, 3, 20, 21, 22, 23, 24, 25, 26, 27, 28, 29, 30, 31, 32, 33, 34, 35, 36, 37, 38, 39, 40, 41, 42, 43, 44, 45, 46, 47, 48, 49, 50, 51, 52, 53, 54, 55, 56, 57, 58, 59, 60, 61, 62, 63, 64, 65, 66, 67, 68, 69, 70, 71, 72, 73, 74, 75, 76, 77, 78, 79, 80, 81, 82, 83, 84, 85, 86, 87, 88, 89, 90, 91, 92, 93, 94, 95, 96, 97, 98, 99, 100, 101, 102, 103, 104, 105, 106, 107, 108, 109, 110, 111, 112, 113, 114, 115, 116, 117, 8, 118, 119, 120, 121, 122, 123, 124, 125, 126, 127, 128, 129, 130, 131, 132, 133, 134, 135, 136, 137, 138, 139, 140, 152, 153, 154, 155, 156, 157, 158, 141, 142, 143, 144, 145, 146, 147, 148, 149, 150, 151, 174, 175, 176, 177, 178, 159, 160, 161, 162, 163, 164, 165, 166, 167, 168, 169, 170, 171, 172, 173, 179, 180, 181, 182, 183, 184] (by decide +kernel) (by decide +kernel)
set_option maxRecDepth 20000 in
theorem gX4_charge_X4_follow : GoodIn wsX4_charge (wsV RX4 127 RX4 yX4_follow wsX4_follow) := goodIn_app (goodIn_of _ (by decide +kernel)) ggX4_charge_X4_follow
theorem dX4_charge_0 : decode cX4_charge 0 = .ok (.aload_n 0, 1) := by decide +kernel
theorem dX4_charge_1 : decode cX4_charge 1 = .ok (.iload_n 1, 1) := by decide +kernel
theorem dX4_charge_2 : decode cX4_charge 2 = .ok (.invokevirtual 66, 3) := by decide +kernel
theorem dX4_charge_5 : decode cX4_charge 5 = .ok (.astore_n 3, 1) := by decide +kernel
theorem dX4_charge_6 : decode cX4_charge 6 = .ok (.aload_n 3, 1) := by decide +kernel
theorem dX4_charge_7 : decode cX4_charge 7 = .ok (.ifnull 10, 3) := by decide +kernel
theorem dX4_charge_10 : decode cX4_charge 10 = .ok (.iload_n 2, 1) := by decide +kernel
theorem dX4_charge_11 : decode cX4_charge 11 = .ok (.invokestatic 37, 3) := by decide +kernel
theorem dX4_charge_14 : decode cX4_charge 14 = .ok (.ifCond .ne 13, 3) := by decide +kernel
theorem dX4_charge_17 : decode cX4_charge 17 = .ok (.new 47, 3) := by decide +kernel
theorem dX4_charge_20 : decode cX4_charge 20 = .ok (.dup, 1) := by decide +kernel
theorem dX4_charge_21 : decode cX4_charge 21 = .ok (.ldc 154, 2) := by decide +kernel
theorem dX4_charge_23 : decode cX4_charge 23 = .ok (.invokespecial 51, 3) := by decide +kernel
theorem dX4_charge_26 : decode cX4_charge 26 = .ok (.athrow, 1) := by decide +kernel
theorem dX4_charge_27 : decode cX4_charge 27 = .ok (.iload_n 2, 1) := by decide +kernel
theorem dX4_charge_28 : decode cX4_charge 28 = .ok (.aload_n 3, 1) := by decide +kernel
theorem dX4_charge_29 : decode cX4_charge 29 = .ok (.getfield 84, 3) := by decide +kernel
theorem dX4_charge_32 : decode cX4_charge 32 = .ok (.if_icmp .ge 5, 3) := by decide +kernel
theorem dX4_charge_35 : decode cX4_charge 35 = .ok (.lconst 0, 1) := by decide +kernel
theorem dX4_charge_36 : decode cX4_charge 36 = .ok (.lreturn, 1) := by decide +kernel
theorem dX4_charge_37 : decode cX4_charge 37 = .ok (.aload_n 0, 1) := by decide +kernel
theorem dX4_charge_38 : decode cX4_charge 38 = .ok (.aload_n 3, 1) := by decide +kernel
theorem dX4_charge_39 : decode cX4_charge 39 = .ok (.iload_n 2, 1) := by decide +kernel
theorem dX4_charge_40 : decode cX4_charge 40 = .ok (.invokevirtual 127, 3) := by decide +kernel
theorem dX4_charge_43 : decode cX4_charge 43 = .ok (.aload_n 0, 1) := by decide +kernel
theorem dX4_charge_44 : decode cX4_charge 44 = .ok (.getfield 24, 3) := by decide +kernel
theorem dX4_charge_47 : decode cX4_charge 47 = .ok (.getfield 156, 3) := by decide +kernel
theorem dX4_charge_50 : decode cX4_charge 50 = .ok (.lreturn, 1) := by decide +kernel
set_option maxRecDepth 20000 in
theorem ggX4_without_X4_partOf : GoodIn wsX4_without wsX4_partOf := goodIn_r _ [9, 10, 11, 152, 153, 154, 155, 156, 157, 158] (by decide +kernel) (by decide +kernel)
set_option maxRecDepth 20000 in
theorem gX4_without_X4_partOf : GoodIn wsX4_without (wsV RX4 66 RX4 yX4_partOf wsX4_partOf) := goodIn_app (goodIn_of _ (by decide +kernel)) ggX4_without_X4_partOf
set_option maxRecDepth 20000 in
theorem ggX4_without_X4_isMonth : GoodIn wsX4_without wsX4_isMonth := goodIn_r _ [14] (by decide +kernel) (by decide +kernel)
set_option maxRecDepth 20000 in
theorem gX4_without_X4_isMonth : GoodIn wsX4_without (va_wsS RX4 37 yX4_isMonth wsX4_isMonth) := goodIn_app (goodIn_of _ (by decide +kernel)) ggX4_without_X4_isMonth
set_option maxRecDepth 20000 in
theorem ggX4_without_X4_follow : GoodIn wsX4_without wsX4_follow := goodIn_r _ [18, 19, 4, 3, 20, 21, 22, 23, 24, 25, 26, 27, 28, 29, 30, 31, 32, 33, 34, 35, 36, 37, 38, 39, 40, 41, 42, 43, 44, 45, 46, 47, 48, 49, 50, 51, 52, 53, 54, 55, 56, 57, 58, 59, 60, 61, 62, 63, 64, 65, 66, 67, 68, 69, 70, 71, 72, 73, 74, 75, 76, 77, 78, 79, 80, 81, 82, 83, 84, 85, 86, 87, 88, 89, 90, 91, 92, 93, 94, 95, 96, 97, 98, 99, 100, 101, 102, 103, 104, 105, 106, 107, 108, 109, 110, 111, 112, 113, 114, 115, 116, 117, 8, 118, 119, 120, 121, 122, 123, 124, 125, 126, 127, 128, 129, 130, 131, 132, 133, 134, 135, 136, 137, 138, 139, 140, 152, 153, 154, 155, 156, 157, 158, 141, 142, 143, 144, 145, 146, 147, 148, 149, 150, 151, 159, 160, 161, 162, 163, 164, 165, 166, 167, 168, 169, 170, 171, 172, 173, 174, 175, 176, 177, 178, 179, 180, 181, 182, 183, 184] (by decide +kernel) (by decide +kernel)
set_option maxRecDepth 20000 in
theorem gX4_without_X4_follow : GoodIn wsX4_without (wsV RX4 127 RX4 yX4_follow wsX4_follow) := goodIn_app (goodIn_of _ (by decide +kernel)) ggX4_without_X4_follow
set_option maxRecDepth 20000 in
theorem ggX4_without_X0_bookOrNone : GoodIn wsX4_without wsX0_bookOrNone := goodIn_r _ [75, 44, 76, 57, 58, 59, 27, 60, 34, 35, 164, 165, 166, 167, 168, 169, 170, 171, 172, 173, 174, 175, 176, 177, 178] (by decide +kernel) (by decide +kernel)
set_option maxRecDepth 20000 in
theorem gX4_without_X0_bookOrNone : GoodIn wsX4_without (wsV RX4 159 RX0 yX0_bookOrNone wsX0_bookOrNone) := goodIn_app (goodIn_of _ (by decide +kernel)) ggX4_without_X0_bookOrNone
theorem dX4_without_0 : decode cX4_without 0 = .ok (.aload_n 0, 1) := by decide +kernel
theorem dX4_without_1 : decode cX4_without 1 = .ok (.iload_n 1, 1) := by decide +kernel
theorem dX4_without_2 : decode cX4_without 2 = .ok (.invokevirtual 66, 3) := by decide +kernel
theorem dX4_without_5 : decode cX4_without 5 = .ok (.astore_n 3, 1) := by decide +kernel
theorem dX4_without_6 : decode cX4_without 6 = .ok (.aload_n 3, 1) := by decide +kernel
theorem dX4_without_7 : decode cX4_without 7 = .ok (.ifnull 10, 3) := by decide +kernel
theorem dX4_without_10 : decode cX4_without 10 = .ok (.iload_n 2, 1) := by decide +kernel
theorem dX4_without_11 : decode cX4_without 11 = .ok (.invokestatic 37, 3) := by decide +kernel
theorem dX4_without_14 : decode cX4_without 14 = .ok (.ifCond .ne 13, 3) := by decide +kernel
theorem dX4_without_17 : decode cX4_without 17 = .ok (.new 47, 3) := by decide +kernel
theorem dX4_without_20 : decode cX4_without 20 = .ok (.dup, 1) := by decide +kernel
theorem dX4_without_21 : decode cX4_without 21 = .ok (.ldc 154, 2) := by decide +kernel
theorem dX4_without_23 : decode cX4_without 23 = .ok (.invokespecial 51, 3) := by decide +kernel
theorem dX4_without_26 : decode cX4_without 26 = .ok (.athrow, 1) := by decide +kernel
theorem dX4_without_27 : decode cX4_without 27 = .ok (.iload_n 2, 1) := by decide +kernel
theorem dX4_without_28 : decode cX4_without 28 = .ok (.aload_n 3, 1) := by decide +kernel
theorem dX4_without_29 : decode cX4_without 29 = .ok (.getfield 84, 3) := by decide +kernel
theorem dX4_without_32 : decode cX4_without 32 = .ok (.if_icmp .ge 5, 3) := by decide +kernel
theorem dX4_without_35 : decode cX4_without 35 = .ok (.lconst 0, 1) := by decide +kernel
theorem dX4_without_36 : decode cX4_without 36 = .ok (.lreturn, 1) := by decide +kernel
theorem dX4_without_37 : decode cX4_without 37 = .ok (.aload_n 0, 1) := by decide +kernel
theorem dX4_without_38 : decode cX4_without 38 = .ok (.aload_n 3, 1) := by decide +kernel
theorem dX4_without_39 : decode cX4_without 39 = .ok (.iload_n 2, 1) := by decide +kernel
theorem dX4_without_40 : decode cX4_without 40 = .ok (.invokevirtual 127, 3) := by decide +kernel
theorem dX4_without_43 : decode cX4_without 43 = .ok (.aload_n 0, 1) := by decide +kernel
theorem dX4_without_44 : decode cX4_without 44 = .ok (.getfield 28, 3) := by decide +kernel
theorem dX4_without_47 : decode cX4_without 47 = .ok (.invokevirtual 159, 3) := by decide +kernel
theorem dX4_without_50 : decode cX4_without 50 = .ok (.lreturn, 1) := by decide +kernel
set_option maxRecDepth 20000 in
theorem ggX4_post_X4_partOf : GoodIn wsX4_post wsX4_partOf := goodIn_r _ [13, 4, 14, 141, 142, 143, 144, 145, 146, 147] (by decide +kernel) (by decide +kernel)
set_option maxRecDepth 20000 in
theorem gX4_post_X4_partOf : GoodIn wsX4_post (wsV RX4 66 RX4 yX4_partOf wsX4_partOf) := goodIn_app (goodIn_of _ (by decide +kernel)) ggX4_post_X4_partOf
set_option maxRecDepth 20000 in
theorem ggX4_post_X4_follow : GoodIn wsX4_post wsX4_follow := goodIn_r _ [18, 7, 19, 5, 20, 21, 22, 23, 24, 25, 26, 27, 28, 29, 30, 31, 32, 33, 34, 35, 36, 37, 38, 39, 40, 41, 42, 43, 44, 45, 46, 47, 48, 49, 50, 51, 52, 53, 54, 55, 56, 57, 58, 59, 60, 61, 62, 63, 64, 65, 66, 67, 68, 69, 70, 71, 72, 73, 74, 75, 76, 77, 78, 79, 80, 81, 82, 83, 84, 85, 86, 87, 88, 89, 90, 91, 92, 93, 94, 95, 96, 97, 98, 99, 100, 101, 102, 103, 104, 105, 106, 107, 108, 109, 110, 111, 112, 113, 114, 115, 116, 117, 12, 118, 119, 120, 121, 122, 123, 124, 125, 126, 127, 128, 129, 130, 131, 132, 133, 134, 135, 136, 137, 138, 139, 140, 141, 142, 143, 144, 145, 146, 147, 148, 149, 150, 151, 152, 153, 154, 155, 156, 157, 158, 174, 175, 176, 177, 178, 159, 160, 161, 162, 163, 164, 165, 166, 167, 168, 169, 170, 171, 172, 173, 179, 180, 181, 182, 183, 184] (by decide +kernel) (by decide +kernel)
set_option maxRecDepth 20000 in
theorem gX4_post_X4_follow : GoodIn wsX4_post (wsV RX4 127 RX4 yX4_follow wsX4_follow) := goodIn_app (goodIn_of _ (by decide +kernel)) ggX4_post_X4_follow
theorem dX4_post_0 : decode cX4_post 0 = .ok (.aload_n 0, 1) := by decide +kernel
theorem dX4_post_1 : decode cX4_post 1 = .ok (.getfield 162, 3) := by decide +kernel
theorem dX4_post_4 : decode cX4_post 4 = .ok (.bipush 36, 2) := by decide +kernel
theorem dX4_post_6 : decode cX4_post 6 = .ok (.if_icmp .lt 13, 3) := by decide +kernel
theorem dX4_post_9 : decode cX4_post 9 = .ok (.new 58, 3) := by decide +kernel
theorem dX4_post_12 : decode cX4_post 12 = .ok (.dup, 1) := by decide +kernel
theorem dX4_post_13 : decode cX4_post 13 = .ok (.ldc 165, 2) := by decide +kernel
theorem dX4_post_15 : decode cX4_post 15 = .ok (.invokespecial 62, 3) := by decide +kernel
theorem dX4_post_18 : decode cX4_post 18 = .ok (.athrow, 1) := by decide +kernel
theorem dX4_post_19 : decode cX4_post 19 = .ok (.aload_n 0, 1) := by decide +kernel
theorem dX4_post_20 : decode cX4_post 20 = .ok (.getfield 162, 3) := by decide +kernel
theorem dX4_post_23 : decode cX4_post 23 = .ok (.istore_n 1, 1) := by decide +kernel
theorem dX4_post_24 : decode cX4_post 24 = .ok (.aload_n 0, 1) := by decide +kernel
theorem dX4_post_25 : decode cX4_post 25 = .ok (.dup, 1) := by decide +kernel
theorem dX4_post_26 : decode cX4_post 26 = .ok (.getfield 162, 3) := by decide +kernel
theorem dX4_post_29 : decode cX4_post 29 = .ok (.iconst 1, 1) := by decide +kernel
theorem dX4_post_30 : decode cX4_post 30 = .ok (.iadd, 1) := by decide +kernel
theorem dX4_post_31 : decode cX4_post 31 = .ok (.putfield 162, 3) := by decide +kernel
theorem dX4_post_34 : decode cX4_post 34 = .ok (.lconst 0, 1) := by decide +kernel
theorem dX4_post_35 : decode cX4_post 35 = .ok (.lstore_n 2, 1) := by decide +kernel
theorem dX4_post_36 : decode cX4_post 36 = .ok (.iconst 0, 1) := by decide +kernel
theorem dX4_post_37 : decode cX4_post 37 = .ok (.istore 4, 2) := by decide +kernel
theorem dX4_post_39 : decode cX4_post 39 = .ok (.iload 4, 2) := by decide +kernel
theorem dX4_post_41 : decode cX4_post 41 = .ok (.aload_n 0, 1) := by decide +kernel
theorem dX4_post_42 : decode cX4_post 42 = .ok (.getfield 54, 3) := by decide +kernel
theorem dX4_post_45 : decode cX4_post 45 = .ok (.if_icmp .ge 80, 3) := by decide +kernel
theorem dX4_post_48 : decode cX4_post 48 = .ok (.aload_n 0, 1) := by decide +kernel
theorem dX4_post_49 : decode cX4_post 49 = .ok (.iload 4, 2) := by decide +kernel
theorem dX4_post_51 : decode cX4_post 51 = .ok (.invokevirtual 66, 3) := by decide +kernel
theorem dX4_post_54 : decode cX4_post 54 = .ok (.astore 5, 2) := by decide +kernel
theorem dX4_post_56 : decode cX4_post 56 = .ok (.aload 5, 2) := by decide +kernel
theorem dX4_post_58 : decode cX4_post 58 = .ok (.ifnull 61, 3) := by decide +kernel
theorem dX4_post_61 : decode cX4_post 61 = .ok (.aload 5, 2) := by decide +kernel
theorem dX4_post_63 : decode cX4_post 63 = .ok (.getfield 84, 3) := by decide +kernel
theorem dX4_post_66 : decode cX4_post 66 = .ok (.iload_n 1, 1) := by decide +kernel
theorem dX4_post_67 : decode cX4_post 67 = .ok (.if_icmp .gt 52, 3) := by decide +kernel
theorem dX4_post_70 : decode cX4_post 70 = .ok (.aload_n 0, 1) := by decide +kernel
theorem dX4_post_71 : decode cX4_post 71 = .ok (.aload 5, 2) := by decide +kernel
theorem dX4_post_73 : decode cX4_post 73 = .ok (.iload_n 1, 1) := by decide +kernel
theorem dX4_post_74 : decode cX4_post 74 = .ok (.invokevirtual 127, 3) := by decide +kernel
theorem dX4_post_77 : decode cX4_post 77 = .ok (.aload 5, 2) := by decide +kernel
theorem dX4_post_79 : decode cX4_post 79 = .ok (.getfield 167, 3) := by decide +kernel
theorem dX4_post_82 : decode cX4_post 82 = .ok (.iload_n 1, 1) := by decide +kernel
theorem dX4_post_83 : decode cX4_post 83 = .ok (.aload_n 0, 1) := by decide +kernel
theorem dX4_post_84 : decode cX4_post 84 = .ok (.getfield 24, 3) := by decide +kernel
theorem dX4_post_87 : decode cX4_post 87 = .ok (.getfield 171, 3) := by decide +kernel
theorem dX4_post_90 : decode cX4_post 90 = .ok (.aload 5, 2) := by decide +kernel
theorem dX4_post_92 : decode cX4_post 92 = .ok (.getfield 174, 3) := by decide +kernel
theorem dX4_post_95 : decode cX4_post 95 = .ok (.lsub, 1) := by decide +kernel
theorem dX4_post_96 : decode cX4_post 96 = .ok (.lastore, 1) := by decide +kernel
theorem dX4_post_97 : decode cX4_post 97 = .ok (.aload 5, 2) := by decide +kernel
theorem dX4_post_99 : decode cX4_post 99 = .ok (.aload_n 0, 1) := by decide +kernel
theorem dX4_post_100 : decode cX4_post 100 = .ok (.getfield 24, 3) := by decide +kernel
theorem dX4_post_103 : decode cX4_post 103 = .ok (.getfield 171, 3) := by decide +kernel
theorem dX4_post_106 : decode cX4_post 106 = .ok (.putfield 174, 3) := by decide +kernel
theorem dX4_post_109 : decode cX4_post 109 = .ok (.lload_n 2, 1) := by decide +kernel
theorem dX4_post_110 : decode cX4_post 110 = .ok (.aload 5, 2) := by decide +kernel
theorem dX4_post_112 : decode cX4_post 112 = .ok (.getfield 167, 3) := by decide +kernel
theorem dX4_post_115 : decode cX4_post 115 = .ok (.iload_n 1, 1) := by decide +kernel
theorem dX4_post_116 : decode cX4_post 116 = .ok (.laload, 1) := by decide +kernel
theorem dX4_post_117 : decode cX4_post 117 = .ok (.ladd, 1) := by decide +kernel
theorem dX4_post_118 : decode cX4_post 118 = .ok (.lstore_n 2, 1) := by decide +kernel
theorem dX4_post_119 : decode cX4_post 119 = .ok (.iinc 4 1, 3) := by decide +kernel
theorem dX4_post_122 : decode cX4_post 122 = .ok (.goto (-83), 3) := by decide +kernel
theorem dX4_post_125 : decode cX4_post 125 = .ok (.lload_n 2, 1) := by decide +kernel
theorem dX4_post_126 : decode cX4_post 126 = .ok (.lreturn, 1) := by decide +kernel
theorem dX4_months_0 : decode cX4_months 0 = .ok (.aload_n 0, 1) := by decide +kernel
theorem dX4_months_1 : decode cX4_months 1 = .ok (.getfield 162, 3) := by decide +kernel
theorem dX4_months_4 : decode cX4_months 4 = .ok (.ireturn, 1) := by decide +kernel
set_option maxRecDepth 20000 in
theorem ggX4_posted_X4_partOf : GoodIn wsX4_posted wsX4_partOf := goodIn_r _ [8, 9, 10, 25, 26, 27, 28, 29, 30, 31] (by decide +kernel) (by decide +kernel)
set_option maxRecDepth 20000 in
theorem gX4_posted_X4_partOf : GoodIn wsX4_posted (wsV RX4 66 RX4 yX4_partOf wsX4_partOf) := goodIn_app (goodIn_of _ (by decide +kernel)) ggX4_posted_X4_partOf
set_option maxRecDepth 20000 in
theorem ggX4_posted_X4_isMonth : GoodIn wsX4_posted wsX4_isMonth := goodIn_r _ [13] (by decide +kernel) (by decide +kernel)
set_option maxRecDepth 20000 in
theorem gX4_posted_X4_isMonth : GoodIn wsX4_posted (va_wsS RX4 37 yX4_isMonth wsX4_isMonth) := goodIn_app (goodIn_of _ (by decide +kernel)) ggX4_posted_X4_isMonth
theorem dX4_posted_0 : decode cX4_posted 0 = .ok (.aload_n 0, 1) := by decide +kernel
theorem dX4_posted_1 : decode cX4_posted 1 = .ok (.iload_n 1, 1) := by decide +kernel
theorem dX4_posted_2 : decode cX4_posted 2 = .ok (.invokevirtual 66, 3) := by decide +kernel
theorem dX4_posted_5 : decode cX4_posted 5 = .ok (.astore_n 3, 1) := by decide +kernel
theorem dX4_posted_6 : decode cX4_posted 6 = .ok (.aload_n 3, 1) := by decide +kernel
theorem dX4_posted_7 : decode cX4_posted 7 = .ok (.ifnull 10, 3) := by decide +kernel
theorem dX4_posted_10 : decode cX4_posted 10 = .ok (.iload_n 2, 1) := by decide +kernel
theorem dX4_posted_11 : decode cX4_posted 11 = .ok (.invokestatic 37, 3) := by decide +kernel
theorem dX4_posted_14 : decode cX4_posted 14 = .ok (.ifCond .ne 13, 3) := by decide +kernel
theorem dX4_posted_17 : decode cX4_posted 17 = .ok (.new 47, 3) := by decide +kernel
theorem dX4_posted_20 : decode cX4_posted 20 = .ok (.dup, 1) := by decide +kernel
theorem dX4_posted_21 : decode cX4_posted 21 = .ok (.ldc 154, 2) := by decide +kernel
theorem dX4_posted_23 : decode cX4_posted 23 = .ok (.invokespecial 51, 3) := by decide +kernel
theorem dX4_posted_26 : decode cX4_posted 26 = .ok (.athrow, 1) := by decide +kernel
theorem dX4_posted_27 : decode cX4_posted 27 = .ok (.aload_n 3, 1) := by decide +kernel
theorem dX4_posted_28 : decode cX4_posted 28 = .ok (.getfield 167, 3) := by decide +kernel
theorem dX4_posted_31 : decode cX4_posted 31 = .ok (.iload_n 2, 1) := by decide +kernel
theorem dX4_posted_32 : decode cX4_posted 32 = .ok (.laload, 1) := by decide +kernel
theorem dX4_posted_33 : decode cX4_posted 33 = .ok (.lreturn, 1) := by decide +kernel
set_option maxRecDepth 20000 in
theorem ggX4_total_X4_partOf : GoodIn wsX4_total wsX4_partOf := goodIn_r _ [8, 9, 10, 22, 23, 24, 25, 26, 27, 28] (by decide +kernel) (by decide +kernel)
set_option maxRecDepth 20000 in
theorem gX4_total_X4_partOf : GoodIn wsX4_total (wsV RX4 66 RX4 yX4_partOf wsX4_partOf) := goodIn_app (goodIn_of _ (by decide +kernel)) ggX4_total_X4_partOf
theorem dX4_total_0 : decode cX4_total 0 = .ok (.aload_n 0, 1) := by decide +kernel
theorem dX4_total_1 : decode cX4_total 1 = .ok (.iload_n 1, 1) := by decide +kernel
theorem dX4_total_2 : decode cX4_total 2 = .ok (.invokevirtual 66, 3) := by decide +kernel
theorem dX4_total_5 : decode cX4_total 5 = .ok (.astore_n 2, 1) := by decide +kernel
theorem dX4_total_6 : decode cX4_total 6 = .ok (.aload_n 2, 1) := by decide +kernel
theorem dX4_total_7 : decode cX4_total 7 = .ok (.ifnonnull 13, 3) := by decide +kernel
theorem dX4_total_10 : decode cX4_total 10 = .ok (.new 47, 3) := by decide +kernel
theorem dX4_total_13 : decode cX4_total 13 = .ok (.dup, 1) := by decide +kernel
theorem dX4_total_14 : decode cX4_total 14 = .ok (.ldc 177, 2) := by decide +kernel
theorem dX4_total_16 : decode cX4_total 16 = .ok (.invokespecial 51, 3) := by decide +kernel
theorem dX4_total_19 : decode cX4_total 19 = .ok (.athrow, 1) := by decide +kernel
theorem dX4_total_20 : decode cX4_total 20 = .ok (.aload_n 2, 1) := by decide +kernel
theorem dX4_total_21 : decode cX4_total 21 = .ok (.getfield 174, 3) := by decide +kernel
theorem dX4_total_24 : decode cX4_total 24 = .ok (.lreturn, 1) := by decide +kernel
theorem dX4_parts_0 : decode cX4_parts 0 = .ok (.aload_n 0, 1) := by decide +kernel
theorem dX4_parts_1 : decode cX4_parts 1 = .ok (.getfield 54, 3) := by decide +kernel
theorem dX4_parts_4 : decode cX4_parts 4 = .ok (.ireturn, 1) := by decide +kernel
theorem dX4_partOf_0 : decode cX4_partOf 0 = .ok (.iload_n 1, 1) := by decide +kernel
theorem dX4_partOf_1 : decode cX4_partOf 1 = .ok (.ifCond .lt 20, 3) := by decide +kernel
theorem dX4_partOf_4 : decode cX4_partOf 4 = .ok (.iload_n 1, 1) := by decide +kernel
theorem dX4_partOf_5 : decode cX4_partOf 5 = .ok (.aload_n 0, 1) := by decide +kernel
theorem dX4_partOf_6 : decode cX4_partOf 6 = .ok (.getfield 54, 3) := by decide +kernel
theorem dX4_partOf_9 : decode cX4_partOf 9 = .ok (.if_icmp .ge 12, 3) := by decide +kernel
theorem dX4_partOf_12 : decode cX4_partOf 12 = .ok (.aload_n 0, 1) := by decide +kernel
theorem dX4_partOf_13 : decode cX4_partOf 13 = .ok (.getfield 11, 3) := by decide +kernel
theorem dX4_partOf_16 : decode cX4_partOf 16 = .ok (.iload_n 1, 1) := by decide +kernel
theorem dX4_partOf_17 : decode cX4_partOf 17 = .ok (.aaload, 1) := by decide +kernel
theorem dX4_partOf_18 : decode cX4_partOf 18 = .ok (.goto 4, 3) := by decide +kernel
theorem dX4_partOf_21 : decode cX4_partOf 21 = .ok (.aconst_null, 1) := by decide +kernel
theorem dX4_partOf_22 : decode cX4_partOf 22 = .ok (.areturn, 1) := by decide +kernel
theorem dX4_eventOf_0 : decode cX4_eventOf 0 = .ok (.iload_n 1, 1) := by decide +kernel
theorem dX4_eventOf_1 : decode cX4_eventOf 1 = .ok (.ifCond .lt 20, 3) := by decide +kernel
theorem dX4_eventOf_4 : decode cX4_eventOf 4 = .ok (.iload_n 1, 1) := by decide +kernel
theorem dX4_eventOf_5 : decode cX4_eventOf 5 = .ok (.aload_n 0, 1) := by decide +kernel
theorem dX4_eventOf_6 : decode cX4_eventOf 6 = .ok (.getfield 99, 3) := by decide +kernel
theorem dX4_eventOf_9 : decode cX4_eventOf 9 = .ok (.if_icmp .ge 12, 3) := by decide +kernel
theorem dX4_eventOf_12 : decode cX4_eventOf 12 = .ok (.aload_n 0, 1) := by decide +kernel
theorem dX4_eventOf_13 : decode cX4_eventOf 13 = .ok (.getfield 17, 3) := by decide +kernel
theorem dX4_eventOf_16 : decode cX4_eventOf 16 = .ok (.iload_n 1, 1) := by decide +kernel
theorem dX4_eventOf_17 : decode cX4_eventOf 17 = .ok (.aaload, 1) := by decide +kernel
theorem dX4_eventOf_18 : decode cX4_eventOf 18 = .ok (.goto 4, 3) := by decide +kernel
theorem dX4_eventOf_21 : decode cX4_eventOf 21 = .ok (.aconst_null, 1) := by decide +kernel
theorem dX4_eventOf_22 : decode cX4_eventOf 22 = .ok (.areturn, 1) := by decide +kernel
set_option maxRecDepth 20000 in
theorem ggX4_hasBreach_X4_follow : GoodIn wsX4_hasBreach wsX4_follow := goodIn_r _ [6, 1, 7, 8, 9, 10, 11, 12, 13, 14, 15, 16, 17, 18, 19, 20, 21, 22, 23, 24, 25, 26, 27, 28, 29, 30, 31, 32, 33, 34, 35, 36, 37, 38, 39, 40, 41, 42, 43, 44, 45, 46, 47, 48, 49, 50, 51, 52, 53, 54, 55, 56, 57, 58, 59, 60, 61, 62, 63, 64, 65, 66, 67, 68, 69, 70, 71, 72, 73, 74, 75, 76, 77, 78, 79, 80, 81, 82, 83, 84, 85, 86, 87, 88, 89, 90, 91, 92, 93, 94, 95, 96, 97, 98, 99, 100, 101, 102, 103, 104, 105, 106, 5, 107, 108, 109, 110, 111, 112, 113, 114, 115, 116, 117, 118, 119, 120, 121, 122, 123, 124, 125, 126, 127, 128, 129, 130, 131, 132, 133, 134, 135, 136, 152, 153, 154, 155, 156, 157, 158, 159, 160, 161, 162, 163, 164, 165, 166, 167, 137, 138, 139, 140, 141, 142, 143, 144, 145, 146, 147, 148, 149, 150, 151, 168, 169, 170, 171, 172, 173] (by decide +kernel) (by decide +kernel)
set_option maxRecDepth 20000 in
theorem gX4_hasBreach_X4_follow : GoodIn wsX4_hasBreach (wsV RX4 127 RX4 yX4_follow wsX4_follow) := goodIn_app (goodIn_of _ (by decide +kernel)) ggX4_hasBreach_X4_follow
theorem dX4_hasBreach_0 : decode cX4_hasBreach 0 = .ok (.aload_n 0, 1) := by decide +kernel
theorem dX4_hasBreach_1 : decode cX4_hasBreach 1 = .ok (.aload_n 1, 1) := by decide +kernel
theorem dX4_hasBreach_2 : decode cX4_hasBreach 2 = .ok (.bipush 35, 2) := by decide +kernel
theorem dX4_hasBreach_4 : decode cX4_hasBreach 4 = .ok (.invokevirtual 127, 3) := by decide +kernel
theorem dX4_hasBreach_7 : decode cX4_hasBreach 7 = .ok (.aload_n 0, 1) := by decide +kernel
theorem dX4_hasBreach_8 : decode cX4_hasBreach 8 = .ok (.getfield 24, 3) := by decide +kernel
theorem dX4_hasBreach_11 : decode cX4_hasBreach 11 = .ok (.getfield 179, 3) := by decide +kernel
theorem dX4_hasBreach_14 : decode cX4_hasBreach 14 = .ok (.ireturn, 1) := by decide +kernel
set_option maxRecDepth 20000 in
theorem ggX4_follow_X0_open : GoodIn wsX4_follow wsX0_open := goodIn_r _ [12, 13, 14, 15, 16, 17, 18, 19, 20, 21, 22, 23, 24, 25, 26, 27, 28, 29, 30, 31, 32, 33, 34, 11, 35, 36, 37, 38, 39, 40, 41, 42, 43, 44, 45, 46, 47, 48, 49, 50, 51, 52, 53, 54, 55, 133, 134, 135, 136, 137, 138, 139, 140, 141, 142, 143, 149, 150, 151, 152, 153, 154, 155, 156, 157, 158, 159, 160, 161, 162, 163, 164, 165, 166, 167, 168, 169] (by decide +kernel) (by decide +kernel)
set_option maxRecDepth 20000 in
theorem gX4_follow_X0_open : GoodIn wsX4_follow (wsV RX4 183 RX0 yX0_open wsX0_open) := goodIn_app (goodIn_of _ (by decide +kernel)) ggX4_follow_X0_open
set_option maxRecDepth 20000 in
theorem ggX4_follow_X0_bookOrNone : GoodIn wsX4_follow wsX0_bookOrNone := goodIn_r _ [59, 28, 60, 41, 42, 43, 11, 44, 18, 19, 149, 150, 151, 152, 153, 154, 155, 156, 157, 158, 159, 160, 161, 162, 163] (by decide +kernel) (by decide +kernel)
set_option maxRecDepth 20000 in
theorem gX4_follow_X0_bookOrNone : GoodIn wsX4_follow (wsV RX4 159 RX0 yX0_bookOrNone wsX0_bookOrNone) := goodIn_app (goodIn_of _ (by decide +kernel)) ggX4_follow_X0_bookOrNone
set_option maxRecDepth 20000 in
theorem ggX4_follow_X0_meet : GoodIn wsX4_follow wsX0_meet := goodIn_r _ [64, 28, 65, 66, 67, 68, 11, 69, 27, 26, 25, 23, 70, 19, 41, 42, 43, 44, 18, 71, 72, 73, 74, 75, 76, 77, 78, 79, 20, 80, 81, 82, 83, 84, 85, 39, 86, 21, 87, 88, 89, 90, 91, 92, 93, 94, 95, 96, 97, 98, 99, 100, 101, 102, 103, 104, 32, 33, 34, 35, 36, 37, 38, 40, 16, 29, 45, 46, 47, 48, 49, 50, 51, 52, 53, 54, 55, 149, 150, 151, 152, 153, 154, 155, 156, 157, 158, 159, 160, 161, 162, 163, 144, 145, 146, 147, 148, 164, 165, 166, 167, 168, 169] (by decide +kernel) (by decide +kernel)
set_option maxRecDepth 20000 in
theorem gX4_follow_X0_meet : GoodIn wsX4_follow (wsV RX4 187 RX0 yX0_meet wsX0_meet) := goodIn_app (goodIn_of _ (by decide +kernel)) ggX4_follow_X0_meet
set_option maxRecDepth 20000 in
theorem ggX4_follow_X0_chargeMonth : GoodIn wsX4_follow wsX0_chargeMonth := goodIn_r _ [108, 30, 26, 27, 25, 14, 36, 29, 19, 31, 109, 110, 111, 11, 112, 23, 16, 99, 37, 38, 39, 40, 84, 85, 86, 41, 42, 43, 44, 18, 101, 102, 103, 104, 113, 114, 115, 48, 116, 53, 54, 55, 117, 118, 119, 120, 50, 51, 52, 121, 122, 123, 124, 125, 149, 150, 151, 152, 153, 154, 155, 156, 157, 158, 159, 160, 161, 162, 163, 164, 165, 166, 167, 168, 169] (by decide +kernel) (by decide +kernel)
set_option maxRecDepth 20000 in
theorem gX4_follow_X0_chargeMonth : GoodIn wsX4_follow (wsV RX4 193 RX0 yX0_chargeMonth wsX0_chargeMonth) := goodIn_app (goodIn_of _ (by decide +kernel)) ggX4_follow_X0_chargeMonth
theorem dX4_follow_0 : decode cX4_follow 0 = .ok (.aload_n 0, 1) := by decide +kernel
theorem dX4_follow_1 : decode cX4_follow 1 = .ok (.getfield 24, 3) := by decide +kernel
theorem dX4_follow_4 : decode cX4_follow 4 = .ok (.aload_n 1, 1) := by decide +kernel
theorem dX4_follow_5 : decode cX4_follow 5 = .ok (.invokevirtual 183, 3) := by decide +kernel
theorem dX4_follow_8 : decode cX4_follow 8 = .ok (.aload_n 0, 1) := by decide +kernel
theorem dX4_follow_9 : decode cX4_follow 9 = .ok (.getfield 28, 3) := by decide +kernel
theorem dX4_follow_12 : decode cX4_follow 12 = .ok (.aload_n 1, 1) := by decide +kernel
theorem dX4_follow_13 : decode cX4_follow 13 = .ok (.invokevirtual 183, 3) := by decide +kernel
theorem dX4_follow_16 : decode cX4_follow 16 = .ok (.aload_n 1, 1) := by decide +kernel
theorem dX4_follow_17 : decode cX4_follow 17 = .ok (.getfield 84, 3) := by decide +kernel
theorem dX4_follow_20 : decode cX4_follow 20 = .ok (.istore_n 3, 1) := by decide +kernel
theorem dX4_follow_21 : decode cX4_follow 21 = .ok (.iload_n 3, 1) := by decide +kernel
theorem dX4_follow_22 : decode cX4_follow 22 = .ok (.iload_n 2, 1) := by decide +kernel
theorem dX4_follow_23 : decode cX4_follow 23 = .ok (.if_icmp .gt 94, 3) := by decide +kernel
theorem dX4_follow_26 : decode cX4_follow 26 = .ok (.aload_n 1, 1) := by decide +kernel
theorem dX4_follow_27 : decode cX4_follow 27 = .ok (.getfield 93, 3) := by decide +kernel
theorem dX4_follow_30 : decode cX4_follow 30 = .ok (.iload_n 3, 1) := by decide +kernel
theorem dX4_follow_31 : decode cX4_follow 31 = .ok (.aaload, 1) := by decide +kernel
theorem dX4_follow_32 : decode cX4_follow 32 = .ok (.astore 4, 2) := by decide +kernel
theorem dX4_follow_34 : decode cX4_follow 34 = .ok (.aload 4, 2) := by decide +kernel
theorem dX4_follow_36 : decode cX4_follow 36 = .ok (.ifnull 49, 3) := by decide +kernel
theorem dX4_follow_39 : decode cX4_follow 39 = .ok (.aload_n 0, 1) := by decide +kernel
theorem dX4_follow_40 : decode cX4_follow 40 = .ok (.getfield 24, 3) := by decide +kernel
theorem dX4_follow_43 : decode cX4_follow 43 = .ok (.aload 4, 2) := by decide +kernel
theorem dX4_follow_45 : decode cX4_follow 45 = .ok (.aload_n 0, 1) := by decide +kernel
theorem dX4_follow_46 : decode cX4_follow 46 = .ok (.getfield 28, 3) := by decide +kernel
theorem dX4_follow_49 : decode cX4_follow 49 = .ok (.invokevirtual 159, 3) := by decide +kernel
theorem dX4_follow_52 : decode cX4_follow 52 = .ok (.invokevirtual 187, 3) := by decide +kernel
theorem dX4_follow_55 : decode cX4_follow 55 = .ok (.aload 4, 2) := by decide +kernel
theorem dX4_follow_57 : decode cX4_follow 57 = .ok (.getfield 117, 3) := by decide +kernel
theorem dX4_follow_60 : decode cX4_follow 60 = .ok (.iconst 3, 1) := by decide +kernel
theorem dX4_follow_61 : decode cX4_follow 61 = .ok (.if_icmp .eq 24, 3) := by decide +kernel
theorem dX4_follow_64 : decode cX4_follow 64 = .ok (.aload 4, 2) := by decide +kernel
theorem dX4_follow_66 : decode cX4_follow 66 = .ok (.getfield 117, 3) := by decide +kernel
theorem dX4_follow_69 : decode cX4_follow 69 = .ok (.iconst 4, 1) := by decide +kernel
theorem dX4_follow_70 : decode cX4_follow 70 = .ok (.if_icmp .eq 15, 3) := by decide +kernel
theorem dX4_follow_73 : decode cX4_follow 73 = .ok (.aload_n 0, 1) := by decide +kernel
theorem dX4_follow_74 : decode cX4_follow 74 = .ok (.getfield 28, 3) := by decide +kernel
theorem dX4_follow_77 : decode cX4_follow 77 = .ok (.aload 4, 2) := by decide +kernel
theorem dX4_follow_79 : decode cX4_follow 79 = .ok (.ldc2_w 191, 3) := by decide +kernel
theorem dX4_follow_82 : decode cX4_follow 82 = .ok (.invokevirtual 187, 3) := by decide +kernel
theorem dX4_follow_85 : decode cX4_follow 85 = .ok (.aload_n 0, 1) := by decide +kernel
theorem dX4_follow_86 : decode cX4_follow 86 = .ok (.getfield 24, 3) := by decide +kernel
theorem dX4_follow_89 : decode cX4_follow 89 = .ok (.aload_n 1, 1) := by decide +kernel
theorem dX4_follow_90 : decode cX4_follow 90 = .ok (.getfield 74, 3) := by decide +kernel
theorem dX4_follow_93 : decode cX4_follow 93 = .ok (.iload_n 3, 1) := by decide +kernel
theorem dX4_follow_94 : decode cX4_follow 94 = .ok (.iaload, 1) := by decide +kernel
theorem dX4_follow_95 : decode cX4_follow 95 = .ok (.invokevirtual 193, 3) := by decide +kernel
theorem dX4_follow_98 : decode cX4_follow 98 = .ok (.aload_n 0, 1) := by decide +kernel
theorem dX4_follow_99 : decode cX4_follow 99 = .ok (.getfield 28, 3) := by decide +kernel
theorem dX4_follow_102 : decode cX4_follow 102 = .ok (.aload_n 1, 1) := by decide +kernel
theorem dX4_follow_103 : decode cX4_follow 103 = .ok (.getfield 74, 3) := by decide +kernel
theorem dX4_follow_106 : decode cX4_follow 106 = .ok (.iload_n 3, 1) := by decide +kernel
theorem dX4_follow_107 : decode cX4_follow 107 = .ok (.iaload, 1) := by decide +kernel
theorem dX4_follow_108 : decode cX4_follow 108 = .ok (.invokevirtual 193, 3) := by decide +kernel
theorem dX4_follow_111 : decode cX4_follow 111 = .ok (.iinc 3 1, 3) := by decide +kernel
theorem dX4_follow_114 : decode cX4_follow 114 = .ok (.goto (-93), 3) := by decide +kernel
theorem dX4_follow_117 : decode cX4_follow 117 = .ok (.return_, 1) := by decide +kernel
theorem dX4_isWithin_0 : decode cX4_isWithin 0 = .ok (.lload_n 0, 1) := by decide +kernel
theorem dX4_isWithin_1 : decode cX4_isWithin 1 = .ok (.lload_n 2, 1) := by decide +kernel
theorem dX4_isWithin_2 : decode cX4_isWithin 2 = .ok (.lcmp, 1) := by decide +kernel
theorem dX4_isWithin_3 : decode cX4_isWithin 3 = .ok (.ifCond .lt 14, 3) := by decide +kernel
theorem dX4_isWithin_6 : decode cX4_isWithin 6 = .ok (.lload_n 0, 1) := by decide +kernel
theorem dX4_isWithin_7 : decode cX4_isWithin 7 = .ok (.lload 4, 2) := by decide +kernel
theorem dX4_isWithin_9 : decode cX4_isWithin 9 = .ok (.lcmp, 1) := by decide +kernel
theorem dX4_isWithin_10 : decode cX4_isWithin 10 = .ok (.ifCond .gt 7, 3) := by decide +kernel
theorem dX4_isWithin_13 : decode cX4_isWithin 13 = .ok (.iconst 1, 1) := by decide +kernel
theorem dX4_isWithin_14 : decode cX4_isWithin 14 = .ok (.goto 4, 3) := by decide +kernel
theorem dX4_isWithin_17 : decode cX4_isWithin 17 = .ok (.iconst 0, 1) := by decide +kernel
theorem dX4_isWithin_18 : decode cX4_isWithin 18 = .ok (.ireturn, 1) := by decide +kernel
theorem dX4_isMonth_0 : decode cX4_isMonth 0 = .ok (.iload_n 0, 1) := by decide +kernel
theorem dX4_isMonth_1 : decode cX4_isMonth 1 = .ok (.ifCond .lt 13, 3) := by decide +kernel
theorem dX4_isMonth_4 : decode cX4_isMonth 4 = .ok (.iload_n 0, 1) := by decide +kernel
theorem dX4_isMonth_5 : decode cX4_isMonth 5 = .ok (.bipush 36, 2) := by decide +kernel
theorem dX4_isMonth_7 : decode cX4_isMonth 7 = .ok (.if_icmp .ge 7, 3) := by decide +kernel
theorem dX4_isMonth_10 : decode cX4_isMonth 10 = .ok (.iconst 1, 1) := by decide +kernel
theorem dX4_isMonth_11 : decode cX4_isMonth 11 = .ok (.goto 4, 3) := by decide +kernel
theorem dX4_isMonth_14 : decode cX4_isMonth 14 = .ok (.iconst 0, 1) := by decide +kernel
theorem dX4_isMonth_15 : decode cX4_isMonth 15 = .ok (.ireturn, 1) := by decide +kernel
set_option maxRecDepth 20000 in
theorem ggX4_isRateOf_X4_isWithin : GoodIn wsX4_isRateOf wsX4_isWithin := goodIn_r _ [5] (by decide +kernel) (by decide +kernel)
set_option maxRecDepth 20000 in
theorem gX4_isRateOf_X4_isWithin : GoodIn wsX4_isRateOf (va_wsS RX4 33 yX4_isWithin wsX4_isWithin) := goodIn_app (goodIn_of _ (by decide +kernel)) ggX4_isRateOf_X4_isWithin
theorem dX4_isRateOf_0 : decode cX4_isRateOf 0 = .ok (.iload_n 0, 1) := by decide +kernel
theorem dX4_isRateOf_1 : decode cX4_isRateOf 1 = .ok (.tableswitch 51 0 3 #[31, 41, 31, 41], 31) := by decide +kernel
theorem dX4_isRateOf_32 : decode cX4_isRateOf 32 = .ok (.iload_n 1, 1) := by decide +kernel
theorem dX4_isRateOf_33 : decode cX4_isRateOf 33 = .ok (.ifCond .ne 7, 3) := by decide +kernel
theorem dX4_isRateOf_36 : decode cX4_isRateOf 36 = .ok (.iconst 1, 1) := by decide +kernel
theorem dX4_isRateOf_37 : decode cX4_isRateOf 37 = .ok (.goto 4, 3) := by decide +kernel
theorem dX4_isRateOf_40 : decode cX4_isRateOf 40 = .ok (.iconst 0, 1) := by decide +kernel
theorem dX4_isRateOf_41 : decode cX4_isRateOf 41 = .ok (.ireturn, 1) := by decide +kernel
theorem dX4_isRateOf_42 : decode cX4_isRateOf 42 = .ok (.iload_n 1, 1) := by decide +kernel
theorem dX4_isRateOf_43 : decode cX4_isRateOf 43 = .ok (.i2l, 1) := by decide +kernel
theorem dX4_isRateOf_44 : decode cX4_isRateOf 44 = .ok (.lconst 1, 1) := by decide +kernel
theorem dX4_isRateOf_45 : decode cX4_isRateOf 45 = .ok (.ldc2_w 70, 3) := by decide +kernel
theorem dX4_isRateOf_48 : decode cX4_isRateOf 48 = .ok (.invokestatic 33, 3) := by decide +kernel
theorem dX4_isRateOf_51 : decode cX4_isRateOf 51 = .ok (.ireturn, 1) := by decide +kernel
theorem dX4_isRateOf_52 : decode cX4_isRateOf 52 = .ok (.iconst 0, 1) := by decide +kernel
theorem dX4_isRateOf_53 : decode cX4_isRateOf 53 = .ok (.ireturn, 1) := by decide +kernel
set_option maxRecDepth 20000 in
theorem ggX4_isEvent_X4_isWithin : GoodIn wsX4_isEvent wsX4_isWithin := goodIn_r _ [7] (by decide +kernel) (by decide +kernel)
set_option maxRecDepth 20000 in
theorem gX4_isEvent_X4_isWithin : GoodIn wsX4_isEvent (va_wsS RX4 33 yX4_isWithin wsX4_isWithin) := goodIn_app (goodIn_of _ (by decide +kernel)) ggX4_isEvent_X4_isWithin
theorem dX4_isEvent_0 : decode cX4_isEvent 0 = .ok (.iload_n 0, 1) := by decide +kernel
theorem dX4_isEvent_1 : decode cX4_isEvent 1 = .ok (.tableswitch 158 0 7 #[47, 68, 97, 97, 97, 118, 142, 142], 47) := by decide +kernel
theorem dX4_isEvent_48 : decode cX4_isEvent 48 = .ok (.lload_n 1, 1) := by decide +kernel
theorem dX4_isEvent_49 : decode cX4_isEvent 49 = .ok (.lconst 1, 1) := by decide +kernel
theorem dX4_isEvent_50 : decode cX4_isEvent 50 = .ok (.ldc2_w 31, 3) := by decide +kernel
theorem dX4_isEvent_53 : decode cX4_isEvent 53 = .ok (.invokestatic 33, 3) := by decide +kernel
theorem dX4_isEvent_56 : decode cX4_isEvent 56 = .ok (.ifCond .eq 11, 3) := by decide +kernel
theorem dX4_isEvent_59 : decode cX4_isEvent 59 = .ok (.iload_n 3, 1) := by decide +kernel
theorem dX4_isEvent_60 : decode cX4_isEvent 60 = .ok (.ifCond .ne 7, 3) := by decide +kernel
theorem dX4_isEvent_63 : decode cX4_isEvent 63 = .ok (.iconst 1, 1) := by decide +kernel
theorem dX4_isEvent_64 : decode cX4_isEvent 64 = .ok (.goto 4, 3) := by decide +kernel
theorem dX4_isEvent_67 : decode cX4_isEvent 67 = .ok (.iconst 0, 1) := by decide +kernel
theorem dX4_isEvent_68 : decode cX4_isEvent 68 = .ok (.ireturn, 1) := by decide +kernel
theorem dX4_isEvent_69 : decode cX4_isEvent 69 = .ok (.lload_n 1, 1) := by decide +kernel
theorem dX4_isEvent_70 : decode cX4_isEvent 70 = .ok (.lconst 0, 1) := by decide +kernel
theorem dX4_isEvent_71 : decode cX4_isEvent 71 = .ok (.ldc2_w 31, 3) := by decide +kernel
theorem dX4_isEvent_74 : decode cX4_isEvent 74 = .ok (.invokestatic 33, 3) := by decide +kernel
theorem dX4_isEvent_77 : decode cX4_isEvent 77 = .ok (.ifCond .eq 19, 3) := by decide +kernel
theorem dX4_isEvent_80 : decode cX4_isEvent 80 = .ok (.iload_n 3, 1) := by decide +kernel
theorem dX4_isEvent_81 : decode cX4_isEvent 81 = .ok (.i2l, 1) := by decide +kernel
theorem dX4_isEvent_82 : decode cX4_isEvent 82 = .ok (.lconst 1, 1) := by decide +kernel
theorem dX4_isEvent_83 : decode cX4_isEvent 83 = .ok (.ldc2_w 41, 3) := by decide +kernel
theorem dX4_isEvent_86 : decode cX4_isEvent 86 = .ok (.invokestatic 33, 3) := by decide +kernel
theorem dX4_isEvent_89 : decode cX4_isEvent 89 = .ok (.ifCond .eq 7, 3) := by decide +kernel
theorem dX4_isEvent_92 : decode cX4_isEvent 92 = .ok (.iconst 1, 1) := by decide +kernel
theorem dX4_isEvent_93 : decode cX4_isEvent 93 = .ok (.goto 4, 3) := by decide +kernel
theorem dX4_isEvent_96 : decode cX4_isEvent 96 = .ok (.iconst 0, 1) := by decide +kernel
theorem dX4_isEvent_97 : decode cX4_isEvent 97 = .ok (.ireturn, 1) := by decide +kernel
theorem dX4_isEvent_98 : decode cX4_isEvent 98 = .ok (.lload_n 1, 1) := by decide +kernel
theorem dX4_isEvent_99 : decode cX4_isEvent 99 = .ok (.lconst 0, 1) := by decide +kernel
theorem dX4_isEvent_100 : decode cX4_isEvent 100 = .ok (.ldc2_w 31, 3) := by decide +kernel
theorem dX4_isEvent_103 : decode cX4_isEvent 103 = .ok (.invokestatic 33, 3) := by decide +kernel
theorem dX4_isEvent_106 : decode cX4_isEvent 106 = .ok (.ifCond .eq 11, 3) := by decide +kernel
theorem dX4_isEvent_109 : decode cX4_isEvent 109 = .ok (.iload_n 3, 1) := by decide +kernel
theorem dX4_isEvent_110 : decode cX4_isEvent 110 = .ok (.ifCond .ne 7, 3) := by decide +kernel
theorem dX4_isEvent_113 : decode cX4_isEvent 113 = .ok (.iconst 1, 1) := by decide +kernel
theorem dX4_isEvent_114 : decode cX4_isEvent 114 = .ok (.goto 4, 3) := by decide +kernel
theorem dX4_isEvent_117 : decode cX4_isEvent 117 = .ok (.iconst 0, 1) := by decide +kernel
theorem dX4_isEvent_118 : decode cX4_isEvent 118 = .ok (.ireturn, 1) := by decide +kernel
theorem dX4_isEvent_119 : decode cX4_isEvent 119 = .ok (.lload_n 1, 1) := by decide +kernel
theorem dX4_isEvent_120 : decode cX4_isEvent 120 = .ok (.lconst 0, 1) := by decide +kernel
theorem dX4_isEvent_121 : decode cX4_isEvent 121 = .ok (.lcmp, 1) := by decide +kernel
theorem dX4_isEvent_122 : decode cX4_isEvent 122 = .ok (.ifCond .ne 19, 3) := by decide +kernel
theorem dX4_isEvent_125 : decode cX4_isEvent 125 = .ok (.iload_n 3, 1) := by decide +kernel
theorem dX4_isEvent_126 : decode cX4_isEvent 126 = .ok (.i2l, 1) := by decide +kernel
theorem dX4_isEvent_127 : decode cX4_isEvent 127 = .ok (.lconst 1, 1) := by decide +kernel
theorem dX4_isEvent_128 : decode cX4_isEvent 128 = .ok (.ldc2_w 70, 3) := by decide +kernel
theorem dX4_isEvent_131 : decode cX4_isEvent 131 = .ok (.invokestatic 33, 3) := by decide +kernel
theorem dX4_isEvent_134 : decode cX4_isEvent 134 = .ok (.ifCond .eq 7, 3) := by decide +kernel
theorem dX4_isEvent_137 : decode cX4_isEvent 137 = .ok (.iconst 1, 1) := by decide +kernel
theorem dX4_isEvent_138 : decode cX4_isEvent 138 = .ok (.goto 4, 3) := by decide +kernel
theorem dX4_isEvent_141 : decode cX4_isEvent 141 = .ok (.iconst 0, 1) := by decide +kernel
theorem dX4_isEvent_142 : decode cX4_isEvent 142 = .ok (.ireturn, 1) := by decide +kernel
theorem dX4_isEvent_143 : decode cX4_isEvent 143 = .ok (.lload_n 1, 1) := by decide +kernel
theorem dX4_isEvent_144 : decode cX4_isEvent 144 = .ok (.lconst 0, 1) := by decide +kernel
theorem dX4_isEvent_145 : decode cX4_isEvent 145 = .ok (.lcmp, 1) := by decide +kernel
theorem dX4_isEvent_146 : decode cX4_isEvent 146 = .ok (.ifCond .ne 11, 3) := by decide +kernel
theorem dX4_isEvent_149 : decode cX4_isEvent 149 = .ok (.iload_n 3, 1) := by decide +kernel
theorem dX4_isEvent_150 : decode cX4_isEvent 150 = .ok (.ifCond .ne 7, 3) := by decide +kernel
theorem dX4_isEvent_153 : decode cX4_isEvent 153 = .ok (.iconst 1, 1) := by decide +kernel
theorem dX4_isEvent_154 : decode cX4_isEvent 154 = .ok (.goto 4, 3) := by decide +kernel
theorem dX4_isEvent_157 : decode cX4_isEvent 157 = .ok (.iconst 0, 1) := by decide +kernel
theorem dX4_isEvent_158 : decode cX4_isEvent 158 = .ok (.ireturn, 1) := by decide +kernel
theorem dX4_isEvent_159 : decode cX4_isEvent 159 = .ok (.iconst 0, 1) := by decide +kernel
theorem dX4_isEvent_160 : decode cX4_isEvent 160 = .ok (.ireturn, 1) := by decide +kernel
theorem dX4_rounded_0 : decode cX4_rounded 0 = .ok (.lload_n 2, 1) := by decide +kernel
theorem dX4_rounded_1 : decode cX4_rounded 1 = .ok (.lconst 0, 1) := by decide +kernel
theorem dX4_rounded_2 : decode cX4_rounded 2 = .ok (.lcmp, 1) := by decide +kernel
theorem dX4_rounded_3 : decode cX4_rounded 3 = .ok (.ifCond .le 19, 3) := by decide +kernel
theorem dX4_rounded_6 : decode cX4_rounded 6 = .ok (.ldc2_w 197, 3) := by decide +kernel
theorem dX4_rounded_9 : decode cX4_rounded 9 = .ok (.lload_n 0, 1) := by decide +kernel
theorem dX4_rounded_10 : decode cX4_rounded 10 = .ok (.lmul, 1) := by decide +kernel
theorem dX4_rounded_11 : decode cX4_rounded 11 = .ok (.lload_n 2, 1) := by decide +kernel
theorem dX4_rounded_12 : decode cX4_rounded 12 = .ok (.ladd, 1) := by decide +kernel
theorem dX4_rounded_13 : decode cX4_rounded 13 = .ok (.ldc2_w 197, 3) := by decide +kernel
theorem dX4_rounded_16 : decode cX4_rounded 16 = .ok (.lload_n 2, 1) := by decide +kernel
theorem dX4_rounded_17 : decode cX4_rounded 17 = .ok (.lmul, 1) := by decide +kernel
theorem dX4_rounded_18 : decode cX4_rounded 18 = .ok (.ldiv, 1) := by decide +kernel
theorem dX4_rounded_19 : decode cX4_rounded 19 = .ok (.goto 4, 3) := by decide +kernel
theorem dX4_rounded_22 : decode cX4_rounded 22 = .ok (.lconst 0, 1) := by decide +kernel
theorem dX4_rounded_23 : decode cX4_rounded 23 = .ok (.lreturn, 1) := by decide +kernel
end
section
/-! a layer over the kit's rows: a point of a walk speaks of its cells by their places, of a pool, and of the locals' list; heap, frame and locals' array are hidden -/
abbrev pw_G : Type := va_G × (ClassId × ClassId × ClassId × ClassId)
def pw_tys (G : pw_G) : List (ClassId × FieldType) := [(G.2.1, .int), (G.2.2.1, .long), (G.2.2.2.1, .object RX1), (G.2.2.2.2, .object RX2)]
/-- the words of nest mates' links -/
def pw_N : List Cond := [.methodLinkNest RX0 11 yX3_init RX4, .methodLinkNest RX0 132 yX4_rounded RX4, .methodLinkNest RX3 34 yX4_rounded RX4, .fieldLinkNest RX4 131 RX0 "cost" "J" RX4, .fieldLinkNest RX4 135 RX0 "allowance" "J" RX4, .fieldLinkNest RX4 142 RX0 "reserve" "J" RX4, .fieldLinkNest RX4 145 RX0 "losses" "J" RX4, .fieldLinkNest RX4 148 RX0 "residual" "J" RX4, .fieldLinkNest RX4 151 RX0 "restOfLife" "I" RX4, .fieldLinkNest RX4 156 RX0 "lastCharge" "J" RX4, .fieldLinkNest RX4 171 RX0 "allCharges" "J" RX4, .fieldLinkNest RX4 179 RX0 "breached" "Z" RX4]
theorem pw_N_warm {s U : State} (hW : s.WarmedH U.vm) (h : ∀ w ∈ pw_N, va_Nw w s) : ∀ w ∈ pw_N, va_Nw w U := by
  simp only [pw_N, List.forall_mem_cons] at h ⊢
  obtain ⟨h1, h2, h3, h4, h5, h6, h7, h8, h9, h10, h11, h12, -⟩ := h
  exact ⟨va_Nw.warmM hW h1, va_Nw.warmM hW h2, va_Nw.warmM hW h3, va_Nw.warmF hW h4, va_Nw.warmF hW h5, va_Nw.warmF hW h6, va_Nw.warmF hW h7, va_Nw.warmF hW h8, va_Nw.warmF hW h9, va_Nw.warmF hW h10, va_Nw.warmF hW h11, va_Nw.warmF hW h12, fun _ h => absurd h List.not_mem_nil⟩
theorem pw_N_tabs : ∀ w ∈ pw_N, w.onTables = true := by decide +kernel
theorem pw_N_same {u U : State} (hvm : u.vm = U.vm) (h : ∀ w ∈ pw_N, va_Nw w u) : ∀ w ∈ pw_N, va_Nw w U := fun w hw => va_Nw.same (pw_N_tabs w hw) hvm (h w hw)
abbrev pw_Z : Type := (Program × Launch × Env × Room × State × MethodId × Array Value × List Frame × Method × Code) × (pw_G × (Nat → Prop) × Heap)
abbrev zp (Z : pw_Z) : Program := Z.1.1
abbrev zl (Z : pw_Z) : Launch := Z.1.2.1
abbrev ze (Z : pw_Z) : Env := Z.1.2.2.1
abbrev zR (Z : pw_Z) : Room := Z.1.2.2.2.1
abbrev zs (Z : pw_Z) : State := Z.1.2.2.2.2.1
abbrev zm (Z : pw_Z) : MethodId := Z.1.2.2.2.2.2.1
abbrev zargs (Z : pw_Z) : Array Value := Z.1.2.2.2.2.2.2.1
abbrev zbelow (Z : pw_Z) : List Frame := Z.1.2.2.2.2.2.2.2.1
abbrev zmeth (Z : pw_Z) : Method := Z.1.2.2.2.2.2.2.2.2.1
abbrev zc (Z : pw_Z) : Code := Z.1.2.2.2.2.2.2.2.2.2
abbrev zG (Z : pw_Z) : pw_G := Z.2.1
abbrev zA (Z : pw_Z) : Nat → Prop := Z.2.2.1
abbrev zH (Z : pw_Z) : Heap := Z.2.2.2
/-- what stays the same through a method's body -/
def pw_C (Z : pw_Z) (cc : ByteArray) (nL : Nat) (own : String) (Ts : List Cond) (R0 : Room) (ret : Option FieldType) : Prop :=
  (zp Z).tables.exec = Jvm.exec ∧ (zc Z).code = cc ∧ (zc Z).maxLocals = nL ∧ (zs Z).vm.findClass own = some (zm Z).cls ∧ (∀ w ∈ Ts, w.before (zargs Z) (zs Z) = true) ∧ va_K (zG Z).1 vwCl (pw_tys (zG Z)) (zs Z) ∧ (∀ q, (zH Z).size ≤ q → zA Z q) ∧ zR Z = R0 ∧ (zmeth Z).sig.returnType = ret ∧ (zmeth Z).locks = false ∧ (∀ w ∈ pw_N, va_Nw w (zs Z))
/-- at pc with the locals lv and the stack st, over the cells X and the pool (L, F): it comes to Q -/
def PW (Z : pw_Z) (X : va_W) (L : List Nat) (F : Nat → va_E) (k n : Nat) (Q : State → Prop) (pc : Nat) (lv : List (Nat × Value)) (st : List Value) : Prop :=
  ∀ (H : Heap) (locs : List Loc) (ls : Array Slot), va_P (zG Z).1 vwCl (X ++ va_pl L F) H → va_D (zA Z) (X ++ va_pl L F) → va_S (zA Z) (zH Z) H locs → lv_has ls (zc Z).maxLocals lv →
    W (zp Z) (zl Z) (ze Z) (zR Z) (zs Z) (zm Z) (zargs Z) (zbelow Z) (zmeth Z) (zc Z) H locs k n Q (F0 (zm Z) pc ls st)
def pw_at (X : va_W) (L : List Nat) (F : Nat → va_E) (a : Nat) (e : va_E) : Prop := ∃ k : Nat, (X ++ va_pl L F)[k]? = some (a, e)
theorem pw_atX {X : va_W} {L : List Nat} {F : Nat → va_E} {a : Nat} {e : va_E} (q : Nat) (h : X[q]? = some (a, e)) : pw_at X L F a e := ⟨q, by rw [List.getElem?_append_left (List.getElem?_eq_some_iff.mp h).1]; exact h⟩
theorem pw_atP {X : va_W} {L : List Nat} {F : Nat → va_E} {a : Nat} {e : va_E} (hL : a ∈ L) (h : F a = e) : pw_at X L F a e := by
  obtain ⟨k, hk⟩ := va_pl_get (X := X) (f := F) hL
  exact ⟨k, by rw [hk, h]⟩
theorem pw_setX {X : va_W} {L : List Nat} {F : Nat → va_E} {q : Nat} {x y : Nat × va_E} (h : X[q]? = some x) : (X ++ va_pl L F).set q y = X.set q y ++ va_pl L F := by
  rw [List.set_append_left _ _ (List.getElem?_eq_some_iff.mp h).1]
section PWR
variable {Z : pw_Z} {X : va_W} {L : List Nat} {F : Nat → va_E} {k n : Nat} {Q : State → Prop} {pc pc2 : Nat} {lv : List (Nat × Value)} {st : List Value} {cc : ByteArray} {nL : Nat} {own : String} {Ts : List Cond} {R0 : Room} {ret : Option FieldType}
theorem pw_conv {X' : va_W} (h : X = X') (kk : PW Z X' L F k n Q pc lv st) : PW Z X L F k n Q pc lv st := by
  subst h
  exact kk
theorem pw_widen {k' n' : Nat} (h1 : k ≤ k') (h2 : n ≤ n') (kk : PW Z X L F k' n' Q pc lv st) : PW Z X L F k n Q pc lv st := fun H locs ls hP hD hS hl => W.widen h1 h2 (kk H locs ls hP hD hS hl)
/-- fewer locals, in any order -/
theorem pw_lv {lv' : List (Nat × Value)} (ks : List Nat) (h : lv_pick lv ks = lv') (kk : PW Z X L F k n Q pc lv' st) : PW Z X L F k n Q pc lv st := fun H locs ls hP hD hS hl => kk H locs ls hP hD hS (lv_sub hl ks h)
/-- the cells in another order, or fewer of them -/
theorem pw_perm {X' : va_W} (is : List Nat) (hn : va_nd is = true) (h : is.map (fun i => X[i]?) = X'.map some) (kk : PW Z X' L F k n Q pc lv st) : PW Z X L F k n Q pc lv st := fun H locs ls hP hD hS hl => kk H locs ls (hP.part is h) (hD.part is hn h) hS hl

theorem pk_iconst (C : pw_C Z cc nL own Ts R0 ret) {z : Int} {v : Int32} (hdg : decode cc pc = .ok (.iconst z, 1)) (hv : Int32.ofInt z = v) (h2 : pc + 1 = pc2) (kk : PW Z X L F k n Q pc2 lv (.int v :: st)) : PW Z X L F k n Q pc lv (st) := by
  subst h2
  exact fun H locs ls hP hD hS hl => lv_iconst C.1 C.2.1 hdg hv (kk H locs ls hP hD hS hl)
theorem pk_bipush (C : pw_C Z cc nL own Ts R0 ret) {z : Int} {v : Int32} (hdg : decode cc pc = .ok (.bipush z, 2)) (hv : (Int8.ofInt z).toInt32 = v) (h2 : pc + 2 = pc2) (kk : PW Z X L F k n Q pc2 lv (.int v :: st)) : PW Z X L F k n Q pc lv (st) := by
  subst h2
  exact fun H locs ls hP hD hS hl => lv_bipush C.1 C.2.1 hdg hv (kk H locs ls hP hD hS hl)
theorem pk_sipush (C : pw_C Z cc nL own Ts R0 ret) {z : Int} {v : Int32} (hdg : decode cc pc = .ok (.sipush z, 3)) (hv : (Int16.ofInt z).toInt32 = v) (h2 : pc + 3 = pc2) (kk : PW Z X L F k n Q pc2 lv (.int v :: st)) : PW Z X L F k n Q pc lv (st) := by
  subst h2
  exact fun H locs ls hP hD hS hl => lv_sipush C.1 C.2.1 hdg hv (kk H locs ls hP hD hS hl)
theorem pk_lconst (C : pw_C Z cc nL own Ts R0 ret) {z : Fin 2} {v : Int64} (hdg : decode cc pc = .ok (.lconst z, 1)) (hv : Int64.ofNat (z : Nat) = v) (h2 : pc + 1 = pc2) (kk : PW Z X L F k n Q pc2 lv (.long v :: st)) : PW Z X L F k n Q pc lv (st) := by
  subst h2
  exact fun H locs ls hP hD hS hl => lv_lconst C.1 C.2.1 hdg hv (kk H locs ls hP hD hS hl)
theorem pk_null (C : pw_C Z cc nL own Ts R0 ret)  (hdg : decode cc pc = .ok (.aconst_null, 1))  (h2 : pc + 1 = pc2) (kk : PW Z X L F k n Q pc2 lv (.null :: st)) : PW Z X L F k n Q pc lv (st) := by
  subst h2
  exact fun H locs ls hP hD hS hl => lv_null C.1 C.2.1 hdg  (kk H locs ls hP hD hS hl)
theorem pk_iload_n (C : pw_C Z cc nL own Ts R0 ret) {z : Fin 4} {i : Nat} {x : Int32} (j : Nat) (hdg : decode cc pc = .ok (.iload_n z, 1)) (hi : (z : Nat) = i) (hj : lv[j]? = some (i, .int x)) (h2 : pc + 1 = pc2) (kk : PW Z X L F k n Q pc2 lv (.int x :: st)) : PW Z X L F k n Q pc lv (st) := by
  subst h2
  exact fun H locs ls hP hD hS hl => lv_iload_n C.1 C.2.1 hdg hi (lv_at hl j hj) (kk H locs ls hP hD hS hl)
theorem pk_iload (C : pw_C Z cc nL own Ts R0 ret) {i : Nat} {x : Int32} (j : Nat) (hdg : decode cc pc = .ok (.iload i, 2)) (hj : lv[j]? = some (i, .int x)) (h2 : pc + 2 = pc2) (kk : PW Z X L F k n Q pc2 lv (.int x :: st)) : PW Z X L F k n Q pc lv (st) := by
  subst h2
  exact fun H locs ls hP hD hS hl => lv_iload C.1 C.2.1 hdg (lv_at hl j hj) (kk H locs ls hP hD hS hl)
theorem pk_lload_n (C : pw_C Z cc nL own Ts R0 ret) {z : Fin 4} {i : Nat} {x : Int64} (j : Nat) (hdg : decode cc pc = .ok (.lload_n z, 1)) (hi : (z : Nat) = i) (hj : lv[j]? = some (i, .long x)) (h2 : pc + 1 = pc2) (kk : PW Z X L F k n Q pc2 lv (.long x :: st)) : PW Z X L F k n Q pc lv (st) := by
  subst h2
  exact fun H locs ls hP hD hS hl => lv_lload_n C.1 C.2.1 hdg hi (lv_at hl j hj) (kk H locs ls hP hD hS hl)
theorem pk_lload (C : pw_C Z cc nL own Ts R0 ret) {i : Nat} {x : Int64} (j : Nat) (hdg : decode cc pc = .ok (.lload i, 2)) (hj : lv[j]? = some (i, .long x)) (h2 : pc + 2 = pc2) (kk : PW Z X L F k n Q pc2 lv (.long x :: st)) : PW Z X L F k n Q pc lv (st) := by
  subst h2
  exact fun H locs ls hP hD hS hl => lv_lload C.1 C.2.1 hdg (lv_at hl j hj) (kk H locs ls hP hD hS hl)
theorem pk_aload_n (C : pw_C Z cc nL own Ts R0 ret) {z : Fin 4} {i : Nat} {x : Nat} (j : Nat) (hdg : decode cc pc = .ok (.aload_n z, 1)) (hi : (z : Nat) = i) (hj : lv[j]? = some (i, .ref x)) (h2 : pc + 1 = pc2) (kk : PW Z X L F k n Q pc2 lv (.ref x :: st)) : PW Z X L F k n Q pc lv (st) := by
  subst h2
  exact fun H locs ls hP hD hS hl => lv_aload_n C.1 C.2.1 hdg hi (lv_at hl j hj) (kk H locs ls hP hD hS hl)
theorem pk_aload (C : pw_C Z cc nL own Ts R0 ret) {i : Nat} {x : Nat} (j : Nat) (hdg : decode cc pc = .ok (.aload i, 2)) (hj : lv[j]? = some (i, .ref x)) (h2 : pc + 2 = pc2) (kk : PW Z X L F k n Q pc2 lv (.ref x :: st)) : PW Z X L F k n Q pc lv (st) := by
  subst h2
  exact fun H locs ls hP hD hS hl => lv_aload C.1 C.2.1 hdg (lv_at hl j hj) (kk H locs ls hP hD hS hl)
theorem pk_aload_nN (C : pw_C Z cc nL own Ts R0 ret) {z : Fin 4} {i : Nat} (j : Nat) (hdg : decode cc pc = .ok (.aload_n z, 1)) (hi : (z : Nat) = i) (hj : lv[j]? = some (i, .null)) (h2 : pc + 1 = pc2) (kk : PW Z X L F k n Q pc2 lv (.null :: st)) : PW Z X L F k n Q pc lv (st) := by
  subst h2
  exact fun H locs ls hP hD hS hl => lv_aload_nN C.1 C.2.1 hdg hi (lv_at hl j hj) (kk H locs ls hP hD hS hl)
theorem pk_aloadN (C : pw_C Z cc nL own Ts R0 ret) {i : Nat} (j : Nat) (hdg : decode cc pc = .ok (.aload i, 2)) (hj : lv[j]? = some (i, .null)) (h2 : pc + 2 = pc2) (kk : PW Z X L F k n Q pc2 lv (.null :: st)) : PW Z X L F k n Q pc lv (st) := by
  subst h2
  exact fun H locs ls hP hD hS hl => lv_aloadN C.1 C.2.1 hdg (lv_at hl j hj) (kk H locs ls hP hD hS hl)
theorem pk_istore_n (C : pw_C Z cc nL own Ts R0 ret) {i : Nat} {z : Fin 4} {x : Int32} {lv' : List (Nat × Value)} (hdg : decode cc pc = .ok (.istore_n z, 1)) (hi : (z : Nat) = i) (hn : i < nL) (hv : (i, Value.int x) :: lv.filter (fun q => !(q.1 == i) && !(q.1 + 1 == i && q.2.category == 2)) = lv') (h2 : pc + 1 = pc2) (kk : PW Z X L F k n Q pc2 lv' st) : PW Z X L F k n Q pc lv (Value.int x :: st) := by
  subst h2
  exact fun H locs ls hP hD hS hl => lv_istore_n C.1 C.2.1 hdg hi hl (by rw [C.2.2.1]; exact hn) hv (fun ls' hl' => kk H locs ls' hP hD hS hl')
theorem pk_istore (C : pw_C Z cc nL own Ts R0 ret) {i : Nat}  {x : Int32} {lv' : List (Nat × Value)} (hdg : decode cc pc = .ok (.istore i, 2))  (hn : i < nL) (hv : (i, Value.int x) :: lv.filter (fun q => !(q.1 == i) && !(q.1 + 1 == i && q.2.category == 2)) = lv') (h2 : pc + 2 = pc2) (kk : PW Z X L F k n Q pc2 lv' st) : PW Z X L F k n Q pc lv (Value.int x :: st) := by
  subst h2
  exact fun H locs ls hP hD hS hl => lv_istore C.1 C.2.1 hdg  hl (by rw [C.2.2.1]; exact hn) hv (fun ls' hl' => kk H locs ls' hP hD hS hl')
theorem pk_lstore_n (C : pw_C Z cc nL own Ts R0 ret) {i : Nat} {z : Fin 4} {x : Int64} {lv' : List (Nat × Value)} (hdg : decode cc pc = .ok (.lstore_n z, 1)) (hi : (z : Nat) = i) (hn : i + 1 < nL) (hv : (i, Value.long x) :: lv.filter (fun q => !(q.1 == i) && (!(q.1 == i + 1) && !(q.1 + 1 == i && q.2.category == 2))) = lv') (h2 : pc + 1 = pc2) (kk : PW Z X L F k n Q pc2 lv' st) : PW Z X L F k n Q pc lv (Value.long x :: st) := by
  subst h2
  exact fun H locs ls hP hD hS hl => lv_lstore_n C.1 C.2.1 hdg hi hl (by rw [C.2.2.1]; exact hn) hv (fun ls' hl' => kk H locs ls' hP hD hS hl')
theorem pk_lstore (C : pw_C Z cc nL own Ts R0 ret) {i : Nat}  {x : Int64} {lv' : List (Nat × Value)} (hdg : decode cc pc = .ok (.lstore i, 2))  (hn : i + 1 < nL) (hv : (i, Value.long x) :: lv.filter (fun q => !(q.1 == i) && (!(q.1 == i + 1) && !(q.1 + 1 == i && q.2.category == 2))) = lv') (h2 : pc + 2 = pc2) (kk : PW Z X L F k n Q pc2 lv' st) : PW Z X L F k n Q pc lv (Value.long x :: st) := by
  subst h2
  exact fun H locs ls hP hD hS hl => lv_lstore C.1 C.2.1 hdg  hl (by rw [C.2.2.1]; exact hn) hv (fun ls' hl' => kk H locs ls' hP hD hS hl')
theorem pk_astore_n (C : pw_C Z cc nL own Ts R0 ret) {i : Nat} {z : Fin 4} {x : Nat} {lv' : List (Nat × Value)} (hdg : decode cc pc = .ok (.astore_n z, 1)) (hi : (z : Nat) = i) (hn : i < nL) (hv : (i, Value.ref x) :: lv.filter (fun q => !(q.1 == i) && !(q.1 + 1 == i && q.2.category == 2)) = lv') (h2 : pc + 1 = pc2) (kk : PW Z X L F k n Q pc2 lv' st) : PW Z X L F k n Q pc lv (Value.ref x :: st) := by
  subst h2
  exact fun H locs ls hP hD hS hl => lv_astore_n C.1 C.2.1 hdg hi hl (by rw [C.2.2.1]; exact hn) hv (fun ls' hl' => kk H locs ls' hP hD hS hl')
theorem pk_astore (C : pw_C Z cc nL own Ts R0 ret) {i : Nat}  {x : Nat} {lv' : List (Nat × Value)} (hdg : decode cc pc = .ok (.astore i, 2))  (hn : i < nL) (hv : (i, Value.ref x) :: lv.filter (fun q => !(q.1 == i) && !(q.1 + 1 == i && q.2.category == 2)) = lv') (h2 : pc + 2 = pc2) (kk : PW Z X L F k n Q pc2 lv' st) : PW Z X L F k n Q pc lv (Value.ref x :: st) := by
  subst h2
  exact fun H locs ls hP hD hS hl => lv_astore C.1 C.2.1 hdg  hl (by rw [C.2.2.1]; exact hn) hv (fun ls' hl' => kk H locs ls' hP hD hS hl')
theorem pk_astore_nN (C : pw_C Z cc nL own Ts R0 ret) {i : Nat} {z : Fin 4}  {lv' : List (Nat × Value)} (hdg : decode cc pc = .ok (.astore_n z, 1)) (hi : (z : Nat) = i) (hn : i < nL) (hv : (i, Value.null) :: lv.filter (fun q => !(q.1 == i) && !(q.1 + 1 == i && q.2.category == 2)) = lv') (h2 : pc + 1 = pc2) (kk : PW Z X L F k n Q pc2 lv' st) : PW Z X L F k n Q pc lv (Value.null :: st) := by
  subst h2
  exact fun H locs ls hP hD hS hl => lv_astore_nN C.1 C.2.1 hdg hi hl (by rw [C.2.2.1]; exact hn) hv (fun ls' hl' => kk H locs ls' hP hD hS hl')
theorem pk_astoreN (C : pw_C Z cc nL own Ts R0 ret) {i : Nat}   {lv' : List (Nat × Value)} (hdg : decode cc pc = .ok (.astore i, 2))  (hn : i < nL) (hv : (i, Value.null) :: lv.filter (fun q => !(q.1 == i) && !(q.1 + 1 == i && q.2.category == 2)) = lv') (h2 : pc + 2 = pc2) (kk : PW Z X L F k n Q pc2 lv' st) : PW Z X L F k n Q pc lv (Value.null :: st) := by
  subst h2
  exact fun H locs ls hP hD hS hl => lv_astoreN C.1 C.2.1 hdg  hl (by rw [C.2.2.1]; exact hn) hv (fun ls' hl' => kk H locs ls' hP hD hS hl')
theorem pk_iinc (C : pw_C Z cc nL own Ts R0 ret) {i : Nat} {z : Int} {x v : Int32} {lv' : List (Nat × Value)} (j : Nat) (hdg : decode cc pc = .ok (.iinc i z, 3)) (hj : lv[j]? = some (i, .int x)) (hv : x + Int32.ofInt z = v) (hn : i < nL) (hw : (i, Value.int v) :: lv.filter (fun q => !(q.1 == i) && !(q.1 + 1 == i && q.2.category == 2)) = lv') (h2 : pc + 3 = pc2) (kk : PW Z X L F k n Q pc2 lv' st) : PW Z X L F k n Q pc lv st := by
  subst h2
  exact fun H locs ls hP hD hS hl => lv_iinc C.1 C.2.1 hdg hl hj hv (by rw [C.2.2.1]; exact hn) hw (fun ls' hl' => kk H locs ls' hP hD hS hl')
theorem pk_iadd (C : pw_C Z cc nL own Ts R0 ret) {x y : Int32} (hdg : decode cc pc = .ok (.iadd, 1))  (h2 : pc + 1 = pc2) (kk : PW Z X L F k n Q pc2 lv (.int (x + y) :: st)) : PW Z X L F k n Q pc lv (.int y :: .int x :: st) := by
  subst h2
  exact fun H locs ls hP hD hS hl => lv_iadd C.1 C.2.1 hdg  (kk H locs ls hP hD hS hl)
theorem pk_isub (C : pw_C Z cc nL own Ts R0 ret) {x y : Int32} (hdg : decode cc pc = .ok (.isub, 1))  (h2 : pc + 1 = pc2) (kk : PW Z X L F k n Q pc2 lv (.int (x - y) :: st)) : PW Z X L F k n Q pc lv (.int y :: .int x :: st) := by
  subst h2
  exact fun H locs ls hP hD hS hl => lv_isub C.1 C.2.1 hdg  (kk H locs ls hP hD hS hl)
theorem pk_imul (C : pw_C Z cc nL own Ts R0 ret) {x y : Int32} (hdg : decode cc pc = .ok (.imul, 1))  (h2 : pc + 1 = pc2) (kk : PW Z X L F k n Q pc2 lv (.int (x * y) :: st)) : PW Z X L F k n Q pc lv (.int y :: .int x :: st) := by
  subst h2
  exact fun H locs ls hP hD hS hl => lv_imul C.1 C.2.1 hdg  (kk H locs ls hP hD hS hl)
theorem pk_iand (C : pw_C Z cc nL own Ts R0 ret) {x y : Int32} (hdg : decode cc pc = .ok (.iand, 1))  (h2 : pc + 1 = pc2) (kk : PW Z X L F k n Q pc2 lv (.int (x &&& y) :: st)) : PW Z X L F k n Q pc lv (.int y :: .int x :: st) := by
  subst h2
  exact fun H locs ls hP hD hS hl => lv_iand C.1 C.2.1 hdg  (kk H locs ls hP hD hS hl)
theorem pk_ladd (C : pw_C Z cc nL own Ts R0 ret) {x y : Int64} (hdg : decode cc pc = .ok (.ladd, 1))  (h2 : pc + 1 = pc2) (kk : PW Z X L F k n Q pc2 lv (.long (x + y) :: st)) : PW Z X L F k n Q pc lv (.long y :: .long x :: st) := by
  subst h2
  exact fun H locs ls hP hD hS hl => lv_ladd C.1 C.2.1 hdg  (kk H locs ls hP hD hS hl)
theorem pk_lsub (C : pw_C Z cc nL own Ts R0 ret) {x y : Int64} (hdg : decode cc pc = .ok (.lsub, 1))  (h2 : pc + 1 = pc2) (kk : PW Z X L F k n Q pc2 lv (.long (x - y) :: st)) : PW Z X L F k n Q pc lv (.long y :: .long x :: st) := by
  subst h2
  exact fun H locs ls hP hD hS hl => lv_lsub C.1 C.2.1 hdg  (kk H locs ls hP hD hS hl)
theorem pk_lmul (C : pw_C Z cc nL own Ts R0 ret) {x y : Int64} (hdg : decode cc pc = .ok (.lmul, 1))  (h2 : pc + 1 = pc2) (kk : PW Z X L F k n Q pc2 lv (.long (x * y) :: st)) : PW Z X L F k n Q pc lv (.long y :: .long x :: st) := by
  subst h2
  exact fun H locs ls hP hD hS hl => lv_lmul C.1 C.2.1 hdg  (kk H locs ls hP hD hS hl)
theorem pk_land (C : pw_C Z cc nL own Ts R0 ret) {x y : Int64} (hdg : decode cc pc = .ok (.land, 1))  (h2 : pc + 1 = pc2) (kk : PW Z X L F k n Q pc2 lv (.long (x &&& y) :: st)) : PW Z X L F k n Q pc lv (.long y :: .long x :: st) := by
  subst h2
  exact fun H locs ls hP hD hS hl => lv_land C.1 C.2.1 hdg  (kk H locs ls hP hD hS hl)
theorem pk_lor (C : pw_C Z cc nL own Ts R0 ret) {x y : Int64} (hdg : decode cc pc = .ok (.lor, 1))  (h2 : pc + 1 = pc2) (kk : PW Z X L F k n Q pc2 lv (.long (x ||| y) :: st)) : PW Z X L F k n Q pc lv (.long y :: .long x :: st) := by
  subst h2
  exact fun H locs ls hP hD hS hl => lv_lor C.1 C.2.1 hdg  (kk H locs ls hP hD hS hl)
theorem pk_ldiv (C : pw_C Z cc nL own Ts R0 ret) {x y : Int64} (hdg : decode cc pc = .ok (.ldiv, 1)) (hne : ¬ y = 0) (h2 : pc + 1 = pc2) (kk : PW Z X L F k n Q pc2 lv (.long (x / y) :: st)) : PW Z X L F k n Q pc lv (.long y :: .long x :: st) := by
  subst h2
  exact fun H locs ls hP hD hS hl => lv_ldiv C.1 C.2.1 hdg hne (kk H locs ls hP hD hS hl)
theorem pk_i2l (C : pw_C Z cc nL own Ts R0 ret) {x : Int32} (hdg : decode cc pc = .ok (.i2l, 1))  (h2 : pc + 1 = pc2) (kk : PW Z X L F k n Q pc2 lv (.long (x.toInt64) :: st)) : PW Z X L F k n Q pc lv (.int x :: st) := by
  subst h2
  exact fun H locs ls hP hD hS hl => lv_i2l C.1 C.2.1 hdg rfl (kk H locs ls hP hD hS hl)
theorem pk_lshl (C : pw_C Z cc nL own Ts R0 ret) {x v : Int64} {y : Int32} (hdg : decode cc pc = .ok (.lshl, 1)) (hv : x <<< (y.toInt64 &&& 63) = v) (h2 : pc + 1 = pc2) (kk : PW Z X L F k n Q pc2 lv (.long v :: st)) : PW Z X L F k n Q pc lv (.int y :: .long x :: st) := by
  subst h2
  exact fun H locs ls hP hD hS hl => lv_lshl C.1 C.2.1 hdg hv (kk H locs ls hP hD hS hl)
theorem pk_dup (C : pw_C Z cc nL own Ts R0 ret) {va : Value} (hdg : decode cc pc = .ok (.dup, 1)) (hva : va.category = 1) (h2 : pc + 1 = pc2) (kk : PW Z X L F k n Q pc2 lv (va :: va :: st)) : PW Z X L F k n Q pc lv (va :: st) := by
  subst h2
  exact fun H locs ls hP hD hS hl => lv_dup C.1 C.2.1 hdg hva (kk H locs ls hP hD hS hl)
theorem pk_pop (C : pw_C Z cc nL own Ts R0 ret) {va : Value} (hdg : decode cc pc = .ok (.pop, 1)) (hva : va.category = 1) (h2 : pc + 1 = pc2) (kk : PW Z X L F k n Q pc2 lv (st)) : PW Z X L F k n Q pc lv (va :: st) := by
  subst h2
  exact fun H locs ls hP hD hS hl => lv_pop C.1 C.2.1 hdg hva (kk H locs ls hP hD hS hl)
theorem pk_if_eq (C : pw_C Z cc nL own Ts R0 ret) {x : Int32} {off : Int} {tgt : Nat} (hdg : decode cc pc = .ok (.ifCond .eq off, 3)) (ht : (pc : Int) + off = (tgt : Int)) (h2 : pc + 3 = pc2) (kt : x = 0 → PW Z X L F k n Q tgt lv st) (kf : ¬ x = 0 → PW Z X L F k n Q pc2 lv st) : PW Z X L F k n Q pc lv (.int x :: st) := by
  subst h2
  exact fun H locs ls hP hD hS hl => lv_if_eq C.1 C.2.1 hdg ht (fun c => kt c H locs ls hP hD hS hl) (fun c => kf c H locs ls hP hD hS hl)
theorem pk_icmp_eq (C : pw_C Z cc nL own Ts R0 ret) {x y : Int32} {off : Int} {tgt : Nat} (hdg : decode cc pc = .ok (.if_icmp .eq off, 3)) (ht : (pc : Int) + off = (tgt : Int)) (h2 : pc + 3 = pc2) (kt : x = y → PW Z X L F k n Q tgt lv st) (kf : ¬ x = y → PW Z X L F k n Q pc2 lv st) : PW Z X L F k n Q pc lv (.int y :: .int x :: st) := by
  subst h2
  exact fun H locs ls hP hD hS hl => lv_icmp_eq C.1 C.2.1 hdg ht (fun c => kt c H locs ls hP hD hS hl) (fun c => kf c H locs ls hP hD hS hl)
theorem pk_if_ne (C : pw_C Z cc nL own Ts R0 ret) {x : Int32} {off : Int} {tgt : Nat} (hdg : decode cc pc = .ok (.ifCond .ne off, 3)) (ht : (pc : Int) + off = (tgt : Int)) (h2 : pc + 3 = pc2) (kt : ¬ x = 0 → PW Z X L F k n Q tgt lv st) (kf : x = 0 → PW Z X L F k n Q pc2 lv st) : PW Z X L F k n Q pc lv (.int x :: st) := by
  subst h2
  exact fun H locs ls hP hD hS hl => lv_if_ne C.1 C.2.1 hdg ht (fun c => kt c H locs ls hP hD hS hl) (fun c => kf c H locs ls hP hD hS hl)
theorem pk_icmp_ne (C : pw_C Z cc nL own Ts R0 ret) {x y : Int32} {off : Int} {tgt : Nat} (hdg : decode cc pc = .ok (.if_icmp .ne off, 3)) (ht : (pc : Int) + off = (tgt : Int)) (h2 : pc + 3 = pc2) (kt : ¬ x = y → PW Z X L F k n Q tgt lv st) (kf : x = y → PW Z X L F k n Q pc2 lv st) : PW Z X L F k n Q pc lv (.int y :: .int x :: st) := by
  subst h2
  exact fun H locs ls hP hD hS hl => lv_icmp_ne C.1 C.2.1 hdg ht (fun c => kt c H locs ls hP hD hS hl) (fun c => kf c H locs ls hP hD hS hl)
theorem pk_if_lt (C : pw_C Z cc nL own Ts R0 ret) {x : Int32} {off : Int} {tgt : Nat} (hdg : decode cc pc = .ok (.ifCond .lt off, 3)) (ht : (pc : Int) + off = (tgt : Int)) (h2 : pc + 3 = pc2) (kt : x < 0 → PW Z X L F k n Q tgt lv st) (kf : ¬ x < 0 → PW Z X L F k n Q pc2 lv st) : PW Z X L F k n Q pc lv (.int x :: st) := by
  subst h2
  exact fun H locs ls hP hD hS hl => lv_if_lt C.1 C.2.1 hdg ht (fun c => kt c H locs ls hP hD hS hl) (fun c => kf c H locs ls hP hD hS hl)
theorem pk_icmp_lt (C : pw_C Z cc nL own Ts R0 ret) {x y : Int32} {off : Int} {tgt : Nat} (hdg : decode cc pc = .ok (.if_icmp .lt off, 3)) (ht : (pc : Int) + off = (tgt : Int)) (h2 : pc + 3 = pc2) (kt : x < y → PW Z X L F k n Q tgt lv st) (kf : ¬ x < y → PW Z X L F k n Q pc2 lv st) : PW Z X L F k n Q pc lv (.int y :: .int x :: st) := by
  subst h2
  exact fun H locs ls hP hD hS hl => lv_icmp_lt C.1 C.2.1 hdg ht (fun c => kt c H locs ls hP hD hS hl) (fun c => kf c H locs ls hP hD hS hl)
theorem pk_if_ge (C : pw_C Z cc nL own Ts R0 ret) {x : Int32} {off : Int} {tgt : Nat} (hdg : decode cc pc = .ok (.ifCond .ge off, 3)) (ht : (pc : Int) + off = (tgt : Int)) (h2 : pc + 3 = pc2) (kt : 0 ≤ x → PW Z X L F k n Q tgt lv st) (kf : ¬ 0 ≤ x → PW Z X L F k n Q pc2 lv st) : PW Z X L F k n Q pc lv (.int x :: st) := by
  subst h2
  exact fun H locs ls hP hD hS hl => lv_if_ge C.1 C.2.1 hdg ht (fun c => kt c H locs ls hP hD hS hl) (fun c => kf c H locs ls hP hD hS hl)
theorem pk_icmp_ge (C : pw_C Z cc nL own Ts R0 ret) {x y : Int32} {off : Int} {tgt : Nat} (hdg : decode cc pc = .ok (.if_icmp .ge off, 3)) (ht : (pc : Int) + off = (tgt : Int)) (h2 : pc + 3 = pc2) (kt : y ≤ x → PW Z X L F k n Q tgt lv st) (kf : ¬ y ≤ x → PW Z X L F k n Q pc2 lv st) : PW Z X L F k n Q pc lv (.int y :: .int x :: st) := by
  subst h2
  exact fun H locs ls hP hD hS hl => lv_icmp_ge C.1 C.2.1 hdg ht (fun c => kt c H locs ls hP hD hS hl) (fun c => kf c H locs ls hP hD hS hl)
theorem pk_if_gt (C : pw_C Z cc nL own Ts R0 ret) {x : Int32} {off : Int} {tgt : Nat} (hdg : decode cc pc = .ok (.ifCond .gt off, 3)) (ht : (pc : Int) + off = (tgt : Int)) (h2 : pc + 3 = pc2) (kt : 0 < x → PW Z X L F k n Q tgt lv st) (kf : ¬ 0 < x → PW Z X L F k n Q pc2 lv st) : PW Z X L F k n Q pc lv (.int x :: st) := by
  subst h2
  exact fun H locs ls hP hD hS hl => lv_if_gt C.1 C.2.1 hdg ht (fun c => kt c H locs ls hP hD hS hl) (fun c => kf c H locs ls hP hD hS hl)
theorem pk_icmp_gt (C : pw_C Z cc nL own Ts R0 ret) {x y : Int32} {off : Int} {tgt : Nat} (hdg : decode cc pc = .ok (.if_icmp .gt off, 3)) (ht : (pc : Int) + off = (tgt : Int)) (h2 : pc + 3 = pc2) (kt : y < x → PW Z X L F k n Q tgt lv st) (kf : ¬ y < x → PW Z X L F k n Q pc2 lv st) : PW Z X L F k n Q pc lv (.int y :: .int x :: st) := by
  subst h2
  exact fun H locs ls hP hD hS hl => lv_icmp_gt C.1 C.2.1 hdg ht (fun c => kt c H locs ls hP hD hS hl) (fun c => kf c H locs ls hP hD hS hl)
theorem pk_if_le (C : pw_C Z cc nL own Ts R0 ret) {x : Int32} {off : Int} {tgt : Nat} (hdg : decode cc pc = .ok (.ifCond .le off, 3)) (ht : (pc : Int) + off = (tgt : Int)) (h2 : pc + 3 = pc2) (kt : x ≤ 0 → PW Z X L F k n Q tgt lv st) (kf : ¬ x ≤ 0 → PW Z X L F k n Q pc2 lv st) : PW Z X L F k n Q pc lv (.int x :: st) := by
  subst h2
  exact fun H locs ls hP hD hS hl => lv_if_le C.1 C.2.1 hdg ht (fun c => kt c H locs ls hP hD hS hl) (fun c => kf c H locs ls hP hD hS hl)
theorem pk_icmp_le (C : pw_C Z cc nL own Ts R0 ret) {x y : Int32} {off : Int} {tgt : Nat} (hdg : decode cc pc = .ok (.if_icmp .le off, 3)) (ht : (pc : Int) + off = (tgt : Int)) (h2 : pc + 3 = pc2) (kt : x ≤ y → PW Z X L F k n Q tgt lv st) (kf : ¬ x ≤ y → PW Z X L F k n Q pc2 lv st) : PW Z X L F k n Q pc lv (.int y :: .int x :: st) := by
  subst h2
  exact fun H locs ls hP hD hS hl => lv_icmp_le C.1 C.2.1 hdg ht (fun c => kt c H locs ls hP hD hS hl) (fun c => kf c H locs ls hP hD hS hl)
theorem pk_lcmp_eq (C : pw_C Z cc nL own Ts R0 ret) {x y : Int64} {off : Int} {tgt pc1 : Nat} (hd1 : decode cc pc = .ok (.lcmp, 1)) (hdg : decode cc pc1 = .ok (.ifCond .eq off, 3)) (h1 : pc + 1 = pc1) (ht : (pc1 : Int) + off = (tgt : Int)) (h2 : pc1 + 3 = pc2) (kt : x = y → PW Z X L F k n Q tgt lv st) (kf : ¬ x = y → PW Z X L F k n Q pc2 lv st) : PW Z X L F k n Q pc lv (.long y :: .long x :: st) := by
  subst h1
  subst h2
  exact fun H locs ls hP hD hS hl => W.lcmp C.1 C.2.1 hd1 (lv_if_eq C.1 C.2.1 hdg ht (fun c => kt (((lg_cmp_eq x y).mp) c) H locs ls hP hD hS hl) (fun c => kf (fun h => c (((lg_cmp_eq x y).mpr) h)) H locs ls hP hD hS hl))
theorem pk_lcmp_ne (C : pw_C Z cc nL own Ts R0 ret) {x y : Int64} {off : Int} {tgt pc1 : Nat} (hd1 : decode cc pc = .ok (.lcmp, 1)) (hdg : decode cc pc1 = .ok (.ifCond .ne off, 3)) (h1 : pc + 1 = pc1) (ht : (pc1 : Int) + off = (tgt : Int)) (h2 : pc1 + 3 = pc2) (kt : ¬ x = y → PW Z X L F k n Q tgt lv st) (kf : x = y → PW Z X L F k n Q pc2 lv st) : PW Z X L F k n Q pc lv (.long y :: .long x :: st) := by
  subst h1
  subst h2
  exact fun H locs ls hP hD hS hl => W.lcmp C.1 C.2.1 hd1 (lv_if_ne C.1 C.2.1 hdg ht (fun c => kt (fun h => c (((lg_cmp_eq x y).mpr) h)) H locs ls hP hD hS hl) (fun c => kf (((lg_cmp_eq x y).mp) c) H locs ls hP hD hS hl))
theorem pk_lcmp_lt (C : pw_C Z cc nL own Ts R0 ret) {x y : Int64} {off : Int} {tgt pc1 : Nat} (hd1 : decode cc pc = .ok (.lcmp, 1)) (hdg : decode cc pc1 = .ok (.ifCond .lt off, 3)) (h1 : pc + 1 = pc1) (ht : (pc1 : Int) + off = (tgt : Int)) (h2 : pc1 + 3 = pc2) (kt : x < y → PW Z X L F k n Q tgt lv st) (kf : ¬ x < y → PW Z X L F k n Q pc2 lv st) : PW Z X L F k n Q pc lv (.long y :: .long x :: st) := by
  subst h1
  subst h2
  exact fun H locs ls hP hD hS hl => W.lcmp C.1 C.2.1 hd1 (lv_if_lt C.1 C.2.1 hdg ht (fun c => kt (((lg_cmp_lt x y).mp) c) H locs ls hP hD hS hl) (fun c => kf (fun h => c (((lg_cmp_lt x y).mpr) h)) H locs ls hP hD hS hl))
theorem pk_lcmp_ge (C : pw_C Z cc nL own Ts R0 ret) {x y : Int64} {off : Int} {tgt pc1 : Nat} (hd1 : decode cc pc = .ok (.lcmp, 1)) (hdg : decode cc pc1 = .ok (.ifCond .ge off, 3)) (h1 : pc + 1 = pc1) (ht : (pc1 : Int) + off = (tgt : Int)) (h2 : pc1 + 3 = pc2) (kt : y ≤ x → PW Z X L F k n Q tgt lv st) (kf : ¬ y ≤ x → PW Z X L F k n Q pc2 lv st) : PW Z X L F k n Q pc lv (.long y :: .long x :: st) := by
  subst h1
  subst h2
  exact fun H locs ls hP hD hS hl => W.lcmp C.1 C.2.1 hd1 (lv_if_ge C.1 C.2.1 hdg ht (fun c => kt (((lg_cmp_ge x y).mp) c) H locs ls hP hD hS hl) (fun c => kf (fun h => c (((lg_cmp_ge x y).mpr) h)) H locs ls hP hD hS hl))
theorem pk_lcmp_gt (C : pw_C Z cc nL own Ts R0 ret) {x y : Int64} {off : Int} {tgt pc1 : Nat} (hd1 : decode cc pc = .ok (.lcmp, 1)) (hdg : decode cc pc1 = .ok (.ifCond .gt off, 3)) (h1 : pc + 1 = pc1) (ht : (pc1 : Int) + off = (tgt : Int)) (h2 : pc1 + 3 = pc2) (kt : y < x → PW Z X L F k n Q tgt lv st) (kf : ¬ y < x → PW Z X L F k n Q pc2 lv st) : PW Z X L F k n Q pc lv (.long y :: .long x :: st) := by
  subst h1
  subst h2
  exact fun H locs ls hP hD hS hl => W.lcmp C.1 C.2.1 hd1 (lv_if_gt C.1 C.2.1 hdg ht (fun c => kt (((lg_cmp_gt x y).mp) c) H locs ls hP hD hS hl) (fun c => kf (fun h => c (((lg_cmp_gt x y).mpr) h)) H locs ls hP hD hS hl))
theorem pk_lcmp_le (C : pw_C Z cc nL own Ts R0 ret) {x y : Int64} {off : Int} {tgt pc1 : Nat} (hd1 : decode cc pc = .ok (.lcmp, 1)) (hdg : decode cc pc1 = .ok (.ifCond .le off, 3)) (h1 : pc + 1 = pc1) (ht : (pc1 : Int) + off = (tgt : Int)) (h2 : pc1 + 3 = pc2) (kt : x ≤ y → PW Z X L F k n Q tgt lv st) (kf : ¬ x ≤ y → PW Z X L F k n Q pc2 lv st) : PW Z X L F k n Q pc lv (.long y :: .long x :: st) := by
  subst h1
  subst h2
  exact fun H locs ls hP hD hS hl => W.lcmp C.1 C.2.1 hd1 (lv_if_le C.1 C.2.1 hdg ht (fun c => kt (((lg_cmp_le x y).mp) c) H locs ls hP hD hS hl) (fun c => kf (fun h => c (((lg_cmp_le x y).mpr) h)) H locs ls hP hD hS hl))
theorem pk_goto (C : pw_C Z cc nL own Ts R0 ret) {off : Int} {tgt : Nat} (hdg : decode cc pc = .ok (.goto off, 3)) (ht : (pc : Int) + off = (tgt : Int)) (kk : PW Z X L F k n Q tgt lv st) : PW Z X L F k n Q pc lv st :=
  fun H locs ls hP hD hS hl => lv_goto C.1 C.2.1 hdg ht (kk H locs ls hP hD hS hl)
theorem pk_ifnull_r (C : pw_C Z cc nL own Ts R0 ret) {x : Nat} {off : Int} (hdg : decode cc pc = .ok (.ifnull off, 3)) (h2 : pc + 3 = pc2) (kk : PW Z X L F k n Q pc2 lv st) : PW Z X L F k n Q pc lv (.ref x :: st) := by
  subst h2
  exact fun H locs ls hP hD hS hl => lv_ifnull C.1 C.2.1 hdg (kk H locs ls hP hD hS hl)
theorem pk_ifnull_n (C : pw_C Z cc nL own Ts R0 ret) {off : Int} {tgt : Nat} (hdg : decode cc pc = .ok (.ifnull off, 3)) (ht : (pc : Int) + off = (tgt : Int)) (kk : PW Z X L F k n Q tgt lv st) : PW Z X L F k n Q pc lv (.null :: st) :=
  fun H locs ls hP hD hS hl => lv_ifnullN C.1 C.2.1 hdg ht (kk H locs ls hP hD hS hl)
theorem pk_ifnonnull_r (C : pw_C Z cc nL own Ts R0 ret) {x : Nat} {off : Int} {tgt : Nat} (hdg : decode cc pc = .ok (.ifnonnull off, 3)) (ht : (pc : Int) + off = (tgt : Int)) (kk : PW Z X L F k n Q tgt lv st) : PW Z X L F k n Q pc lv (.ref x :: st) :=
  fun H locs ls hP hD hS hl => lv_ifnonnull C.1 C.2.1 hdg ht (kk H locs ls hP hD hS hl)
theorem pk_ifnonnull_n (C : pw_C Z cc nL own Ts R0 ret) {off : Int} (hdg : decode cc pc = .ok (.ifnonnull off, 3)) (h2 : pc + 3 = pc2) (kk : PW Z X L F k n Q pc2 lv st) : PW Z X L F k n Q pc lv (.null :: st) := by
  subst h2
  exact fun H locs ls hP hD hS hl => lv_ifnonnullN C.1 C.2.1 hdg (kk H locs ls hP hD hS hl)
theorem pk_tableIn (C : pw_C Z cc nL own Ts R0 ret) {dflt lo hi : Int} {offs : Array Int} {len : Nat} {x : Int32} {off : Int} {tgt : Nat} (hdg : decode cc pc = .ok (.tableswitch dflt lo hi offs, len)) (h1 : ¬ x.toInt < lo) (h2 : ¬ hi < x.toInt) (ho : offs[(x.toInt - lo).toNat]? = some off) (ht : (pc : Int) + off = (tgt : Int)) (kk : PW Z X L F k n Q tgt lv st) : PW Z X L F k n Q pc lv (.int x :: st) :=
  fun H locs ls hP hD hS hl => lv_tableIn C.1 C.2.1 hdg h1 h2 ho ht (kk H locs ls hP hD hS hl)
theorem pk_tableOut (C : pw_C Z cc nL own Ts R0 ret) {dflt lo hi : Int} {offs : Array Int} {len : Nat} {x : Int32} {tgt : Nat} (hdg : decode cc pc = .ok (.tableswitch dflt lo hi offs, len)) (h : x.toInt < lo ∨ hi < x.toInt) (ht : (pc : Int) + dflt = (tgt : Int)) (kk : PW Z X L F k n Q tgt lv st) : PW Z X L F k n Q pc lv (.int x :: st) :=
  fun H locs ls hP hD hS hl => lv_tableOut C.1 C.2.1 hdg h ht (kk H locs ls hP hD hS hl)
theorem pk_lookup (C : pw_C Z cc nL own Ts R0 ret) {dflt : Int} {ps : Array (Int × Int)} {len : Nat} {x : Int32} {off : Int} {tgt : Nat} (hdg : decode cc pc = .ok (.lookupswitch dflt ps, len)) (hp : (ps.toList.zip (ps.toList.drop 1)).all (fun (a, next) => a.1 < next.1) = true) (ho : Op.lookupswitch.offset ps.toList dflt x.toInt = off) (ht : (pc : Int) + off = (tgt : Int)) (kk : PW Z X L F k n Q tgt lv st) : PW Z X L F k n Q pc lv (.int x :: st) :=
  fun H locs ls hP hD hS hl => lv_lookup C.1 C.2.1 hdg hp ho ht (kk H locs ls hP hD hS hl)
theorem pk_ldc (C : pw_C Z cc nL own Ts R0 ret) {index : Nat} {v : Int32} (hw : Cond.constant own index v ∈ Ts) (hdg : decode cc pc = .ok (.ldc index, 2)) (h2 : pc + 2 = pc2) (kk : PW Z X L F k n Q pc2 lv (.int v :: st)) : PW Z X L F k n Q pc lv st := by
  subst h2
  exact fun H locs ls hP hD hS hl => lv_ldc C.1 C.2.1 C.2.2.2.1 (C.2.2.2.2.1 _ hw) hdg (kk H locs ls hP hD hS hl)
theorem pk_ldc2 (C : pw_C Z cc nL own Ts R0 ret) {index : Nat} {v : Int64} (hw : Cond.constantLong own index v ∈ Ts) (hdg : decode cc pc = .ok (.ldc2_w index, 3)) (h2 : pc + 3 = pc2) (kk : PW Z X L F k n Q pc2 lv (.long v :: st)) : PW Z X L F k n Q pc lv st := by
  subst h2
  exact fun H locs ls hP hD hS hl => lv_ldc2 C.1 C.2.1 C.2.2.2.1 (C.2.2.2.2.1 _ hw) hdg (kk H locs ls hP hD hS hl)
theorem pk_maxl (C : pw_C Z cc nL own Ts R0 ret) {index : Nat} {x y v : Int64} (hw : Cond.methodLink own index Lib.MathLoose.max_long.x ∈ Ts ∧ Cond.static Lib.MathLoose.max_long.x ∈ Ts ∧ Cond.initialized "java/lang/Math" ∈ Ts ∧ Cond.code Lib.MathLoose.max_long.x Lib.MathLoose.max_long.code 4 (some .long) ∈ Ts) (hf : 1 ≤ R0.frames) (hlo : (st.map fun v => v.category).sum + 15 ≤ R0.locals) (hc : k ≤ R0.cells) (hs : n ≤ R0.slots) (hdg : decode cc pc = .ok (.invokestatic index, 3)) (h2 : pc + 3 = pc2) (hv : (if y < x then x else y) = v) (kk : PW Z X L F k n Q pc2 lv (.long v :: st)) : PW Z X L F k n Q pc lv (.long y :: .long x :: st) := by
  subst h2
  subst hv
  obtain ⟨c1, c2, c3, c4, c5, c6, c7, rfl, -⟩ := C
  exact fun H locs ls hP hD hS hl => va_mmax_long c1 c2 hl.1.symm c4 (c5 _ hw.1) (c5 _ hw.2.1) (c5 _ hw.2.2.1) (c5 _ hw.2.2.2) hf hlo hc hs hdg (kk H locs ls hP hD hS hl)
theorem pk_minl (C : pw_C Z cc nL own Ts R0 ret) {index : Nat} {x y v : Int64} (hw : Cond.methodLink own index Lib.MathLoose.min_long.x ∈ Ts ∧ Cond.static Lib.MathLoose.min_long.x ∈ Ts ∧ Cond.initialized "java/lang/Math" ∈ Ts ∧ Cond.code Lib.MathLoose.min_long.x Lib.MathLoose.min_long.code 4 (some .long) ∈ Ts) (hf : 1 ≤ R0.frames) (hlo : (st.map fun v => v.category).sum + 15 ≤ R0.locals) (hc : k ≤ R0.cells) (hs : n ≤ R0.slots) (hdg : decode cc pc = .ok (.invokestatic index, 3)) (h2 : pc + 3 = pc2) (hv : (if y < x then y else x) = v) (kk : PW Z X L F k n Q pc2 lv (.long v :: st)) : PW Z X L F k n Q pc lv (.long y :: .long x :: st) := by
  subst h2
  subst hv
  obtain ⟨c1, c2, c3, c4, c5, c6, c7, rfl, -⟩ := C
  exact fun H locs ls hP hD hS hl => va_mmin_long c1 c2 hl.1.symm c4 (c5 _ hw.1) (c5 _ hw.2.1) (c5 _ hw.2.2.1) (c5 _ hw.2.2.2) hf hlo hc hs hdg (kk H locs ls hP hD hS hl)
theorem pk_get (C : pw_C Z cc nL own Ts R0 ret) {a ci N index : Nat} {Cn ref : String} {T : u_T} {fs : List Value} {v : Value} (hin : ∀ w ∈ u_ws Cn T N, w ∈ Ts) (hat : pw_at X L F a (.inr (ci, fs))) (hc : vwCl[ci]? = some (Cn, T, N)) (j : Nat) (hj : j < N) (hw : Cond.fieldLink own index ref (T j).2.1 (T j).2.2.1 ∈ Ts) (hr : (T j).1 = ref) (hv : fs[j]? = some v) (hdg : decode cc pc = .ok (.getfield index, 3)) (h2 : pc + 3 = pc2) (kk : PW Z X L F k n Q pc2 lv (v :: st)) : PW Z X L F k n Q pc lv (.ref a :: st) := by
  subst h2
  obtain ⟨q, hq⟩ := hat
  exact fun H locs ls hP hD hS hl => va_get C.1 C.2.1 C.2.2.2.2.1 hin C.2.2.2.1 C.2.2.2.2.2.1 hP q hq hc j hj (C.2.2.2.2.1 _ hw) (fun x h => by rw [← hr]; exact h) hv hdg (kk H locs ls hP hD hS hl)
theorem pk_getN (C : pw_C Z cc nL own Ts R0 ret) {a ci N index : Nat} {Cn ref host : String} {T : u_T} {fs : List Value} {v : Value} (hin : ∀ w ∈ u_ws Cn T N, w ∈ Ts) (hat : pw_at X L F a (.inr (ci, fs))) (hc : vwCl[ci]? = some (Cn, T, N)) (j : Nat) (hj : j < N) (hw : Cond.fieldLinkNest own index ref (T j).2.1 (T j).2.2.1 host ∈ pw_N) (hr : (T j).1 = ref) (hv : fs[j]? = some v) (hdg : decode cc pc = .ok (.getfield index, 3)) (h2 : pc + 3 = pc2) (kk : PW Z X L F k n Q pc2 lv (v :: st)) : PW Z X L F k n Q pc lv (.ref a :: st) := by
  subst h2
  obtain ⟨q, hq⟩ := hat
  exact fun H locs ls hP hD hS hl => va_getN C.1 C.2.1 C.2.2.2.2.1 hin C.2.2.2.1 C.2.2.2.2.2.1 hP q hq hc j hj (va_Nw.use (pw_N_tabs _ hw) (C.2.2.2.2.2.2.2.2.2.2 _ hw)) (fun x h => by rw [← hr]; exact h) hv hdg (kk H locs ls hP hD hS hl)
theorem pk_putX (C : pw_C Z cc nL own Ts R0 ret) {a ci N index : Nat} {Cn ref : String} {T : u_T} {ty0 : Nat → FieldType} {fs : List Value} {v : Value} {ty : FieldType} {X' : va_W} (hin : ∀ w ∈ u_ws Cn T N, w ∈ Ts) (hty : ∀ k, k < N → parseFieldDescriptor (T k).2.2.1 = some (ty0 k)) (hnm : ∀ a, a < N → ∀ b, b < N → a ≠ b → (T a).2.1 ≠ (T b).2.1) (q : Nat) (hat : X[q]? = some (a, .inr (ci, fs))) (hc : vwCl[ci]? = some (Cn, T, N)) (j : Nat) (hj : j < N) (hw : Cond.fieldLink own index ref (T j).2.1 (T j).2.2.1 ∈ Ts) (hr : (T j).1 = ref) (hfin : (T j).2.2.2 = false) (hd : ty0 j = ty) (hn : narrow ty v = v) (hfit : fits ty v = true) (hl0 : j < fs.length) (hX : X.set q (a, .inr (ci, fs.set j v)) = X') (hdg : decode cc pc = .ok (.putfield index, 3)) (h2 : pc + 3 = pc2) (kk : PW Z X' L F k n Q pc2 lv st) : PW Z X L F k n Q pc lv (v :: .ref a :: st) := by
  subst h2
  subst hX
  subst hd
  have hq : (X ++ va_pl L F)[q]? = some (a, .inr (ci, fs)) := by rw [List.getElem?_append_left (List.getElem?_eq_some_iff.mp hat).1]; exact hat
  refine fun H locs ls hP hD hS hl => va_put C.1 C.2.1 C.2.2.2.2.1 hin ty0 hty hnm C.2.2.2.1 C.2.2.2.2.2.1 hP hD hS q hq hc j hj (C.2.2.2.2.1 _ hw) (fun x h => by rw [← hr]; exact h) hfin (hty j hj) hn hfit hl0 hdg (fun H1 locs1 hP1 hD1 hS1 => ?_)
  rw [pw_setX hat] at hP1 hD1
  exact kk H1 locs1 ls hP1 hD1 hS1 hl
theorem pk_putP (C : pw_C Z cc nL own Ts R0 ret) {a ci N index : Nat} {Cn ref : String} {T : u_T} {ty0 : Nat → FieldType} {fs : List Value} {v : Value} {ty : FieldType} {e : va_E} (hin : ∀ w ∈ u_ws Cn T N, w ∈ Ts) (hty : ∀ k, k < N → parseFieldDescriptor (T k).2.2.1 = some (ty0 k)) (hnm : ∀ a, a < N → ∀ b, b < N → a ≠ b → (T a).2.1 ≠ (T b).2.1) (hL : a ∈ L) (hat : F a = .inr (ci, fs)) (hc : vwCl[ci]? = some (Cn, T, N)) (j : Nat) (hj : j < N) (hw : Cond.fieldLink own index ref (T j).2.1 (T j).2.2.1 ∈ Ts) (hr : (T j).1 = ref) (hfin : (T j).2.2.2 = false) (hd : ty0 j = ty) (hn : narrow ty v = v) (hfit : fits ty v = true) (hl0 : j < fs.length) (he : (.inr (ci, fs.set j v) : va_E) = e) (hdg : decode cc pc = .ok (.putfield index, 3)) (h2 : pc + 3 = pc2) (kk : PW Z X L (va_up F a e) k n Q pc2 lv st) : PW Z X L F k n Q pc lv (v :: .ref a :: st) := by
  subst h2
  subst he
  subst hd
  obtain ⟨q, hq⟩ := va_pl_get (X := X) (f := F) hL
  have hq2 : (X ++ va_pl L F)[q]? = some (a, .inr (ci, fs)) := by rw [hq, hat]
  refine fun H locs ls hP hD hS hl => va_put C.1 C.2.1 C.2.2.2.2.1 hin ty0 hty hnm C.2.2.2.1 C.2.2.2.2.2.1 hP hD hS q hq2 hc j hj (C.2.2.2.2.1 _ hw) (fun x h => by rw [← hr]; exact h) hfin (hty j hj) hn hfit hl0 hdg (fun H1 locs1 hP1 hD1 hS1 => ?_)
  rw [va_pl_set hD hL hq] at hP1 hD1
  exact kk H1 locs1 ls hP1 hD1 hS1 hl
/-- a final field in its class's constructor -/
theorem pk_putFX (C : pw_C Z cc nL own Ts R0 ret) {a ci N index : Nat} {Cn ref : String} {T : u_T} {ty0 : Nat → FieldType} {fs : List Value} {v : Value} {ty : FieldType} {X' : va_W} (hini : (zmeth Z).name = "<init>") (hin : ∀ w ∈ u_ws Cn T N, w ∈ Ts) (hty : ∀ k, k < N → parseFieldDescriptor (T k).2.2.1 = some (ty0 k)) (hnm : ∀ a, a < N → ∀ b, b < N → a ≠ b → (T a).2.1 ≠ (T b).2.1) (q : Nat) (hat : X[q]? = some (a, .inr (ci, fs))) (hc : vwCl[ci]? = some (Cn, T, N)) (j : Nat) (hj : j < N) (hw : Cond.fieldLink own index ref (T j).2.1 (T j).2.2.1 ∈ Ts) (hr : (T j).1 = ref) (hro : (T j).1 = own) (hfin : (T j).2.2.2 = true) (hd : ty0 j = ty) (hn : narrow ty v = v) (hfit : fits ty v = true) (hl0 : j < fs.length) (hX : X.set q (a, .inr (ci, fs.set j v)) = X') (hdg : decode cc pc = .ok (.putfield index, 3)) (h2 : pc + 3 = pc2) (kk : PW Z X' L F k n Q pc2 lv st) : PW Z X L F k n Q pc lv (v :: .ref a :: st) := by
  subst h2
  subst hX
  subst hd
  have hq : (X ++ va_pl L F)[q]? = some (a, .inr (ci, fs)) := by rw [List.getElem?_append_left (List.getElem?_eq_some_iff.mp hat).1]; exact hat
  refine fun H locs ls hP hD hS hl => va_putF C.1 C.2.1 C.2.2.2.2.1 hin ty0 hty hnm C.2.2.2.1 C.2.2.2.2.2.1 hP hD hS q hq hc j hj (C.2.2.2.2.1 _ hw) (fun x h => by rw [← hr]; exact h) hfin hini hro (hty j hj) hn hfit hl0 hdg (fun H1 locs1 hP1 hD1 hS1 => ?_)
  rw [pw_setX hat] at hP1 hD1
  exact kk H1 locs1 ls hP1 hD1 hS1 hl
theorem pk_iald (C : pw_C Z cc nL own Ts R0 ret) {a N : Nat} {f : Nat → Int32} {i : Int32} {v : Int32} (hat : pw_at X L F a (.inl ((zG Z).2.1, N, .inl f))) (hin : vp_in i N) (hv : f i.toNatClampNeg = v) (hdg : decode cc pc = .ok (.iaload, 1)) (h2 : pc + 1 = pc2) (kk : PW Z X L F k n Q pc2 lv (.int v :: st)) : PW Z X L F k n Q pc lv (.int i :: .ref a :: st) := by
  subst h2
  subst hv
  obtain ⟨q, hq⟩ := hat
  exact fun H locs ls hP hD hS hl => va_iald C.1 C.2.1 C.2.2.2.2.2.1 hP q 0 hq rfl hin hdg (kk H locs ls hP hD hS hl)
theorem pk_iastX (C : pw_C Z cc nL own Ts R0 ret) {a N : Nat} {f : Nat → Int32} {i : Int32} {x : Int32} {X' : va_W} (q : Nat) (hat : X[q]? = some (a, .inl ((zG Z).2.1, N, .inl f))) (hin : vp_in i N) (hX : X.set q (a, .inl ((zG Z).2.1, N, .inl (upd f i.toNatClampNeg x))) = X') (hdg : decode cc pc = .ok (.iastore, 1)) (h2 : pc + 1 = pc2) (kk : PW Z X' L F k n Q pc2 lv st) : PW Z X L F k n Q pc lv (.int x :: .int i :: .ref a :: st) := by
  subst h2
  subst hX
  have hq : (X ++ va_pl L F)[q]? = some (a, .inl ((zG Z).2.1, N, .inl f)) := by rw [List.getElem?_append_left (List.getElem?_eq_some_iff.mp hat).1]; exact hat
  refine fun H locs ls hP hD hS hl => va_iast C.1 C.2.1 C.2.2.2.2.2.1 hP hD hS q 0 hq rfl hin hdg (fun H1 locs1 hP1 hD1 hS1 => ?_)
  rw [pw_setX hat] at hP1 hD1
  exact kk H1 locs1 ls hP1 hD1 hS1 hl
theorem pk_iastP (C : pw_C Z cc nL own Ts R0 ret) {a N : Nat} {f : Nat → Int32} {i : Int32} {x : Int32} (hL : a ∈ L) (hat : F a = .inl ((zG Z).2.1, N, .inl f)) (hin : vp_in i N) (hdg : decode cc pc = .ok (.iastore, 1)) (h2 : pc + 1 = pc2) (kk : PW Z X L (va_up F a (.inl ((zG Z).2.1, N, .inl (upd f i.toNatClampNeg x)))) k n Q pc2 lv st) : PW Z X L F k n Q pc lv (.int x :: .int i :: .ref a :: st) := by
  subst h2
  obtain ⟨q, hq⟩ := va_pl_get (X := X) (f := F) hL
  have hq2 : (X ++ va_pl L F)[q]? = some (a, .inl ((zG Z).2.1, N, .inl f)) := by rw [hq, hat]
  refine fun H locs ls hP hD hS hl => va_iast C.1 C.2.1 C.2.2.2.2.2.1 hP hD hS q 0 hq2 rfl hin hdg (fun H1 locs1 hP1 hD1 hS1 => ?_)
  rw [va_pl_set hD hL hq] at hP1 hD1
  exact kk H1 locs1 ls hP1 hD1 hS1 hl
theorem pk_lald (C : pw_C Z cc nL own Ts R0 ret) {a N : Nat} {f : Nat → Int64} {i : Int32} {v : Int64} (hat : pw_at X L F a (.inl ((zG Z).2.2.1, N, .inr (.inl f)))) (hin : vp_in i N) (hv : f i.toNatClampNeg = v) (hdg : decode cc pc = .ok (.laload, 1)) (h2 : pc + 1 = pc2) (kk : PW Z X L F k n Q pc2 lv (.long v :: st)) : PW Z X L F k n Q pc lv (.int i :: .ref a :: st) := by
  subst h2
  subst hv
  obtain ⟨q, hq⟩ := hat
  exact fun H locs ls hP hD hS hl => va_lald C.1 C.2.1 C.2.2.2.2.2.1 hP q 1 hq rfl hin hdg (kk H locs ls hP hD hS hl)
theorem pk_lastX (C : pw_C Z cc nL own Ts R0 ret) {a N : Nat} {f : Nat → Int64} {i : Int32} {x : Int64} {X' : va_W} (q : Nat) (hat : X[q]? = some (a, .inl ((zG Z).2.2.1, N, .inr (.inl f)))) (hin : vp_in i N) (hX : X.set q (a, .inl ((zG Z).2.2.1, N, .inr (.inl (vp_updL f i.toNatClampNeg x)))) = X') (hdg : decode cc pc = .ok (.lastore, 1)) (h2 : pc + 1 = pc2) (kk : PW Z X' L F k n Q pc2 lv st) : PW Z X L F k n Q pc lv (.long x :: .int i :: .ref a :: st) := by
  subst h2
  subst hX
  have hq : (X ++ va_pl L F)[q]? = some (a, .inl ((zG Z).2.2.1, N, .inr (.inl f))) := by rw [List.getElem?_append_left (List.getElem?_eq_some_iff.mp hat).1]; exact hat
  refine fun H locs ls hP hD hS hl => va_last C.1 C.2.1 C.2.2.2.2.2.1 hP hD hS q 1 hq rfl hin hdg (fun H1 locs1 hP1 hD1 hS1 => ?_)
  rw [pw_setX hat] at hP1 hD1
  exact kk H1 locs1 ls hP1 hD1 hS1 hl
theorem pk_lastP (C : pw_C Z cc nL own Ts R0 ret) {a N : Nat} {f : Nat → Int64} {i : Int32} {x : Int64} (hL : a ∈ L) (hat : F a = .inl ((zG Z).2.2.1, N, .inr (.inl f))) (hin : vp_in i N) (hdg : decode cc pc = .ok (.lastore, 1)) (h2 : pc + 1 = pc2) (kk : PW Z X L (va_up F a (.inl ((zG Z).2.2.1, N, .inr (.inl (vp_updL f i.toNatClampNeg x))))) k n Q pc2 lv st) : PW Z X L F k n Q pc lv (.long x :: .int i :: .ref a :: st) := by
  subst h2
  obtain ⟨q, hq⟩ := va_pl_get (X := X) (f := F) hL
  have hq2 : (X ++ va_pl L F)[q]? = some (a, .inl ((zG Z).2.2.1, N, .inr (.inl f))) := by rw [hq, hat]
  refine fun H locs ls hP hD hS hl => va_last C.1 C.2.1 C.2.2.2.2.2.1 hP hD hS q 1 hq2 rfl hin hdg (fun H1 locs1 hP1 hD1 hS1 => ?_)
  rw [va_pl_set hD hL hq] at hP1 hD1
  exact kk H1 locs1 ls hP1 hD1 hS1 hl
theorem pk_aldE (C : pw_C Z cc nL own Ts R0 ret) {a N : Nat} {f : Nat → Option Nat} {i : Int32} {r : Option Nat} (hat : pw_at X L F a (.inl ((zG Z).2.2.2.1, N, .inr (.inr (.inr (.inr f)))))) (hin : vp_in i N) (hv : f i.toNatClampNeg = r) (hdg : decode cc pc = .ok (.aaload, 1)) (h2 : pc + 1 = pc2) (kk : PW Z X L F k n Q pc2 lv (va_rf r :: st)) : PW Z X L F k n Q pc lv (.int i :: .ref a :: st) := by
  subst h2
  subst hv
  obtain ⟨q, hq⟩ := hat
  exact fun H locs ls hP hD hS hl => va_aldq (C := RX1) C.1 C.2.1 C.2.2.2.2.2.1 hP q 2 hq rfl hin hdg (kk H locs ls hP hD hS hl)
theorem pk_astEX (C : pw_C Z cc nL own Ts R0 ret) {a N b : Nat} {f : Nat → Option Nat} {i : Int32} {vs : List Value} {X' : va_W} (q : Nat) (hat : X[q]? = some (a, .inl ((zG Z).2.2.2.1, N, .inr (.inr (.inr (.inr f)))))) (hb : pw_at X L F b (.inr (1, vs))) (hin : vp_in i N) (hX : X.set q (a, .inl ((zG Z).2.2.2.1, N, .inr (.inr (.inr (.inr (va_up f i.toNatClampNeg (some b))))))) = X') (hdg : decode cc pc = .ok (.aastore, 1)) (h2 : pc + 1 = pc2) (kk : PW Z X' L F k n Q pc2 lv st) : PW Z X L F k n Q pc lv (.ref b :: .int i :: .ref a :: st) := by
  subst h2
  subst hX
  have hq : (X ++ va_pl L F)[q]? = some (a, .inl ((zG Z).2.2.2.1, N, .inr (.inr (.inr (.inr f))))) := by rw [List.getElem?_append_left (List.getElem?_eq_some_iff.mp hat).1]; exact hat
  obtain ⟨qb, hqb⟩ := hb
  refine fun H locs ls hP hD hS hl => va_astq (r := vwCl[1]) C.1 C.2.1 C.2.2.2.2.2.1 hP hD hS q 2 qb 1 hq rfl hqb rfl hin hdg (fun H1 locs1 hP1 hD1 hS1 => ?_)
  rw [pw_setX hat] at hP1 hD1
  exact kk H1 locs1 ls hP1 hD1 hS1 hl
theorem pk_astEXN (C : pw_C Z cc nL own Ts R0 ret) {a N : Nat} {f : Nat → Option Nat} {i : Int32} {X' : va_W} (q : Nat) (hat : X[q]? = some (a, .inl ((zG Z).2.2.2.1, N, .inr (.inr (.inr (.inr f)))))) (hin : vp_in i N) (hX : X.set q (a, .inl ((zG Z).2.2.2.1, N, .inr (.inr (.inr (.inr (va_up f i.toNatClampNeg none)))))) = X') (hdg : decode cc pc = .ok (.aastore, 1)) (h2 : pc + 1 = pc2) (kk : PW Z X' L F k n Q pc2 lv st) : PW Z X L F k n Q pc lv (.null :: .int i :: .ref a :: st) := by
  subst h2
  subst hX
  have hq : (X ++ va_pl L F)[q]? = some (a, .inl ((zG Z).2.2.2.1, N, .inr (.inr (.inr (.inr f))))) := by rw [List.getElem?_append_left (List.getElem?_eq_some_iff.mp hat).1]; exact hat
  refine fun H locs ls hP hD hS hl => va_astqN (C := RX1) C.1 C.2.1 C.2.2.2.2.2.1 hP hD hS q 2 hq rfl hin hdg (fun H1 locs1 hP1 hD1 hS1 => ?_)
  rw [pw_setX hat] at hP1 hD1
  exact kk H1 locs1 ls hP1 hD1 hS1 hl
theorem pk_astEP (C : pw_C Z cc nL own Ts R0 ret) {a N b : Nat} {f : Nat → Option Nat} {i : Int32} {vs : List Value} (hL : a ∈ L) (hat : F a = .inl ((zG Z).2.2.2.1, N, .inr (.inr (.inr (.inr f))))) (hb : pw_at X L F b (.inr (1, vs))) (hin : vp_in i N) (hdg : decode cc pc = .ok (.aastore, 1)) (h2 : pc + 1 = pc2) (kk : PW Z X L (va_up F a (.inl ((zG Z).2.2.2.1, N, .inr (.inr (.inr (.inr (va_up f i.toNatClampNeg (some b)))))))) k n Q pc2 lv st) : PW Z X L F k n Q pc lv (.ref b :: .int i :: .ref a :: st) := by
  subst h2
  obtain ⟨q, hq⟩ := va_pl_get (X := X) (f := F) hL
  have hq2 : (X ++ va_pl L F)[q]? = some (a, .inl ((zG Z).2.2.2.1, N, .inr (.inr (.inr (.inr f))))) := by rw [hq, hat]
  obtain ⟨qb, hqb⟩ := hb
  refine fun H locs ls hP hD hS hl => va_astq (r := vwCl[1]) C.1 C.2.1 C.2.2.2.2.2.1 hP hD hS q 2 qb 1 hq2 rfl hqb rfl hin hdg (fun H1 locs1 hP1 hD1 hS1 => ?_)
  rw [va_pl_set hD hL hq] at hP1 hD1
  exact kk H1 locs1 ls hP1 hD1 hS1 hl
theorem pk_astEPN (C : pw_C Z cc nL own Ts R0 ret) {a N : Nat} {f : Nat → Option Nat} {i : Int32} (hL : a ∈ L) (hat : F a = .inl ((zG Z).2.2.2.1, N, .inr (.inr (.inr (.inr f))))) (hin : vp_in i N) (hdg : decode cc pc = .ok (.aastore, 1)) (h2 : pc + 1 = pc2) (kk : PW Z X L (va_up F a (.inl ((zG Z).2.2.2.1, N, .inr (.inr (.inr (.inr (va_up f i.toNatClampNeg none))))))) k n Q pc2 lv st) : PW Z X L F k n Q pc lv (.null :: .int i :: .ref a :: st) := by
  subst h2
  obtain ⟨q, hq⟩ := va_pl_get (X := X) (f := F) hL
  have hq2 : (X ++ va_pl L F)[q]? = some (a, .inl ((zG Z).2.2.2.1, N, .inr (.inr (.inr (.inr f))))) := by rw [hq, hat]
  refine fun H locs ls hP hD hS hl => va_astqN (C := RX1) C.1 C.2.1 C.2.2.2.2.2.1 hP hD hS q 2 hq2 rfl hin hdg (fun H1 locs1 hP1 hD1 hS1 => ?_)
  rw [va_pl_set hD hL hq] at hP1 hD1
  exact kk H1 locs1 ls hP1 hD1 hS1 hl
theorem pk_aldP (C : pw_C Z cc nL own Ts R0 ret) {a N : Nat} {f : Nat → Option Nat} {i : Int32} {r : Option Nat} (hat : pw_at X L F a (.inl ((zG Z).2.2.2.2, N, .inr (.inr (.inr (.inr f)))))) (hin : vp_in i N) (hv : f i.toNatClampNeg = r) (hdg : decode cc pc = .ok (.aaload, 1)) (h2 : pc + 1 = pc2) (kk : PW Z X L F k n Q pc2 lv (va_rf r :: st)) : PW Z X L F k n Q pc lv (.int i :: .ref a :: st) := by
  subst h2
  subst hv
  obtain ⟨q, hq⟩ := hat
  exact fun H locs ls hP hD hS hl => va_aldq (C := RX2) C.1 C.2.1 C.2.2.2.2.2.1 hP q 3 hq rfl hin hdg (kk H locs ls hP hD hS hl)
theorem pk_astPX (C : pw_C Z cc nL own Ts R0 ret) {a N b : Nat} {f : Nat → Option Nat} {i : Int32} {vs : List Value} {X' : va_W} (q : Nat) (hat : X[q]? = some (a, .inl ((zG Z).2.2.2.2, N, .inr (.inr (.inr (.inr f)))))) (hb : pw_at X L F b (.inr (2, vs))) (hin : vp_in i N) (hX : X.set q (a, .inl ((zG Z).2.2.2.2, N, .inr (.inr (.inr (.inr (va_up f i.toNatClampNeg (some b))))))) = X') (hdg : decode cc pc = .ok (.aastore, 1)) (h2 : pc + 1 = pc2) (kk : PW Z X' L F k n Q pc2 lv st) : PW Z X L F k n Q pc lv (.ref b :: .int i :: .ref a :: st) := by
  subst h2
  subst hX
  have hq : (X ++ va_pl L F)[q]? = some (a, .inl ((zG Z).2.2.2.2, N, .inr (.inr (.inr (.inr f))))) := by rw [List.getElem?_append_left (List.getElem?_eq_some_iff.mp hat).1]; exact hat
  obtain ⟨qb, hqb⟩ := hb
  refine fun H locs ls hP hD hS hl => va_astq (r := vwCl[2]) C.1 C.2.1 C.2.2.2.2.2.1 hP hD hS q 3 qb 2 hq rfl hqb rfl hin hdg (fun H1 locs1 hP1 hD1 hS1 => ?_)
  rw [pw_setX hat] at hP1 hD1
  exact kk H1 locs1 ls hP1 hD1 hS1 hl
theorem pk_astPXN (C : pw_C Z cc nL own Ts R0 ret) {a N : Nat} {f : Nat → Option Nat} {i : Int32} {X' : va_W} (q : Nat) (hat : X[q]? = some (a, .inl ((zG Z).2.2.2.2, N, .inr (.inr (.inr (.inr f)))))) (hin : vp_in i N) (hX : X.set q (a, .inl ((zG Z).2.2.2.2, N, .inr (.inr (.inr (.inr (va_up f i.toNatClampNeg none)))))) = X') (hdg : decode cc pc = .ok (.aastore, 1)) (h2 : pc + 1 = pc2) (kk : PW Z X' L F k n Q pc2 lv st) : PW Z X L F k n Q pc lv (.null :: .int i :: .ref a :: st) := by
  subst h2
  subst hX
  have hq : (X ++ va_pl L F)[q]? = some (a, .inl ((zG Z).2.2.2.2, N, .inr (.inr (.inr (.inr f))))) := by rw [List.getElem?_append_left (List.getElem?_eq_some_iff.mp hat).1]; exact hat
  refine fun H locs ls hP hD hS hl => va_astqN (C := RX2) C.1 C.2.1 C.2.2.2.2.2.1 hP hD hS q 3 hq rfl hin hdg (fun H1 locs1 hP1 hD1 hS1 => ?_)
  rw [pw_setX hat] at hP1 hD1
  exact kk H1 locs1 ls hP1 hD1 hS1 hl
theorem pk_astPP (C : pw_C Z cc nL own Ts R0 ret) {a N b : Nat} {f : Nat → Option Nat} {i : Int32} {vs : List Value} (hL : a ∈ L) (hat : F a = .inl ((zG Z).2.2.2.2, N, .inr (.inr (.inr (.inr f))))) (hb : pw_at X L F b (.inr (2, vs))) (hin : vp_in i N) (hdg : decode cc pc = .ok (.aastore, 1)) (h2 : pc + 1 = pc2) (kk : PW Z X L (va_up F a (.inl ((zG Z).2.2.2.2, N, .inr (.inr (.inr (.inr (va_up f i.toNatClampNeg (some b)))))))) k n Q pc2 lv st) : PW Z X L F k n Q pc lv (.ref b :: .int i :: .ref a :: st) := by
  subst h2
  obtain ⟨q, hq⟩ := va_pl_get (X := X) (f := F) hL
  have hq2 : (X ++ va_pl L F)[q]? = some (a, .inl ((zG Z).2.2.2.2, N, .inr (.inr (.inr (.inr f))))) := by rw [hq, hat]
  obtain ⟨qb, hqb⟩ := hb
  refine fun H locs ls hP hD hS hl => va_astq (r := vwCl[2]) C.1 C.2.1 C.2.2.2.2.2.1 hP hD hS q 3 qb 2 hq2 rfl hqb rfl hin hdg (fun H1 locs1 hP1 hD1 hS1 => ?_)
  rw [va_pl_set hD hL hq] at hP1 hD1
  exact kk H1 locs1 ls hP1 hD1 hS1 hl
theorem pk_astPPN (C : pw_C Z cc nL own Ts R0 ret) {a N : Nat} {f : Nat → Option Nat} {i : Int32} (hL : a ∈ L) (hat : F a = .inl ((zG Z).2.2.2.2, N, .inr (.inr (.inr (.inr f))))) (hin : vp_in i N) (hdg : decode cc pc = .ok (.aastore, 1)) (h2 : pc + 1 = pc2) (kk : PW Z X L (va_up F a (.inl ((zG Z).2.2.2.2, N, .inr (.inr (.inr (.inr (va_up f i.toNatClampNeg none))))))) k n Q pc2 lv st) : PW Z X L F k n Q pc lv (.null :: .int i :: .ref a :: st) := by
  subst h2
  obtain ⟨q, hq⟩ := va_pl_get (X := X) (f := F) hL
  have hq2 : (X ++ va_pl L F)[q]? = some (a, .inl ((zG Z).2.2.2.2, N, .inr (.inr (.inr (.inr f))))) := by rw [hq, hat]
  refine fun H locs ls hP hD hS hl => va_astqN (C := RX2) C.1 C.2.1 C.2.2.2.2.2.1 hP hD hS q 3 hq2 rfl hin hdg (fun H1 locs1 hP1 hD1 hS1 => ?_)
  rw [va_pl_set hD hL hq] at hP1 hD1
  exact kk H1 locs1 ls hP1 hD1 hS1 hl
theorem pk_topi {x : Int32} (kk : ∀ y : Int32, y = x → PW Z X L F k n Q pc lv (.int y :: st)) : PW Z X L F k n Q pc lv (.int x :: st) := kk x rfl
theorem pk_topl {x : Int64} (kk : ∀ y : Int64, y = x → PW Z X L F k n Q pc lv (.long y :: st)) : PW Z X L F k n Q pc lv (.long x :: st) := kk x rfl
end PWR
end
section
/-! contracts over worlds of cells and a pool: how a body begins and ends, and calls -/
abbrev pw_O : Type := Option Value → va_W → List Nat → (Nat → va_E) → Prop
def pw_B (G : pw_G) (X : va_W) (L : List Nat) (F : Nat → va_E) (sz : Nat) : State → Prop := fun U => U.heap.size = sz ∧ va_P G.1 vwCl (X ++ va_pl L F) U.heap ∧ va_K G.1 vwCl (pw_tys G) U ∧ va_D (fun _ => True) (X ++ va_pl L F) ∧ ∀ w ∈ pw_N, va_Nw w U
def pw_Q (G : pw_G) (X : va_W) (L : List Nat) (F : Nat → va_E) (sz : Nat) (o : pw_O) : Array Value → State → Outcome → State → Prop := fun _ st oc t =>
  (∃ (v : Option Value) (X' : va_W) (L' : List Nat) (F' : Nat → va_E), oc = .returned v ∧ o v X' L' F' ∧ va_P G.1 vwCl (X' ++ va_pl L' F') t.heap ∧ va_D (va_A (X ++ va_pl L F) sz) (X' ++ va_pl L' F')) ∧ va_F (va_A (X ++ va_pl L F) sz) st t
def PM (l : Launch) (y : MethodName) (ws : List Cond) (rm : Room) (G : pw_G) (av : List Value) (X : va_W) (L : List Nat) (F : Nat → va_E) (mc ms : Nat) (o : pw_O) : Prop :=
  ∀ sz : Nat, Met l y ws rm (va_Pc av (pw_B G X L F sz)) (pw_Q G X L F sz o) mc ms (va_A (X ++ va_pl L F) sz)
/-- one answer, one world behind it, the pool as it was -/
def po_d (v : Option Value) (X1 : va_W) (L : List Nat) (F : Nat → va_E) : pw_O := fun v' X' L' F' => v' = v ∧ X' = X1 ∧ L' = L ∧ F' = F
theorem po_d_rfl {v : Option Value} {X1 X2 : va_W} {L : List Nat} {F : Nat → va_E} {v2 : Option Value} (h : v2 = v) (hX : X2 = X1) : po_d v X1 L F v2 X2 L F := ⟨h, hX, rfl, rfl⟩
def pw_End (Z : pw_Z) (Q : State → Prop) (X : va_W) (L : List Nat) (F : Nat → va_E) (o : pw_O) (mc ms : Nat) : Prop :=
  Q = MQ (zbelow Z) (pw_Q (zG Z) X L F (zH Z).size o) (zargs Z) (zs Z) mc ms (zA Z) ∧ zA Z = va_A (X ++ va_pl L F) (zH Z).size ∧ zH Z = (zs Z).heap
theorem pw_blind {G : pw_G} {av : List Value} {X : va_W} {L : List Nat} {F : Nat → va_E} {sz : Nat} : FrameBlind (va_Pc av (pw_B G X L F sz)) := fun a U g mk q => by
  obtain ⟨q0, q1, qP, qK, qD, qN⟩ := q
  exact ⟨q0, q1, qP, va_K.moved (u := U) (U := U.calling g mk a) (Vm.Alike.refl U.vm) qK, qD, pw_N_same (u := U) (U := U.calling g mk a) rfl qN⟩
theorem pm_entry {l : Launch} {y : MethodName} {ws ws' : List Cond} {rm : Room} {G : pw_G} {av : List Value} {X : va_W} {L : List Nat} {F : Nat → va_E} {mc ms : Nat} {o : pw_O} {cc : ByteArray} {maxL : Nat} {ret : Option FieldType} {own : String} (hy : plainName y.cls = true) (hw : ws = Cond.code y cc maxL ret :: ws') (hown : y.cls = own) (hlen : (lg_sl av).length ≤ maxL)
    (body : ∀ (Z : pw_Z) (Q : State → Prop), pw_C Z cc maxL own ws rm ret → zl Z = l → zG Z = G → (zmeth Z).name = y.name → pw_End Z Q X L F o mc ms → PW Z X L F 0 0 Q 0 (lv_args 0 av) []) : PM l y ws rm G av X L F mc ms o := by
  intro sz
  refine Met.ofW hy hw ?_
  intro p e s m args below meth c s₁ B hml hv
  obtain ⟨rfl, hsz, hP, hK, hD0, hN⟩ := hv
  subst hsz
  subst hown
  have h := body ((p, l, e, (headSpec ws rm).room, s, m, av.toArray, below, meth, c), (G, va_A (X ++ va_pl L F) s.heap.size, s.heap)) _ ⟨B.exec, B.bytes, hml, findClass_of_methodNamed B.named, atoms_spec (ws := ws) B.pre, hK, fun q h => Or.inr h, rfl, B.returns, B.notSynchronized, hN⟩ rfl rfl (name_of_methodNamed B.named B.method).1 ⟨rfl, rfl, rfl⟩
  rw [lg_entry_eq]
  exact h s.heap [] _ hP hD0.self va_S.rf (by rw [show (zc ((p, l, e, (headSpec ws rm).room, s, m, av.toArray, below, meth, c), (G, va_A (X ++ va_pl L F) s.heap.size, s.heap))).maxLocals = maxL from hml]; exact lv_entry av hlen)
section PRT
variable {Z : pw_Z} {X X0 : va_W} {L L0 : List Nat} {F F0' : Nat → va_E} {k n : Nat} {Q : State → Prop} {pc pc2 : Nat} {lv : List (Nat × Value)} {st : List Value} {cc : ByteArray} {nL : Nat} {own : String} {Ts : List Cond} {R0 : Room} {ret : Option FieldType} {o : pw_O}
theorem pr_int {ty : FieldType} (C : pw_C Z cc nL own Ts R0 ret) (hE : pw_End Z Q X0 L0 F0' o k n) {v : Int32} (hret : ret = some ty) (hn : narrow ty (.int v) = .int v) (ho : o (some (.int v)) X L F) (hdg : decode cc pc = .ok (.ireturn, 1)) : PW Z X L F k n Q pc lv [.int v] := by
  obtain ⟨rfl, hA, hH⟩ := hE
  intro H locs ls hP hD hS hl
  rw [hH] at hS
  refine W.zret C.1 C.2.1 (C.2.2.2.2.2.2.2.2.1.trans hret) hn (fun t ht hW => ⟨⟨_, X, L, F, rfl, ho, by rw [ht]; exact hP, by rw [← hA]; exact hD⟩, by rw [← hA]; exact hS.F ht⟩) hS.2.2 hdg C.2.2.2.2.2.2.2.2.2.1
theorem pr_long (C : pw_C Z cc nL own Ts R0 (some .long)) (hE : pw_End Z Q X0 L0 F0' o k n) {v : Int64} (ho : o (some (.long v)) X L F) (hdg : decode cc pc = .ok (.lreturn, 1)) : PW Z X L F k n Q pc lv [.long v] := by
  obtain ⟨rfl, hA, hH⟩ := hE
  intro H locs ls hP hD hS hl
  rw [hH] at hS
  refine W.lret C.1 C.2.1 C.2.2.2.2.2.2.2.2.1 (fun t ht hW => ⟨⟨_, X, L, F, rfl, ho, by rw [ht]; exact hP, by rw [← hA]; exact hD⟩, by rw [← hA]; exact hS.F ht⟩) hS.2.2 hdg C.2.2.2.2.2.2.2.2.2.1
theorem pr_void (C : pw_C Z cc nL own Ts R0 none) (hE : pw_End Z Q X0 L0 F0' o k n) (ho : o none X L F) (hdg : decode cc pc = .ok (.return_, 1)) : PW Z X L F k n Q pc lv [] := by
  obtain ⟨rfl, hA, hH⟩ := hE
  intro H locs ls hP hD hS hl
  rw [hH] at hS
  refine W.vret C.1 C.2.1 C.2.2.2.2.2.2.2.2.1 (fun t ht hW => ⟨⟨_, X, L, F, rfl, ho, by rw [ht]; exact hP, by rw [← hA]; exact hD⟩, by rw [← hA]; exact hS.F ht⟩) hS.2.2 hdg C.2.2.2.2.2.2.2.2.2.1
theorem pr_ref {Cn : String} (C : pw_C Z cc nL own Ts R0 (some (.object Cn))) (hE : pw_End Z Q X0 L0 F0' o k n) (r : Option Nat) (ho : o (some (va_rf r)) X L F) (hdg : decode cc pc = .ok (.areturn, 1)) : PW Z X L F k n Q pc lv [va_rf r] := by
  obtain ⟨rfl, hA, hH⟩ := hE
  intro H locs ls hP hD hS hl
  rw [hH] at hS
  refine W.aret C.1 C.2.1 C.2.2.2.2.2.2.2.2.1 (Or.inl ⟨_, rfl⟩) (va_rf_or r) (fun t ht hW => ⟨⟨_, X, L, F, rfl, ho, by rw [ht]; exact hP, by rw [← hA]; exact hD⟩, by rw [← hA]; exact hS.F ht⟩) hS.2.2 hdg C.2.2.2.2.2.2.2.2.2.1
end PRT
section PCL
variable {p : Program} {l : Launch} {e : Env} {R : Room} {s : State} {m : MethodId} {args : Array Value} {below : List Frame} {meth : Method} {c : Code} {H : Heap} {locs : List Loc} {cells slots : Nat} {Q : State → Prop}
variable {pc : Nat} {ls : Array Slot} {rest st0 : List Value} {a : Array Value} {A0 : Nat → Prop} {H0 : Heap} {mc ms : Nat} {free : Addr → Prop}
theorem pw_call {G : pw_G} {X : va_W} {L : List Nat} {F : Nat → va_E} {o : pw_O} (hr : va_Run p l e R s m args below meth c H locs cells slots mc ms (F0 m pc ls st0) rest (pw_Q G X L F H.size o a) free) (hS : va_S A0 H0 H locs) (hA : ∀ q, va_A (X ++ va_pl L F) H.size q → A0 q) (hf : ∀ q, free q → A0 q)
    (kk : ∀ (v : Option Value) (X' : va_W) (L' : List Nat) (F' : Nat → va_E) (H1 : Heap) (locs1 : List Loc), o v X' L' F' → va_P G.1 vwCl (X' ++ va_pl L' F') H1 → va_D (va_A (X ++ va_pl L F) H.size) (X' ++ va_pl L' F') → (∀ q : Nat, q < H.size → ¬ va_A (X ++ va_pl L F) H.size q → H1[q]? = H[q]?) → va_S A0 H0 H1 locs1 → W p l e R s m args below meth c H1 locs1 (cells + mc) (slots + ms) Q (F0 m (pc + 3) ls (v.toList ++ rest))) : W p l e R s m args below meth c H locs cells slots Q (F0 m pc ls st0) := by
  intro T hT X9
  obtain ⟨v, st₀, t, T', L9, h0, X', hL, e1, e2, ⟨⟨v', X1, L1, F1, hv, ho, hp, hd⟩, hz, hk⟩, st⟩ := hr T hT X9
  cases hv
  rw [h0] at hz hk
  obtain ⟨t2, a1, b1⟩ := kk v X1 L1 F1 T'.heap (locs ++ L9) ho (by rw [e1]; exact hp) hd (fun q h1 h2 => by rw [e1]; exact hk q h1 h2)
    ⟨Nat.le_trans hS.1 (by rw [e1]; exact hz), fun q h1 h2 => by rw [e1, hk q (Nat.lt_of_lt_of_le h1 hS.1) (fun z => h2 (hA q z))]; exact hS.2.1 q h1 h2, fun q hq => by
      rcases List.mem_append.mp hq with h | h
      · exact hS.2.2 q h
      · exact hf _ (hL q h)⟩ T' rfl X'
  exact ⟨t2, st t2 a1, b1⟩
end PCL
section PKC
variable {Z : pw_Z} {X : va_W} {L : List Nat} {F : Nat → va_E} {k n : Nat} {Q : State → Prop} {pc pc2 : Nat} {lv : List (Nat × Value)} {st st0 : List Value} {cc : ByteArray} {nL : Nat} {own : String} {Ts : List Cond} {R0 : Room} {ret : Option FieldType}
variable {y : MethodName} {bytes : ByteArray} {maxL nargs index mc ms : Nat} {rty : Option FieldType} {ws ws' : List Cond} {rm : Room} {b : Nat} {As : List Value} {cx wr : va_W} {o : pw_O} {ci N : Nat} {Cn host : String} {T : u_T} {fs : List Value}
/-- behind any call: from its run to the walk's next point -/
theorem pk_back (C : pw_C Z cc nL own Ts R0 ret) (isC isR : List Nat) (hC : isC.map (fun i => X[i]?) = cx.map some) (hR : isR.map (fun i => X[i]?) = wr.map some) (hnR : va_nd isR = true) (hdis : ∀ i ∈ isR, i ∉ isC) (h2 : pc + 3 = pc2)
    (kk : ∀ (v : Option Value) (X' : va_W) (L' : List Nat) (F' : Nat → va_E), o v X' L' F' → PW Z (wr ++ X') L' F' (k + mc) (n + ms) Q pc2 lv (v.toList ++ st)) {H : Heap} {locs : List Loc} {ls : Array Slot} {a : Array Value} (hP : va_P (zG Z).1 vwCl (X ++ va_pl L F) H) (hD : va_D (zA Z) (X ++ va_pl L F)) (hS : va_S (zA Z) (zH Z) H locs) (hl : lv_has ls (zc Z).maxLocals lv)
    (hr : va_Run (zp Z) (zl Z) (ze Z) (zR Z) (zs Z) (zm Z) (zargs Z) (zbelow Z) (zmeth Z) (zc Z) H locs k n mc ms (F0 (zm Z) pc ls st0) st (pw_Q (zG Z) cx L F H.size o a) (va_A (cx ++ va_pl L F) H.size)) :
    W (zp Z) (zl Z) (ze Z) (zR Z) (zs Z) (zm Z) (zargs Z) (zbelow Z) (zmeth Z) (zc Z) H locs k n Q (F0 (zm Z) pc ls st0) := by
  subst h2
  have hFc : ∀ q, va_A (cx ++ va_pl L F) H.size q → zA Z q := va_freeP hD hS C.2.2.2.2.2.2.1 isC hC
  refine pw_call hr hS hFc hFc (fun v X' L' F' H1 locs1 ho hP1 hD1 hk hS1 => ?_)
  obtain ⟨hP2, hD2⟩ := va_joinP hP hD isC isR hC hR hnR hdis hk hFc hP1 hD1
  exact kk v X' L' F' ho H1 locs1 ls hP2 hD2 hS1 hl
theorem pw_pre (C : pw_C Z cc nL own Ts R0 ret) (isC : List Nat) (hC : isC.map (fun i => X[i]?) = cx.map some) (hnC : va_nd isC = true) {H : Heap} (hP : va_P (zG Z).1 vwCl (X ++ va_pl L F) H) (hD : va_D (zA Z) (X ++ va_pl L F)) : ∀ (av : List Value) (U : State), U.heap = H → (zs Z).WarmedH U.vm → va_Pc av (pw_B (zG Z) cx L F H.size) av.toArray U := fun av U hU hW => ⟨rfl, by rw [hU], by rw [hU]; exact hP.part isC hC, va_K.moved hW.alike C.2.2.2.2.2.1, (hD.part isC hnC hC).weaken (fun _ _ _ _ => trivial), pw_N_warm hW C.2.2.2.2.2.2.2.2.2.2⟩
theorem pk_callV (C : pw_C Z cc nL own Ts R0 ret) (hM : PM (zl Z) y ws rm (zG Z) (.ref b :: As) cx L F mc ms o) (hG : GoodIn Ts (wsV own index Cn y ws)) (hw : ws = Cond.code y bytes maxL rty :: ws') (hrc : rm.cells = mc) (hrs : rm.slots = ms) (nargs : Nat) (hd : y.cls = Cn ∧ y.cls ≠ "java/lang/invoke/MethodHandle" ∧ y.cls ≠ "java/lang/invoke/VarHandle" ∧ (parseMethodDescriptor y.desc).map (fun d => d.parameters.length) = some nargs) (hRm : rm.frames + 1 ≤ R0.frames ∧ 8 + (maxL + 11) + rm.locals ≤ R0.locals)
    (hrv : pw_at X L F b (.inr (ci, fs))) (hc : vwCl[ci]? = some (Cn, T, N)) (hn : As.length = nargs) (hst : st0 = As.reverse ++ .ref b :: st) (hcat : (st.map fun v => v.category).sum ≤ 8) (hf : k + mc ≤ R0.cells ∧ n + ms ≤ R0.slots)
    (isC isR : List Nat) (hC : isC.map (fun i => X[i]?) = cx.map some) (hnC : va_nd isC = true) (hR : isR.map (fun i => X[i]?) = wr.map some) (hnR : va_nd isR = true) (hdis : ∀ i ∈ isR, i ∉ isC) (hdg : decode cc pc = .ok (.invokevirtual index, 3)) (h2 : pc + 3 = pc2)
    (kk : ∀ (v : Option Value) (X' : va_W) (L' : List Nat) (F' : Nat → va_E), o v X' L' F' → PW Z (wr ++ X') L' F' (k + mc) (n + ms) Q pc2 lv (v.toList ++ st)) : PW Z X L F k n Q pc lv st0 := by
  intro H locs ls hP hD hS hl
  obtain ⟨q, hq⟩ := hrv
  have hR0 : zR Z = R0 := C.2.2.2.2.2.2.2.1
  have hcw := cwV (s := zs Z) (args := zargs Z) (R := zR Z) nargs C.2.2.2.2.1 hG hw hrc hrs hd (by rw [hR0]; exact hRm)
  exact pk_back C isC isR hC hR hnR hdis h2 kk hP hD hS hl (va_runV (As := As) (rest := st) (g := F0 (zm Z) pc ls st0) ⟨C.1, C.2.1, C.2.2.1, C.2.2.2.1, C.2.2.2.2.1⟩ (hM H.size) hcw ⟨pw_blind, va_recv C.2.2.2.2.2.1 hP hc hq, pw_pre C isC hC hnC hP hD (.ref b :: As)⟩ rfl hn (by show ls.size = nL; rw [hl.1]; exact C.2.2.1) hst (lv_room hcat) hdg (by rw [hR0]; exact hf))
theorem pk_callS (C : pw_C Z cc nL own Ts R0 ret) (hM : PM (zl Z) y ws rm (zG Z) As cx L F mc ms o) (hG : GoodIn Ts (va_wsS own index y ws)) (hw : ws = Cond.code y bytes maxL rty :: ws') (hrc : rm.cells = mc) (hrs : rm.slots = ms) (nargs : Nat) (hd : y.cls = own ∧ y.cls ≠ "java/lang/invoke/MethodHandle" ∧ y.cls ≠ "java/lang/invoke/VarHandle" ∧ (parseMethodDescriptor y.desc).map (fun d => d.parameters.length) = some nargs) (hRm : rm.frames + 1 ≤ R0.frames ∧ 8 + (maxL + 11) + rm.locals ≤ R0.locals)
    (hn : As.length = nargs) (hst : st0 = As.reverse ++ st) (hcat : (st.map fun v => v.category).sum ≤ 8) (hf : k + mc ≤ R0.cells ∧ n + ms ≤ R0.slots)
    (isC isR : List Nat) (hC : isC.map (fun i => X[i]?) = cx.map some) (hnC : va_nd isC = true) (hR : isR.map (fun i => X[i]?) = wr.map some) (hnR : va_nd isR = true) (hdis : ∀ i ∈ isR, i ∉ isC) (hdg : decode cc pc = .ok (.invokestatic index, 3)) (h2 : pc + 3 = pc2)
    (kk : ∀ (v : Option Value) (X' : va_W) (L' : List Nat) (F' : Nat → va_E), o v X' L' F' → PW Z (wr ++ X') L' F' (k + mc) (n + ms) Q pc2 lv (v.toList ++ st)) : PW Z X L F k n Q pc lv st0 := by
  intro H locs ls hP hD hS hl
  have hR0 : zR Z = R0 := C.2.2.2.2.2.2.2.1
  have hG' : GoodIn Ts (wsS own index y ws) := by
    have e1 := hd.1
    subst e1
    exact hG
  have hcw := cwS (s := zs Z) (args := zargs Z) (R := zR Z) nargs C.2.2.2.2.1 hG' hw hrc hrs hd (by rw [hR0]; exact hRm)
  exact pk_back C isC isR hC hR hnR hdis h2 kk hP hD hS hl (va_runS (As := As) (rest := st) (g := F0 (zm Z) pc ls st0) ⟨C.1, C.2.1, C.2.2.1, C.2.2.2.1, C.2.2.2.2.1⟩ (hM H.size) hcw ⟨pw_blind, pw_pre C isC hC hnC hP hD As⟩ rfl hn (by show ls.size = nL; rw [hl.1]; exact C.2.2.1) hst (lv_room hcat) hdg (by rw [hR0]; exact hf))
/-- a static method of a nest mate -/
theorem pk_callSN (C : pw_C Z cc nL own Ts R0 ret) (hM : PM (zl Z) y ws rm (zG Z) As cx L F mc ms o) (hG : GoodIn Ts ws) (hw : ws = Cond.code y bytes maxL rty :: ws') (hnest : Cond.methodLinkNest own index y host ∈ pw_N) (hst9 : Cond.static y ∈ Ts) (hini : Cond.initialized y.cls ∈ Ts) (hrc : rm.cells = mc) (hrs : rm.slots = ms) (nargs : Nat) (hd : y.cls ≠ "java/lang/invoke/MethodHandle" ∧ y.cls ≠ "java/lang/invoke/VarHandle" ∧ (parseMethodDescriptor y.desc).map (fun d => d.parameters.length) = some nargs) (hRm : rm.frames + 1 ≤ R0.frames ∧ 8 + (maxL + 11) + rm.locals ≤ R0.locals)
    (hn : As.length = nargs) (hst : st0 = As.reverse ++ st) (hcat : (st.map fun v => v.category).sum ≤ 8) (hf : k + mc ≤ R0.cells ∧ n + ms ≤ R0.slots)
    (isC isR : List Nat) (hC : isC.map (fun i => X[i]?) = cx.map some) (hnC : va_nd isC = true) (hR : isR.map (fun i => X[i]?) = wr.map some) (hnR : va_nd isR = true) (hdis : ∀ i ∈ isR, i ∉ isC) (hdg : decode cc pc = .ok (.invokestatic index, 3)) (h2 : pc + 3 = pc2)
    (kk : ∀ (v : Option Value) (X' : va_W) (L' : List Nat) (F' : Nat → va_E), o v X' L' F' → PW Z (wr ++ X') L' F' (k + mc) (n + ms) Q pc2 lv (v.toList ++ st)) : PW Z X L F k n Q pc lv st0 := by
  intro H locs ls hP hD hS hl
  have hR0 : zR Z = R0 := C.2.2.2.2.2.2.2.1
  have hcw := va_cnB (s := zs Z) (args := zargs Z) (R := zR Z) nargs C.2.2.2.2.1 hG hw hrc hrs (C.2.2.2.2.2.2.2.2.2.2 _ hnest) (C.2.2.2.2.1 _ hini) hd (by rw [hR0]; exact hRm)
  exact pk_back C isC isR hC hR hnR hdis h2 kk hP hD hS hl (va_runSN (As := As) (rest := st) (g := F0 (zm Z) pc ls st0) ⟨C.1, C.2.1, C.2.2.1, C.2.2.2.1, C.2.2.2.2.1⟩ (hM H.size) ⟨hcw, C.2.2.2.2.1 _ hst9, trivial⟩ ⟨pw_blind, pw_pre C isC hC hnC hP hD As⟩ rfl hn (by show ls.size = nL; rw [hl.1]; exact C.2.2.1) hst (lv_room hcat) hdg (by rw [hR0]; exact hf))
theorem pk_dV {v : Option Value} {X1 X2 : va_W} {st2 : List Value} (C : pw_C Z cc nL own Ts R0 ret) (hM : PM (zl Z) y ws rm (zG Z) (.ref b :: As) cx L F 0 0 (po_d v X1 L F)) (hG : GoodIn Ts (wsV own index Cn y ws)) (hw : ws = Cond.code y bytes maxL rty :: ws') (hrc : rm.cells = 0) (hrs : rm.slots = 0) (nargs : Nat) (hd : y.cls = Cn ∧ y.cls ≠ "java/lang/invoke/MethodHandle" ∧ y.cls ≠ "java/lang/invoke/VarHandle" ∧ (parseMethodDescriptor y.desc).map (fun d => d.parameters.length) = some nargs) (hRm : rm.frames + 1 ≤ R0.frames ∧ 8 + (maxL + 11) + rm.locals ≤ R0.locals)
    (hrv : pw_at X L F b (.inr (ci, fs))) (hc : vwCl[ci]? = some (Cn, T, N)) (hn : As.length = nargs) (hst : st0 = As.reverse ++ .ref b :: st) (hcat : (st.map fun v => v.category).sum ≤ 8) (hf : k ≤ R0.cells ∧ n ≤ R0.slots)
    (isC isR isB : List Nat) (hC : isC.map (fun i => X[i]?) = cx.map some) (hnC : va_nd isC = true) (hR : isR.map (fun i => X[i]?) = wr.map some) (hnR : va_nd isR = true) (hdis : ∀ i ∈ isR, i ∉ isC) (hB : isB.map (fun i => (wr ++ X1)[i]?) = X2.map some) (hnB : va_nd isB = true) (hdg : decode cc pc = .ok (.invokevirtual index, 3)) (h2 : pc + 3 = pc2)
    (hst2 : v.toList ++ st = st2) (kk : PW Z X2 L F k n Q pc2 lv st2) : PW Z X L F k n Q pc lv st0 := by
  subst hst2
  refine pk_callV C hM hG hw hrc hrs nargs hd hRm hrv hc hn hst hcat hf isC isR hC hnC hR hnR hdis hdg h2 (fun v' X' L' F' ho => ?_)
  obtain ⟨rfl, rfl, rfl, rfl⟩ := ho
  exact pw_perm isB hnB hB kk
theorem pk_dS {v : Option Value} {X1 X2 : va_W} {st2 : List Value} (C : pw_C Z cc nL own Ts R0 ret) (hM : PM (zl Z) y ws rm (zG Z) As cx L F 0 0 (po_d v X1 L F)) (hG : GoodIn Ts (va_wsS own index y ws)) (hw : ws = Cond.code y bytes maxL rty :: ws') (hrc : rm.cells = 0) (hrs : rm.slots = 0) (nargs : Nat) (hd : y.cls = own ∧ y.cls ≠ "java/lang/invoke/MethodHandle" ∧ y.cls ≠ "java/lang/invoke/VarHandle" ∧ (parseMethodDescriptor y.desc).map (fun d => d.parameters.length) = some nargs) (hRm : rm.frames + 1 ≤ R0.frames ∧ 8 + (maxL + 11) + rm.locals ≤ R0.locals)
    (hn : As.length = nargs) (hst : st0 = As.reverse ++ st) (hcat : (st.map fun v => v.category).sum ≤ 8) (hf : k ≤ R0.cells ∧ n ≤ R0.slots)
    (isC isR isB : List Nat) (hC : isC.map (fun i => X[i]?) = cx.map some) (hnC : va_nd isC = true) (hR : isR.map (fun i => X[i]?) = wr.map some) (hnR : va_nd isR = true) (hdis : ∀ i ∈ isR, i ∉ isC) (hB : isB.map (fun i => (wr ++ X1)[i]?) = X2.map some) (hnB : va_nd isB = true) (hdg : decode cc pc = .ok (.invokestatic index, 3)) (h2 : pc + 3 = pc2)
    (hst2 : v.toList ++ st = st2) (kk : PW Z X2 L F k n Q pc2 lv st2) : PW Z X L F k n Q pc lv st0 := by
  subst hst2
  refine pk_callS C hM hG hw hrc hrs nargs hd hRm hn hst hcat hf isC isR hC hnC hR hnR hdis hdg h2 (fun v' X' L' F' ho => ?_)
  obtain ⟨rfl, rfl, rfl, rfl⟩ := ho
  exact pw_perm isB hnB hB kk
theorem pk_dSN {v : Option Value} {X1 X2 : va_W} {st2 : List Value} (C : pw_C Z cc nL own Ts R0 ret) (hM : PM (zl Z) y ws rm (zG Z) As cx L F 0 0 (po_d v X1 L F)) (hG : GoodIn Ts ws) (hw : ws = Cond.code y bytes maxL rty :: ws') (hnest : Cond.methodLinkNest own index y host ∈ pw_N) (hst9 : Cond.static y ∈ Ts) (hini : Cond.initialized y.cls ∈ Ts) (hrc : rm.cells = 0) (hrs : rm.slots = 0) (nargs : Nat) (hd : y.cls ≠ "java/lang/invoke/MethodHandle" ∧ y.cls ≠ "java/lang/invoke/VarHandle" ∧ (parseMethodDescriptor y.desc).map (fun d => d.parameters.length) = some nargs) (hRm : rm.frames + 1 ≤ R0.frames ∧ 8 + (maxL + 11) + rm.locals ≤ R0.locals)
    (hn : As.length = nargs) (hst : st0 = As.reverse ++ st) (hcat : (st.map fun v => v.category).sum ≤ 8) (hf : k ≤ R0.cells ∧ n ≤ R0.slots)
    (isC isR isB : List Nat) (hC : isC.map (fun i => X[i]?) = cx.map some) (hnC : va_nd isC = true) (hR : isR.map (fun i => X[i]?) = wr.map some) (hnR : va_nd isR = true) (hdis : ∀ i ∈ isR, i ∉ isC) (hB : isB.map (fun i => (wr ++ X1)[i]?) = X2.map some) (hnB : va_nd isB = true) (hdg : decode cc pc = .ok (.invokestatic index, 3)) (h2 : pc + 3 = pc2)
    (hst2 : v.toList ++ st = st2) (kk : PW Z X2 L F k n Q pc2 lv st2) : PW Z X L F k n Q pc lv st0 := by
  subst hst2
  refine pk_callSN C hM hG hw hnest hst9 hini hrc hrs nargs hd hRm hn hst hcat hf isC isR hC hnC hR hnR hdis hdg h2 (fun v' X' L' F' ho => ?_)
  obtain ⟨rfl, rfl, rfl, rfl⟩ := ho
  exact pw_perm isB hnB hB kk
end PKC
end
section
/-! the pure values of the objects, and their cells -/
abbrev CR : Type := Int32 × Int32 × Int64 × Int64 × Int64 × Int64 × Int64 × Int32 × Int32 × Int32 × Int32 × Int64 × Int64 × Int64
def C_me (c : CR) : Int32 := c.1
def C_ra (c : CR) : Int32 := c.2.1
def C_co (c : CR) : Int64 := c.2.2.1
def C_al (c : CR) : Int64 := c.2.2.2.1
def C_re (c : CR) : Int64 := c.2.2.2.2.1
def C_lo (c : CR) : Int64 := c.2.2.2.2.2.1
def C_rs (c : CR) : Int64 := c.2.2.2.2.2.2.1
def C_li (c : CR) : Int32 := c.2.2.2.2.2.2.2.1
def C_he (c : CR) : Int32 := c.2.2.2.2.2.2.2.2.1
def C_go (c : CR) : Int32 := c.2.2.2.2.2.2.2.2.2.1
def C_br (c : CR) : Int32 := c.2.2.2.2.2.2.2.2.2.2.1
def C_cu (c : CR) : Int64 := c.2.2.2.2.2.2.2.2.2.2.2.1
def C_lc (c : CR) : Int64 := c.2.2.2.2.2.2.2.2.2.2.2.2.1
def C_ac (c : CR) : Int64 := c.2.2.2.2.2.2.2.2.2.2.2.2.2
def C_mk (f_me : Int32) (f_ra : Int32) (f_co : Int64) (f_al : Int64) (f_re : Int64) (f_lo : Int64) (f_rs : Int64) (f_li : Int32) (f_he : Int32) (f_go : Int32) (f_br : Int32) (f_cu : Int64) (f_lc : Int64) (f_ac : Int64) : CR := (f_me, f_ra, f_co, f_al, f_re, f_lo, f_rs, f_li, f_he, f_go, f_br, f_cu, f_lc, f_ac)
theorem C_me_mk (f_me : Int32) (f_ra : Int32) (f_co : Int64) (f_al : Int64) (f_re : Int64) (f_lo : Int64) (f_rs : Int64) (f_li : Int32) (f_he : Int32) (f_go : Int32) (f_br : Int32) (f_cu : Int64) (f_lc : Int64) (f_ac : Int64) : C_me (C_mk f_me f_ra f_co f_al f_re f_lo f_rs f_li f_he f_go f_br f_cu f_lc f_ac) = f_me := rfl
theorem C_ra_mk (f_me : Int32) (f_ra : Int32) (f_co : Int64) (f_al : Int64) (f_re : Int64) (f_lo : Int64) (f_rs : Int64) (f_li : Int32) (f_he : Int32) (f_go : Int32) (f_br : Int32) (f_cu : Int64) (f_lc : Int64) (f_ac : Int64) : C_ra (C_mk f_me f_ra f_co f_al f_re f_lo f_rs f_li f_he f_go f_br f_cu f_lc f_ac) = f_ra := rfl
theorem C_co_mk (f_me : Int32) (f_ra : Int32) (f_co : Int64) (f_al : Int64) (f_re : Int64) (f_lo : Int64) (f_rs : Int64) (f_li : Int32) (f_he : Int32) (f_go : Int32) (f_br : Int32) (f_cu : Int64) (f_lc : Int64) (f_ac : Int64) : C_co (C_mk f_me f_ra f_co f_al f_re f_lo f_rs f_li f_he f_go f_br f_cu f_lc f_ac) = f_co := rfl
theorem C_al_mk (f_me : Int32) (f_ra : Int32) (f_co : Int64) (f_al : Int64) (f_re : Int64) (f_lo : Int64) (f_rs : Int64) (f_li : Int32) (f_he : Int32) (f_go : Int32) (f_br : Int32) (f_cu : Int64) (f_lc : Int64) (f_ac : Int64) : C_al (C_mk f_me f_ra f_co f_al f_re f_lo f_rs f_li f_he f_go f_br f_cu f_lc f_ac) = f_al := rfl
theorem C_re_mk (f_me : Int32) (f_ra : Int32) (f_co : Int64) (f_al : Int64) (f_re : Int64) (f_lo : Int64) (f_rs : Int64) (f_li : Int32) (f_he : Int32) (f_go : Int32) (f_br : Int32) (f_cu : Int64) (f_lc : Int64) (f_ac : Int64) : C_re (C_mk f_me f_ra f_co f_al f_re f_lo f_rs f_li f_he f_go f_br f_cu f_lc f_ac) = f_re := rfl
theorem C_lo_mk (f_me : Int32) (f_ra : Int32) (f_co : Int64) (f_al : Int64) (f_re : Int64) (f_lo : Int64) (f_rs : Int64) (f_li : Int32) (f_he : Int32) (f_go : Int32) (f_br : Int32) (f_cu : Int64) (f_lc : Int64) (f_ac : Int64) : C_lo (C_mk f_me f_ra f_co f_al f_re f_lo f_rs f_li f_he f_go f_br f_cu f_lc f_ac) = f_lo := rfl
theorem C_rs_mk (f_me : Int32) (f_ra : Int32) (f_co : Int64) (f_al : Int64) (f_re : Int64) (f_lo : Int64) (f_rs : Int64) (f_li : Int32) (f_he : Int32) (f_go : Int32) (f_br : Int32) (f_cu : Int64) (f_lc : Int64) (f_ac : Int64) : C_rs (C_mk f_me f_ra f_co f_al f_re f_lo f_rs f_li f_he f_go f_br f_cu f_lc f_ac) = f_rs := rfl
theorem C_li_mk (f_me : Int32) (f_ra : Int32) (f_co : Int64) (f_al : Int64) (f_re : Int64) (f_lo : Int64) (f_rs : Int64) (f_li : Int32) (f_he : Int32) (f_go : Int32) (f_br : Int32) (f_cu : Int64) (f_lc : Int64) (f_ac : Int64) : C_li (C_mk f_me f_ra f_co f_al f_re f_lo f_rs f_li f_he f_go f_br f_cu f_lc f_ac) = f_li := rfl
theorem C_he_mk (f_me : Int32) (f_ra : Int32) (f_co : Int64) (f_al : Int64) (f_re : Int64) (f_lo : Int64) (f_rs : Int64) (f_li : Int32) (f_he : Int32) (f_go : Int32) (f_br : Int32) (f_cu : Int64) (f_lc : Int64) (f_ac : Int64) : C_he (C_mk f_me f_ra f_co f_al f_re f_lo f_rs f_li f_he f_go f_br f_cu f_lc f_ac) = f_he := rfl
theorem C_go_mk (f_me : Int32) (f_ra : Int32) (f_co : Int64) (f_al : Int64) (f_re : Int64) (f_lo : Int64) (f_rs : Int64) (f_li : Int32) (f_he : Int32) (f_go : Int32) (f_br : Int32) (f_cu : Int64) (f_lc : Int64) (f_ac : Int64) : C_go (C_mk f_me f_ra f_co f_al f_re f_lo f_rs f_li f_he f_go f_br f_cu f_lc f_ac) = f_go := rfl
theorem C_br_mk (f_me : Int32) (f_ra : Int32) (f_co : Int64) (f_al : Int64) (f_re : Int64) (f_lo : Int64) (f_rs : Int64) (f_li : Int32) (f_he : Int32) (f_go : Int32) (f_br : Int32) (f_cu : Int64) (f_lc : Int64) (f_ac : Int64) : C_br (C_mk f_me f_ra f_co f_al f_re f_lo f_rs f_li f_he f_go f_br f_cu f_lc f_ac) = f_br := rfl
theorem C_cu_mk (f_me : Int32) (f_ra : Int32) (f_co : Int64) (f_al : Int64) (f_re : Int64) (f_lo : Int64) (f_rs : Int64) (f_li : Int32) (f_he : Int32) (f_go : Int32) (f_br : Int32) (f_cu : Int64) (f_lc : Int64) (f_ac : Int64) : C_cu (C_mk f_me f_ra f_co f_al f_re f_lo f_rs f_li f_he f_go f_br f_cu f_lc f_ac) = f_cu := rfl
theorem C_lc_mk (f_me : Int32) (f_ra : Int32) (f_co : Int64) (f_al : Int64) (f_re : Int64) (f_lo : Int64) (f_rs : Int64) (f_li : Int32) (f_he : Int32) (f_go : Int32) (f_br : Int32) (f_cu : Int64) (f_lc : Int64) (f_ac : Int64) : C_lc (C_mk f_me f_ra f_co f_al f_re f_lo f_rs f_li f_he f_go f_br f_cu f_lc f_ac) = f_lc := rfl
theorem C_ac_mk (f_me : Int32) (f_ra : Int32) (f_co : Int64) (f_al : Int64) (f_re : Int64) (f_lo : Int64) (f_rs : Int64) (f_li : Int32) (f_he : Int32) (f_go : Int32) (f_br : Int32) (f_cu : Int64) (f_lc : Int64) (f_ac : Int64) : C_ac (C_mk f_me f_ra f_co f_al f_re f_lo f_rs f_li f_he f_go f_br f_cu f_lc f_ac) = f_ac := rfl
abbrev kC (b : Nat) (f_me : Int32) (f_ra : Int32) (f_co : Int64) (f_al : Int64) (f_re : Int64) (f_lo : Int64) (f_rs : Int64) (f_li : Int32) (f_he : Int32) (f_go : Int32) (f_br : Int32) (f_cu : Int64) (f_lc : Int64) (f_ac : Int64) : va_E := .inr (0, [.ref b, .int f_me, .int f_ra, .long f_co, .long f_al, .long f_re, .long f_lo, .long f_rs, .int f_li, .int f_he, .int f_go, .int f_br, .long f_cu, .long f_lc, .long f_ac])
abbrev cC (b : Nat) (c : CR) : va_E := kC b (C_me c) (C_ra c) (C_co c) (C_al c) (C_re c) (C_lo c) (C_rs c) (C_li c) (C_he c) (C_go c) (C_br c) (C_cu c) (C_lc c) (C_ac c)
abbrev SR : Type := Int64 × Int64 × Int64 × Int64 × Int64 × Int64
def S_ba (c : SR) : Int64 := c.1
def S_le (c : SR) : Int64 := c.2.1
def S_ul (c : SR) : Int64 := c.2.2.1
def S_mo (c : SR) : Int64 := c.2.2.2.1
def S_un (c : SR) : Int64 := c.2.2.2.2.1
def S_ch (c : SR) : Int64 := c.2.2.2.2.2
def S_mk (f_ba : Int64) (f_le : Int64) (f_ul : Int64) (f_mo : Int64) (f_un : Int64) (f_ch : Int64) : SR := (f_ba, f_le, f_ul, f_mo, f_un, f_ch)
theorem S_ba_mk (f_ba : Int64) (f_le : Int64) (f_ul : Int64) (f_mo : Int64) (f_un : Int64) (f_ch : Int64) : S_ba (S_mk f_ba f_le f_ul f_mo f_un f_ch) = f_ba := rfl
theorem S_le_mk (f_ba : Int64) (f_le : Int64) (f_ul : Int64) (f_mo : Int64) (f_un : Int64) (f_ch : Int64) : S_le (S_mk f_ba f_le f_ul f_mo f_un f_ch) = f_le := rfl
theorem S_ul_mk (f_ba : Int64) (f_le : Int64) (f_ul : Int64) (f_mo : Int64) (f_un : Int64) (f_ch : Int64) : S_ul (S_mk f_ba f_le f_ul f_mo f_un f_ch) = f_ul := rfl
theorem S_mo_mk (f_ba : Int64) (f_le : Int64) (f_ul : Int64) (f_mo : Int64) (f_un : Int64) (f_ch : Int64) : S_mo (S_mk f_ba f_le f_ul f_mo f_un f_ch) = f_mo := rfl
theorem S_un_mk (f_ba : Int64) (f_le : Int64) (f_ul : Int64) (f_mo : Int64) (f_un : Int64) (f_ch : Int64) : S_un (S_mk f_ba f_le f_ul f_mo f_un f_ch) = f_un := rfl
theorem S_ch_mk (f_ba : Int64) (f_le : Int64) (f_ul : Int64) (f_mo : Int64) (f_un : Int64) (f_ch : Int64) : S_ch (S_mk f_ba f_le f_ul f_mo f_un f_ch) = f_ch := rfl
abbrev kS (f_ba : Int64) (f_le : Int64) (f_ul : Int64) (f_mo : Int64) (f_un : Int64) (f_ch : Int64) : va_E := .inr (3, [.long f_ba, .long f_le, .long f_ul, .long f_mo, .long f_un, .long f_ch])
abbrev cS (c : SR) : va_E := kS (S_ba c) (S_le c) (S_ul c) (S_mo c) (S_un c) (S_ch c)
abbrev ER : Type := Int32 × Int32 × Int32 × Int64 × Int32
def E_pn (c : ER) : Int32 := c.1
def E_mo (c : ER) : Int32 := c.2.1
def E_ki (c : ER) : Int32 := c.2.2.1
def E_am (c : ER) : Int64 := c.2.2.2.1
def E_nu (c : ER) : Int32 := c.2.2.2.2
def E_mk (f_pn : Int32) (f_mo : Int32) (f_ki : Int32) (f_am : Int64) (f_nu : Int32) : ER := (f_pn, f_mo, f_ki, f_am, f_nu)
theorem E_pn_mk (f_pn : Int32) (f_mo : Int32) (f_ki : Int32) (f_am : Int64) (f_nu : Int32) : E_pn (E_mk f_pn f_mo f_ki f_am f_nu) = f_pn := rfl
theorem E_mo_mk (f_pn : Int32) (f_mo : Int32) (f_ki : Int32) (f_am : Int64) (f_nu : Int32) : E_mo (E_mk f_pn f_mo f_ki f_am f_nu) = f_mo := rfl
theorem E_ki_mk (f_pn : Int32) (f_mo : Int32) (f_ki : Int32) (f_am : Int64) (f_nu : Int32) : E_ki (E_mk f_pn f_mo f_ki f_am f_nu) = f_ki := rfl
theorem E_am_mk (f_pn : Int32) (f_mo : Int32) (f_ki : Int32) (f_am : Int64) (f_nu : Int32) : E_am (E_mk f_pn f_mo f_ki f_am f_nu) = f_am := rfl
theorem E_nu_mk (f_pn : Int32) (f_mo : Int32) (f_ki : Int32) (f_am : Int64) (f_nu : Int32) : E_nu (E_mk f_pn f_mo f_ki f_am f_nu) = f_nu := rfl
abbrev kE (f_pn : Int32) (f_mo : Int32) (f_ki : Int32) (f_am : Int64) (f_nu : Int32) : va_E := .inr (1, [.int f_pn, .int f_mo, .int f_ki, .long f_am, .int f_nu])
abbrev cE (c : ER) : va_E := kE (E_pn c) (E_mo c) (E_ki c) (E_am c) (E_nu c)
abbrev PR : Type := Int64 × Int64 × Int32 × Int32 × Int32 × Int32 × Int32 × Int64
def P_co (c : PR) : Int64 := c.1
def P_rs (c : PR) : Int64 := c.2.1
def P_fi (c : PR) : Int32 := c.2.2.1
def P_li (c : PR) : Int32 := c.2.2.2.1
def P_me (c : PR) : Int32 := c.2.2.2.2.1
def P_ra (c : PR) : Int32 := c.2.2.2.2.2.1
def P_ec (c : PR) : Int32 := c.2.2.2.2.2.2.1
def P_pa (c : PR) : Int64 := c.2.2.2.2.2.2.2
def P_mk (f_co : Int64) (f_rs : Int64) (f_fi : Int32) (f_li : Int32) (f_me : Int32) (f_ra : Int32) (f_ec : Int32) (f_pa : Int64) : PR := (f_co, f_rs, f_fi, f_li, f_me, f_ra, f_ec, f_pa)
theorem P_co_mk (f_co : Int64) (f_rs : Int64) (f_fi : Int32) (f_li : Int32) (f_me : Int32) (f_ra : Int32) (f_ec : Int32) (f_pa : Int64) : P_co (P_mk f_co f_rs f_fi f_li f_me f_ra f_ec f_pa) = f_co := rfl
theorem P_rs_mk (f_co : Int64) (f_rs : Int64) (f_fi : Int32) (f_li : Int32) (f_me : Int32) (f_ra : Int32) (f_ec : Int32) (f_pa : Int64) : P_rs (P_mk f_co f_rs f_fi f_li f_me f_ra f_ec f_pa) = f_rs := rfl
theorem P_fi_mk (f_co : Int64) (f_rs : Int64) (f_fi : Int32) (f_li : Int32) (f_me : Int32) (f_ra : Int32) (f_ec : Int32) (f_pa : Int64) : P_fi (P_mk f_co f_rs f_fi f_li f_me f_ra f_ec f_pa) = f_fi := rfl
theorem P_li_mk (f_co : Int64) (f_rs : Int64) (f_fi : Int32) (f_li : Int32) (f_me : Int32) (f_ra : Int32) (f_ec : Int32) (f_pa : Int64) : P_li (P_mk f_co f_rs f_fi f_li f_me f_ra f_ec f_pa) = f_li := rfl
theorem P_me_mk (f_co : Int64) (f_rs : Int64) (f_fi : Int32) (f_li : Int32) (f_me : Int32) (f_ra : Int32) (f_ec : Int32) (f_pa : Int64) : P_me (P_mk f_co f_rs f_fi f_li f_me f_ra f_ec f_pa) = f_me := rfl
theorem P_ra_mk (f_co : Int64) (f_rs : Int64) (f_fi : Int32) (f_li : Int32) (f_me : Int32) (f_ra : Int32) (f_ec : Int32) (f_pa : Int64) : P_ra (P_mk f_co f_rs f_fi f_li f_me f_ra f_ec f_pa) = f_ra := rfl
theorem P_ec_mk (f_co : Int64) (f_rs : Int64) (f_fi : Int32) (f_li : Int32) (f_me : Int32) (f_ra : Int32) (f_ec : Int32) (f_pa : Int64) : P_ec (P_mk f_co f_rs f_fi f_li f_me f_ra f_ec f_pa) = f_ec := rfl
theorem P_pa_mk (f_co : Int64) (f_rs : Int64) (f_fi : Int32) (f_li : Int32) (f_me : Int32) (f_ra : Int32) (f_ec : Int32) (f_pa : Int64) : P_pa (P_mk f_co f_rs f_fi f_li f_me f_ra f_ec f_pa) = f_pa := rfl
abbrev kP (u w q : Nat) (f_co : Int64) (f_rs : Int64) (f_fi : Int32) (f_li : Int32) (f_me : Int32) (f_ra : Int32) (f_ec : Int32) (f_pa : Int64) : va_E := .inr (2, [.long f_co, .long f_rs, .int f_fi, .int f_li, .int f_me, .int f_ra, .ref u, .ref w, .ref q, .int f_ec, .long f_pa])
abbrev cP (u w q : Nat) (c : PR) : va_E := kP u w q (P_co c) (P_rs c) (P_fi c) (P_li c) (P_me c) (P_ra c) (P_ec c) (P_pa c)
abbrev AR : Type := Int32 × Int32 × Int32
def A_pc (c : AR) : Int32 := c.1
def A_ec (c : AR) : Int32 := c.2.1
def A_mc (c : AR) : Int32 := c.2.2
def A_mk (f_pc : Int32) (f_ec : Int32) (f_mc : Int32) : AR := (f_pc, f_ec, f_mc)
theorem A_pc_mk (f_pc : Int32) (f_ec : Int32) (f_mc : Int32) : A_pc (A_mk f_pc f_ec f_mc) = f_pc := rfl
theorem A_ec_mk (f_pc : Int32) (f_ec : Int32) (f_mc : Int32) : A_ec (A_mk f_pc f_ec f_mc) = f_ec := rfl
theorem A_mc_mk (f_pc : Int32) (f_ec : Int32) (f_mc : Int32) : A_mc (A_mk f_pc f_ec f_mc) = f_mc := rfl
abbrev kA (rf : Nat → Nat) (f_pc : Int32) (f_ec : Int32) (f_mc : Int32) : va_E := .inr (4, [.ref (rf 0), .ref (rf 1), .ref (rf 2), .ref (rf 3), .int f_pc, .int f_ec, .int f_mc])
abbrev cA (rf : Nat → Nat) (c : AR) : va_E := kA rf (A_pc c) (A_ec c) (A_mc c)
abbrev MR : Type := Int32 × Int32 × Int32 × Int32 × Int64 × Int64 × Int64 × Int64 × Int64 × Int32 × Int32 × Int32 × Int32 × Int64 × Int32 × Int32 × Int32 × Int32 × Int64 × Int64 × Int64 × Int32
def M_cd (c : MR) : Int32 := c.1
def M_pt (c : MR) : Int32 := c.2.1
def M_mn (c : MR) : Int32 := c.2.2.1
def M_ev (c : MR) : Int32 := c.2.2.2.1
def M_co (c : MR) : Int64 := c.2.2.2.2.1
def M_al (c : MR) : Int64 := c.2.2.2.2.2.1
def M_re (c : MR) : Int64 := c.2.2.2.2.2.2.1
def M_lo (c : MR) : Int64 := c.2.2.2.2.2.2.2.1
def M_rs (c : MR) : Int64 := c.2.2.2.2.2.2.2.2.1
def M_li (c : MR) : Int32 := c.2.2.2.2.2.2.2.2.2.1
def M_he (c : MR) : Int32 := c.2.2.2.2.2.2.2.2.2.2.1
def M_go (c : MR) : Int32 := c.2.2.2.2.2.2.2.2.2.2.2.1
def M_sp (c : MR) : Int32 := c.2.2.2.2.2.2.2.2.2.2.2.2.1
def M_ba (c : MR) : Int64 := c.2.2.2.2.2.2.2.2.2.2.2.2.2.1
def M_le (c : MR) : Int32 := c.2.2.2.2.2.2.2.2.2.2.2.2.2.2.1
def M_lf (c : MR) : Int32 := c.2.2.2.2.2.2.2.2.2.2.2.2.2.2.2.1
def M_mo (c : MR) : Int32 := c.2.2.2.2.2.2.2.2.2.2.2.2.2.2.2.2.1
def M_un (c : MR) : Int32 := c.2.2.2.2.2.2.2.2.2.2.2.2.2.2.2.2.2.1
def M_ch (c : MR) : Int64 := c.2.2.2.2.2.2.2.2.2.2.2.2.2.2.2.2.2.2.1
def M_lc (c : MR) : Int64 := c.2.2.2.2.2.2.2.2.2.2.2.2.2.2.2.2.2.2.2.1
def M_ac (c : MR) : Int64 := c.2.2.2.2.2.2.2.2.2.2.2.2.2.2.2.2.2.2.2.2.1
def M_bd (c : MR) : Int32 := c.2.2.2.2.2.2.2.2.2.2.2.2.2.2.2.2.2.2.2.2.2
def M_mk (f_cd : Int32) (f_pt : Int32) (f_mn : Int32) (f_ev : Int32) (f_co : Int64) (f_al : Int64) (f_re : Int64) (f_lo : Int64) (f_rs : Int64) (f_li : Int32) (f_he : Int32) (f_go : Int32) (f_sp : Int32) (f_ba : Int64) (f_le : Int32) (f_lf : Int32) (f_mo : Int32) (f_un : Int32) (f_ch : Int64) (f_lc : Int64) (f_ac : Int64) (f_bd : Int32) : MR := (f_cd, f_pt, f_mn, f_ev, f_co, f_al, f_re, f_lo, f_rs, f_li, f_he, f_go, f_sp, f_ba, f_le, f_lf, f_mo, f_un, f_ch, f_lc, f_ac, f_bd)
theorem M_cd_mk (f_cd : Int32) (f_pt : Int32) (f_mn : Int32) (f_ev : Int32) (f_co : Int64) (f_al : Int64) (f_re : Int64) (f_lo : Int64) (f_rs : Int64) (f_li : Int32) (f_he : Int32) (f_go : Int32) (f_sp : Int32) (f_ba : Int64) (f_le : Int32) (f_lf : Int32) (f_mo : Int32) (f_un : Int32) (f_ch : Int64) (f_lc : Int64) (f_ac : Int64) (f_bd : Int32) : M_cd (M_mk f_cd f_pt f_mn f_ev f_co f_al f_re f_lo f_rs f_li f_he f_go f_sp f_ba f_le f_lf f_mo f_un f_ch f_lc f_ac f_bd) = f_cd := rfl
theorem M_pt_mk (f_cd : Int32) (f_pt : Int32) (f_mn : Int32) (f_ev : Int32) (f_co : Int64) (f_al : Int64) (f_re : Int64) (f_lo : Int64) (f_rs : Int64) (f_li : Int32) (f_he : Int32) (f_go : Int32) (f_sp : Int32) (f_ba : Int64) (f_le : Int32) (f_lf : Int32) (f_mo : Int32) (f_un : Int32) (f_ch : Int64) (f_lc : Int64) (f_ac : Int64) (f_bd : Int32) : M_pt (M_mk f_cd f_pt f_mn f_ev f_co f_al f_re f_lo f_rs f_li f_he f_go f_sp f_ba f_le f_lf f_mo f_un f_ch f_lc f_ac f_bd) = f_pt := rfl
theorem M_mn_mk (f_cd : Int32) (f_pt : Int32) (f_mn : Int32) (f_ev : Int32) (f_co : Int64) (f_al : Int64) (f_re : Int64) (f_lo : Int64) (f_rs : Int64) (f_li : Int32) (f_he : Int32) (f_go : Int32) (f_sp : Int32) (f_ba : Int64) (f_le : Int32) (f_lf : Int32) (f_mo : Int32) (f_un : Int32) (f_ch : Int64) (f_lc : Int64) (f_ac : Int64) (f_bd : Int32) : M_mn (M_mk f_cd f_pt f_mn f_ev f_co f_al f_re f_lo f_rs f_li f_he f_go f_sp f_ba f_le f_lf f_mo f_un f_ch f_lc f_ac f_bd) = f_mn := rfl
theorem M_ev_mk (f_cd : Int32) (f_pt : Int32) (f_mn : Int32) (f_ev : Int32) (f_co : Int64) (f_al : Int64) (f_re : Int64) (f_lo : Int64) (f_rs : Int64) (f_li : Int32) (f_he : Int32) (f_go : Int32) (f_sp : Int32) (f_ba : Int64) (f_le : Int32) (f_lf : Int32) (f_mo : Int32) (f_un : Int32) (f_ch : Int64) (f_lc : Int64) (f_ac : Int64) (f_bd : Int32) : M_ev (M_mk f_cd f_pt f_mn f_ev f_co f_al f_re f_lo f_rs f_li f_he f_go f_sp f_ba f_le f_lf f_mo f_un f_ch f_lc f_ac f_bd) = f_ev := rfl
theorem M_co_mk (f_cd : Int32) (f_pt : Int32) (f_mn : Int32) (f_ev : Int32) (f_co : Int64) (f_al : Int64) (f_re : Int64) (f_lo : Int64) (f_rs : Int64) (f_li : Int32) (f_he : Int32) (f_go : Int32) (f_sp : Int32) (f_ba : Int64) (f_le : Int32) (f_lf : Int32) (f_mo : Int32) (f_un : Int32) (f_ch : Int64) (f_lc : Int64) (f_ac : Int64) (f_bd : Int32) : M_co (M_mk f_cd f_pt f_mn f_ev f_co f_al f_re f_lo f_rs f_li f_he f_go f_sp f_ba f_le f_lf f_mo f_un f_ch f_lc f_ac f_bd) = f_co := rfl
theorem M_al_mk (f_cd : Int32) (f_pt : Int32) (f_mn : Int32) (f_ev : Int32) (f_co : Int64) (f_al : Int64) (f_re : Int64) (f_lo : Int64) (f_rs : Int64) (f_li : Int32) (f_he : Int32) (f_go : Int32) (f_sp : Int32) (f_ba : Int64) (f_le : Int32) (f_lf : Int32) (f_mo : Int32) (f_un : Int32) (f_ch : Int64) (f_lc : Int64) (f_ac : Int64) (f_bd : Int32) : M_al (M_mk f_cd f_pt f_mn f_ev f_co f_al f_re f_lo f_rs f_li f_he f_go f_sp f_ba f_le f_lf f_mo f_un f_ch f_lc f_ac f_bd) = f_al := rfl
theorem M_re_mk (f_cd : Int32) (f_pt : Int32) (f_mn : Int32) (f_ev : Int32) (f_co : Int64) (f_al : Int64) (f_re : Int64) (f_lo : Int64) (f_rs : Int64) (f_li : Int32) (f_he : Int32) (f_go : Int32) (f_sp : Int32) (f_ba : Int64) (f_le : Int32) (f_lf : Int32) (f_mo : Int32) (f_un : Int32) (f_ch : Int64) (f_lc : Int64) (f_ac : Int64) (f_bd : Int32) : M_re (M_mk f_cd f_pt f_mn f_ev f_co f_al f_re f_lo f_rs f_li f_he f_go f_sp f_ba f_le f_lf f_mo f_un f_ch f_lc f_ac f_bd) = f_re := rfl
theorem M_lo_mk (f_cd : Int32) (f_pt : Int32) (f_mn : Int32) (f_ev : Int32) (f_co : Int64) (f_al : Int64) (f_re : Int64) (f_lo : Int64) (f_rs : Int64) (f_li : Int32) (f_he : Int32) (f_go : Int32) (f_sp : Int32) (f_ba : Int64) (f_le : Int32) (f_lf : Int32) (f_mo : Int32) (f_un : Int32) (f_ch : Int64) (f_lc : Int64) (f_ac : Int64) (f_bd : Int32) : M_lo (M_mk f_cd f_pt f_mn f_ev f_co f_al f_re f_lo f_rs f_li f_he f_go f_sp f_ba f_le f_lf f_mo f_un f_ch f_lc f_ac f_bd) = f_lo := rfl
theorem M_rs_mk (f_cd : Int32) (f_pt : Int32) (f_mn : Int32) (f_ev : Int32) (f_co : Int64) (f_al : Int64) (f_re : Int64) (f_lo : Int64) (f_rs : Int64) (f_li : Int32) (f_he : Int32) (f_go : Int32) (f_sp : Int32) (f_ba : Int64) (f_le : Int32) (f_lf : Int32) (f_mo : Int32) (f_un : Int32) (f_ch : Int64) (f_lc : Int64) (f_ac : Int64) (f_bd : Int32) : M_rs (M_mk f_cd f_pt f_mn f_ev f_co f_al f_re f_lo f_rs f_li f_he f_go f_sp f_ba f_le f_lf f_mo f_un f_ch f_lc f_ac f_bd) = f_rs := rfl
theorem M_li_mk (f_cd : Int32) (f_pt : Int32) (f_mn : Int32) (f_ev : Int32) (f_co : Int64) (f_al : Int64) (f_re : Int64) (f_lo : Int64) (f_rs : Int64) (f_li : Int32) (f_he : Int32) (f_go : Int32) (f_sp : Int32) (f_ba : Int64) (f_le : Int32) (f_lf : Int32) (f_mo : Int32) (f_un : Int32) (f_ch : Int64) (f_lc : Int64) (f_ac : Int64) (f_bd : Int32) : M_li (M_mk f_cd f_pt f_mn f_ev f_co f_al f_re f_lo f_rs f_li f_he f_go f_sp f_ba f_le f_lf f_mo f_un f_ch f_lc f_ac f_bd) = f_li := rfl
theorem M_he_mk (f_cd : Int32) (f_pt : Int32) (f_mn : Int32) (f_ev : Int32) (f_co : Int64) (f_al : Int64) (f_re : Int64) (f_lo : Int64) (f_rs : Int64) (f_li : Int32) (f_he : Int32) (f_go : Int32) (f_sp : Int32) (f_ba : Int64) (f_le : Int32) (f_lf : Int32) (f_mo : Int32) (f_un : Int32) (f_ch : Int64) (f_lc : Int64) (f_ac : Int64) (f_bd : Int32) : M_he (M_mk f_cd f_pt f_mn f_ev f_co f_al f_re f_lo f_rs f_li f_he f_go f_sp f_ba f_le f_lf f_mo f_un f_ch f_lc f_ac f_bd) = f_he := rfl
theorem M_go_mk (f_cd : Int32) (f_pt : Int32) (f_mn : Int32) (f_ev : Int32) (f_co : Int64) (f_al : Int64) (f_re : Int64) (f_lo : Int64) (f_rs : Int64) (f_li : Int32) (f_he : Int32) (f_go : Int32) (f_sp : Int32) (f_ba : Int64) (f_le : Int32) (f_lf : Int32) (f_mo : Int32) (f_un : Int32) (f_ch : Int64) (f_lc : Int64) (f_ac : Int64) (f_bd : Int32) : M_go (M_mk f_cd f_pt f_mn f_ev f_co f_al f_re f_lo f_rs f_li f_he f_go f_sp f_ba f_le f_lf f_mo f_un f_ch f_lc f_ac f_bd) = f_go := rfl
theorem M_sp_mk (f_cd : Int32) (f_pt : Int32) (f_mn : Int32) (f_ev : Int32) (f_co : Int64) (f_al : Int64) (f_re : Int64) (f_lo : Int64) (f_rs : Int64) (f_li : Int32) (f_he : Int32) (f_go : Int32) (f_sp : Int32) (f_ba : Int64) (f_le : Int32) (f_lf : Int32) (f_mo : Int32) (f_un : Int32) (f_ch : Int64) (f_lc : Int64) (f_ac : Int64) (f_bd : Int32) : M_sp (M_mk f_cd f_pt f_mn f_ev f_co f_al f_re f_lo f_rs f_li f_he f_go f_sp f_ba f_le f_lf f_mo f_un f_ch f_lc f_ac f_bd) = f_sp := rfl
theorem M_ba_mk (f_cd : Int32) (f_pt : Int32) (f_mn : Int32) (f_ev : Int32) (f_co : Int64) (f_al : Int64) (f_re : Int64) (f_lo : Int64) (f_rs : Int64) (f_li : Int32) (f_he : Int32) (f_go : Int32) (f_sp : Int32) (f_ba : Int64) (f_le : Int32) (f_lf : Int32) (f_mo : Int32) (f_un : Int32) (f_ch : Int64) (f_lc : Int64) (f_ac : Int64) (f_bd : Int32) : M_ba (M_mk f_cd f_pt f_mn f_ev f_co f_al f_re f_lo f_rs f_li f_he f_go f_sp f_ba f_le f_lf f_mo f_un f_ch f_lc f_ac f_bd) = f_ba := rfl
theorem M_le_mk (f_cd : Int32) (f_pt : Int32) (f_mn : Int32) (f_ev : Int32) (f_co : Int64) (f_al : Int64) (f_re : Int64) (f_lo : Int64) (f_rs : Int64) (f_li : Int32) (f_he : Int32) (f_go : Int32) (f_sp : Int32) (f_ba : Int64) (f_le : Int32) (f_lf : Int32) (f_mo : Int32) (f_un : Int32) (f_ch : Int64) (f_lc : Int64) (f_ac : Int64) (f_bd : Int32) : M_le (M_mk f_cd f_pt f_mn f_ev f_co f_al f_re f_lo f_rs f_li f_he f_go f_sp f_ba f_le f_lf f_mo f_un f_ch f_lc f_ac f_bd) = f_le := rfl
theorem M_lf_mk (f_cd : Int32) (f_pt : Int32) (f_mn : Int32) (f_ev : Int32) (f_co : Int64) (f_al : Int64) (f_re : Int64) (f_lo : Int64) (f_rs : Int64) (f_li : Int32) (f_he : Int32) (f_go : Int32) (f_sp : Int32) (f_ba : Int64) (f_le : Int32) (f_lf : Int32) (f_mo : Int32) (f_un : Int32) (f_ch : Int64) (f_lc : Int64) (f_ac : Int64) (f_bd : Int32) : M_lf (M_mk f_cd f_pt f_mn f_ev f_co f_al f_re f_lo f_rs f_li f_he f_go f_sp f_ba f_le f_lf f_mo f_un f_ch f_lc f_ac f_bd) = f_lf := rfl
theorem M_mo_mk (f_cd : Int32) (f_pt : Int32) (f_mn : Int32) (f_ev : Int32) (f_co : Int64) (f_al : Int64) (f_re : Int64) (f_lo : Int64) (f_rs : Int64) (f_li : Int32) (f_he : Int32) (f_go : Int32) (f_sp : Int32) (f_ba : Int64) (f_le : Int32) (f_lf : Int32) (f_mo : Int32) (f_un : Int32) (f_ch : Int64) (f_lc : Int64) (f_ac : Int64) (f_bd : Int32) : M_mo (M_mk f_cd f_pt f_mn f_ev f_co f_al f_re f_lo f_rs f_li f_he f_go f_sp f_ba f_le f_lf f_mo f_un f_ch f_lc f_ac f_bd) = f_mo := rfl
theorem M_un_mk (f_cd : Int32) (f_pt : Int32) (f_mn : Int32) (f_ev : Int32) (f_co : Int64) (f_al : Int64) (f_re : Int64) (f_lo : Int64) (f_rs : Int64) (f_li : Int32) (f_he : Int32) (f_go : Int32) (f_sp : Int32) (f_ba : Int64) (f_le : Int32) (f_lf : Int32) (f_mo : Int32) (f_un : Int32) (f_ch : Int64) (f_lc : Int64) (f_ac : Int64) (f_bd : Int32) : M_un (M_mk f_cd f_pt f_mn f_ev f_co f_al f_re f_lo f_rs f_li f_he f_go f_sp f_ba f_le f_lf f_mo f_un f_ch f_lc f_ac f_bd) = f_un := rfl
theorem M_ch_mk (f_cd : Int32) (f_pt : Int32) (f_mn : Int32) (f_ev : Int32) (f_co : Int64) (f_al : Int64) (f_re : Int64) (f_lo : Int64) (f_rs : Int64) (f_li : Int32) (f_he : Int32) (f_go : Int32) (f_sp : Int32) (f_ba : Int64) (f_le : Int32) (f_lf : Int32) (f_mo : Int32) (f_un : Int32) (f_ch : Int64) (f_lc : Int64) (f_ac : Int64) (f_bd : Int32) : M_ch (M_mk f_cd f_pt f_mn f_ev f_co f_al f_re f_lo f_rs f_li f_he f_go f_sp f_ba f_le f_lf f_mo f_un f_ch f_lc f_ac f_bd) = f_ch := rfl
theorem M_lc_mk (f_cd : Int32) (f_pt : Int32) (f_mn : Int32) (f_ev : Int32) (f_co : Int64) (f_al : Int64) (f_re : Int64) (f_lo : Int64) (f_rs : Int64) (f_li : Int32) (f_he : Int32) (f_go : Int32) (f_sp : Int32) (f_ba : Int64) (f_le : Int32) (f_lf : Int32) (f_mo : Int32) (f_un : Int32) (f_ch : Int64) (f_lc : Int64) (f_ac : Int64) (f_bd : Int32) : M_lc (M_mk f_cd f_pt f_mn f_ev f_co f_al f_re f_lo f_rs f_li f_he f_go f_sp f_ba f_le f_lf f_mo f_un f_ch f_lc f_ac f_bd) = f_lc := rfl
theorem M_ac_mk (f_cd : Int32) (f_pt : Int32) (f_mn : Int32) (f_ev : Int32) (f_co : Int64) (f_al : Int64) (f_re : Int64) (f_lo : Int64) (f_rs : Int64) (f_li : Int32) (f_he : Int32) (f_go : Int32) (f_sp : Int32) (f_ba : Int64) (f_le : Int32) (f_lf : Int32) (f_mo : Int32) (f_un : Int32) (f_ch : Int64) (f_lc : Int64) (f_ac : Int64) (f_bd : Int32) : M_ac (M_mk f_cd f_pt f_mn f_ev f_co f_al f_re f_lo f_rs f_li f_he f_go f_sp f_ba f_le f_lf f_mo f_un f_ch f_lc f_ac f_bd) = f_ac := rfl
theorem M_bd_mk (f_cd : Int32) (f_pt : Int32) (f_mn : Int32) (f_ev : Int32) (f_co : Int64) (f_al : Int64) (f_re : Int64) (f_lo : Int64) (f_rs : Int64) (f_li : Int32) (f_he : Int32) (f_go : Int32) (f_sp : Int32) (f_ba : Int64) (f_le : Int32) (f_lf : Int32) (f_mo : Int32) (f_un : Int32) (f_ch : Int64) (f_lc : Int64) (f_ac : Int64) (f_bd : Int32) : M_bd (M_mk f_cd f_pt f_mn f_ev f_co f_al f_re f_lo f_rs f_li f_he f_go f_sp f_ba f_le f_lf f_mo f_un f_ch f_lc f_ac f_bd) = f_bd := rfl
abbrev kM (rf : Nat → Nat) (f_cd : Int32) (f_pt : Int32) (f_mn : Int32) (f_ev : Int32) (f_co : Int64) (f_al : Int64) (f_re : Int64) (f_lo : Int64) (f_rs : Int64) (f_li : Int32) (f_he : Int32) (f_go : Int32) (f_sp : Int32) (f_ba : Int64) (f_le : Int32) (f_lf : Int32) (f_mo : Int32) (f_un : Int32) (f_ch : Int64) (f_lc : Int64) (f_ac : Int64) (f_bd : Int32) : va_E := .inr (5, [.int f_cd, .int f_pt, .ref (rf 0), .ref (rf 1), .ref (rf 2), .ref (rf 3), .ref (rf 4), .ref (rf 5), .ref (rf 6), .ref (rf 7), .int f_mn, .int f_ev, .ref (rf 8), .ref (rf 9), .ref (rf 10), .ref (rf 11), .ref (rf 12), .long f_co, .long f_al, .long f_re, .long f_lo, .long f_rs, .int f_li, .int f_he, .int f_go, .int f_sp, .long f_ba, .int f_le, .int f_lf, .int f_mo, .int f_un, .long f_ch, .long f_lc, .long f_ac, .ref (rf 13), .ref (rf 14), .int f_bd])
abbrev cM (rf : Nat → Nat) (c : MR) : va_E := kM rf (M_cd c) (M_pt c) (M_mn c) (M_ev c) (M_co c) (M_al c) (M_re c) (M_lo c) (M_rs c) (M_li c) (M_he c) (M_go c) (M_sp c) (M_ba c) (M_le c) (M_lf c) (M_mo c) (M_un c) (M_ch c) (M_lc c) (M_ac c) (M_bd c)
abbrev TR : Type := (Nat → Int64) × (Nat → Int64) × (Nat → Int32) × (Nat → Int32) × (Nat → Int32) × (Nat → Int32) × (Nat → Int32) × (Nat → Int64) × (Nat → Int32) × (Nat → Int32) × (Nat → Int32) × (Nat → Int64) × (Nat → Int32) × (Nat → Int64) × (Nat → Int64)
def T_cs (c : TR) : Nat → Int64 := c.1
def T_rs (c : TR) : Nat → Int64 := c.2.1
def T_fi (c : TR) : Nat → Int32 := c.2.2.1
def T_li (c : TR) : Nat → Int32 := c.2.2.2.1
def T_me (c : TR) : Nat → Int32 := c.2.2.2.2.1
def T_ra (c : TR) : Nat → Int32 := c.2.2.2.2.2.1
def T_us (c : TR) : Nat → Int32 := c.2.2.2.2.2.2.1
def T_po (c : TR) : Nat → Int64 := c.2.2.2.2.2.2.2.1
def T_of (c : TR) : Nat → Int32 := c.2.2.2.2.2.2.2.2.1
def T_wh (c : TR) : Nat → Int32 := c.2.2.2.2.2.2.2.2.2.1
def T_ki (c : TR) : Nat → Int32 := c.2.2.2.2.2.2.2.2.2.2.1
def T_am (c : TR) : Nat → Int64 := c.2.2.2.2.2.2.2.2.2.2.2.1
def T_nu (c : TR) : Nat → Int32 := c.2.2.2.2.2.2.2.2.2.2.2.2.1
def T_bf (c : TR) : Nat → Int64 := c.2.2.2.2.2.2.2.2.2.2.2.2.2.1
def T_bh (c : TR) : Nat → Int64 := c.2.2.2.2.2.2.2.2.2.2.2.2.2.2
def T_s_cs (c : TR) (v : Nat → Int64) : TR := (v, c.2)
def T_s_rs (c : TR) (v : Nat → Int64) : TR := (c.1, v, c.2.2)
def T_s_fi (c : TR) (v : Nat → Int32) : TR := (c.1, c.2.1, v, c.2.2.2)
def T_s_li (c : TR) (v : Nat → Int32) : TR := (c.1, c.2.1, c.2.2.1, v, c.2.2.2.2)
def T_s_me (c : TR) (v : Nat → Int32) : TR := (c.1, c.2.1, c.2.2.1, c.2.2.2.1, v, c.2.2.2.2.2)
def T_s_ra (c : TR) (v : Nat → Int32) : TR := (c.1, c.2.1, c.2.2.1, c.2.2.2.1, c.2.2.2.2.1, v, c.2.2.2.2.2.2)
def T_s_us (c : TR) (v : Nat → Int32) : TR := (c.1, c.2.1, c.2.2.1, c.2.2.2.1, c.2.2.2.2.1, c.2.2.2.2.2.1, v, c.2.2.2.2.2.2.2)
def T_s_po (c : TR) (v : Nat → Int64) : TR := (c.1, c.2.1, c.2.2.1, c.2.2.2.1, c.2.2.2.2.1, c.2.2.2.2.2.1, c.2.2.2.2.2.2.1, v, c.2.2.2.2.2.2.2.2)
def T_s_of (c : TR) (v : Nat → Int32) : TR := (c.1, c.2.1, c.2.2.1, c.2.2.2.1, c.2.2.2.2.1, c.2.2.2.2.2.1, c.2.2.2.2.2.2.1, c.2.2.2.2.2.2.2.1, v, c.2.2.2.2.2.2.2.2.2)
def T_s_wh (c : TR) (v : Nat → Int32) : TR := (c.1, c.2.1, c.2.2.1, c.2.2.2.1, c.2.2.2.2.1, c.2.2.2.2.2.1, c.2.2.2.2.2.2.1, c.2.2.2.2.2.2.2.1, c.2.2.2.2.2.2.2.2.1, v, c.2.2.2.2.2.2.2.2.2.2)
def T_s_ki (c : TR) (v : Nat → Int32) : TR := (c.1, c.2.1, c.2.2.1, c.2.2.2.1, c.2.2.2.2.1, c.2.2.2.2.2.1, c.2.2.2.2.2.2.1, c.2.2.2.2.2.2.2.1, c.2.2.2.2.2.2.2.2.1, c.2.2.2.2.2.2.2.2.2.1, v, c.2.2.2.2.2.2.2.2.2.2.2)
def T_s_am (c : TR) (v : Nat → Int64) : TR := (c.1, c.2.1, c.2.2.1, c.2.2.2.1, c.2.2.2.2.1, c.2.2.2.2.2.1, c.2.2.2.2.2.2.1, c.2.2.2.2.2.2.2.1, c.2.2.2.2.2.2.2.2.1, c.2.2.2.2.2.2.2.2.2.1, c.2.2.2.2.2.2.2.2.2.2.1, v, c.2.2.2.2.2.2.2.2.2.2.2.2)
def T_s_nu (c : TR) (v : Nat → Int32) : TR := (c.1, c.2.1, c.2.2.1, c.2.2.2.1, c.2.2.2.2.1, c.2.2.2.2.2.1, c.2.2.2.2.2.2.1, c.2.2.2.2.2.2.2.1, c.2.2.2.2.2.2.2.2.1, c.2.2.2.2.2.2.2.2.2.1, c.2.2.2.2.2.2.2.2.2.2.1, c.2.2.2.2.2.2.2.2.2.2.2.1, v, c.2.2.2.2.2.2.2.2.2.2.2.2.2)
def T_s_bf (c : TR) (v : Nat → Int64) : TR := (c.1, c.2.1, c.2.2.1, c.2.2.2.1, c.2.2.2.2.1, c.2.2.2.2.2.1, c.2.2.2.2.2.2.1, c.2.2.2.2.2.2.2.1, c.2.2.2.2.2.2.2.2.1, c.2.2.2.2.2.2.2.2.2.1, c.2.2.2.2.2.2.2.2.2.2.1, c.2.2.2.2.2.2.2.2.2.2.2.1, c.2.2.2.2.2.2.2.2.2.2.2.2.1, v, c.2.2.2.2.2.2.2.2.2.2.2.2.2.2)
def T_s_bh (c : TR) (v : Nat → Int64) : TR := (c.1, c.2.1, c.2.2.1, c.2.2.2.1, c.2.2.2.2.1, c.2.2.2.2.2.1, c.2.2.2.2.2.2.1, c.2.2.2.2.2.2.2.1, c.2.2.2.2.2.2.2.2.1, c.2.2.2.2.2.2.2.2.2.1, c.2.2.2.2.2.2.2.2.2.2.1, c.2.2.2.2.2.2.2.2.2.2.2.1, c.2.2.2.2.2.2.2.2.2.2.2.2.1, c.2.2.2.2.2.2.2.2.2.2.2.2.2.1, v)
/-- the reference and its rows -/
def mX (G : pw_G) (m : Nat) (rf : Nat → Nat) (c : MR) (T : TR) : va_W := [(m, cM rf c), (rf 0, .inl (G.2.2.1, 6, .inr (.inl (T_cs T)))), (rf 1, .inl (G.2.2.1, 6, .inr (.inl (T_rs T)))), (rf 2, .inl (G.2.1, 6, .inl (T_fi T))), (rf 3, .inl (G.2.1, 6, .inl (T_li T))), (rf 4, .inl (G.2.1, 6, .inl (T_me T))), (rf 5, .inl (G.2.1, 6, .inl (T_ra T))), (rf 6, .inl (G.2.1, 216, .inl (T_us T))), (rf 7, .inl (G.2.2.1, 216, .inr (.inl (T_po T)))), (rf 8, .inl (G.2.1, 40, .inl (T_of T))), (rf 9, .inl (G.2.1, 40, .inl (T_wh T))), (rf 10, .inl (G.2.1, 40, .inl (T_ki T))), (rf 11, .inl (G.2.2.1, 40, .inr (.inl (T_am T)))), (rf 12, .inl (G.2.1, 40, .inl (T_nu T))), (rf 13, .inl (G.2.2.1, 36, .inr (.inl (T_bf T)))), (rf 14, .inl (G.2.2.1, 36, .inr (.inl (T_bh T))))]
/-- the component: itself, its two rows, its two courses with their stretches -/
def aX (G : pw_G) (x : Nat) (rf : Nat → Nat) (ar : AR) (pr er : Nat → Option Nat) (cf : CR) (tf : SR) (cb : CR) (tb : SR) : va_W := [(x, cA rf ar), (rf 0, .inl (G.2.2.2.2, 6, .inr (.inr (.inr (.inr pr))))), (rf 1, .inl (G.2.2.2.1, 40, .inr (.inr (.inr (.inr er))))), (rf 2, cC (rf 4) cf), (rf 4, cS tf), (rf 3, cC (rf 5) cb), (rf 5, cS tb)]
/-- a part in the pool, with its rows; the events that its row names -/
def pA (G : pw_G) (L : List Nat) (F : Nat → va_E) (p u w q : Nat) (pt : PR) (us : Nat → Int32) (es : Nat → Option Nat) (ps : Nat → Int64) (evf : Nat → ER) : Prop := (p ∈ L ∧ F p = cP u w q pt) ∧ (u ∈ L ∧ F u = .inl (G.2.1, 36, .inl us)) ∧ (w ∈ L ∧ F w = .inl (G.2.2.2.1, 36, .inr (.inr (.inr (.inr es))))) ∧ (q ∈ L ∧ F q = .inl (G.2.2.1, 36, .inr (.inl ps))) ∧ ∀ i, i < 36 → ∀ a, es i = some a → a ∈ L ∧ F a = cE (evf a)
def jmin (x y : Int64) : Int64 := if y < x then y else x
def jmax (x y : Int64) : Int64 := if y < x then x else y
theorem zb_n {x : Int32} (h : x = 0 ∨ x = 1) : narrow .boolean (.int x) = .int x := by rcases h with rfl | rfl <;> rfl
theorem zb_f {x : Int32} (h : x = 0 ∨ x = 1) : fits .boolean (.int x) = true := by rcases h with rfl | rfl <;> rfl
theorem sw_ne {x : Int32} (k : Nat) (hk : k < 2 ^ 31) (h : ¬ x = nI k) : ¬ x.toInt = k := fun e => h (Int32.toInt_inj.mp (by rw [e, nI_toInt hk]))
theorem sw_3 {x : Int32} (h0 : ¬ x = 0) (h1 : ¬ x = 1) (h2 : ¬ x = 2) (h3 : ¬ x = 3) : x.toInt < 0 ∨ 3 < x.toInt := by
  have a0 := sw_ne 0 (by decide) h0; have a1 := sw_ne 1 (by decide) h1; have a2 := sw_ne 2 (by decide) h2; have a3 := sw_ne 3 (by decide) h3
  omega
theorem sw_5 {x : Int32} (h0 : ¬ x = 0) (h1 : ¬ x = 1) (h2 : ¬ x = 2) (h3 : ¬ x = 3) (h4 : ¬ x = 4) (h5 : ¬ x = 5) : x.toInt < 0 ∨ 5 < x.toInt := by
  have a0 := sw_ne 0 (by decide) h0; have a1 := sw_ne 1 (by decide) h1; have a2 := sw_ne 2 (by decide) h2; have a3 := sw_ne 3 (by decide) h3; have a4 := sw_ne 4 (by decide) h4; have a5 := sw_ne 5 (by decide) h5
  omega
theorem sw_6 {x : Int32} (h0 : ¬ x = 0) (h1 : ¬ x = 1) (h2 : ¬ x = 2) (h3 : ¬ x = 3) (h4 : ¬ x = 4) (h5 : ¬ x = 5) (h6 : ¬ x = 6) : x.toInt < 0 ∨ 6 < x.toInt := by
  have a0 := sw_ne 0 (by decide) h0; have a1 := sw_ne 1 (by decide) h1; have a2 := sw_ne 2 (by decide) h2; have a3 := sw_ne 3 (by decide) h3; have a4 := sw_ne 4 (by decide) h4; have a5 := sw_ne 5 (by decide) h5; have a6 := sw_ne 6 (by decide) h6
  omega
theorem sw_7 {x : Int32} (h0 : ¬ x = 0) (h1 : ¬ x = 1) (h2 : ¬ x = 2) (h3 : ¬ x = 3) (h4 : ¬ x = 4) (h5 : ¬ x = 5) (h6 : ¬ x = 6) (h7 : ¬ x = 7) : x.toInt < 0 ∨ 7 < x.toInt := by
  have a0 := sw_ne 0 (by decide) h0; have a1 := sw_ne 1 (by decide) h1; have a2 := sw_ne 2 (by decide) h2; have a3 := sw_ne 3 (by decide) h3; have a4 := sw_ne 4 (by decide) h4; have a5 := sw_ne 5 (by decide) h5; have a6 := sw_ne 6 (by decide) h6; have a7 := sw_ne 7 (by decide) h7
  omega
theorem sw_look0_2 {x : Int32} (h0 : ¬ x = 0) (h2 : ¬ x = 2) : Op.lookupswitch.offset [(0, 27), (2, 44)] 80 x.toInt = 80 := by
  have a0 := sw_ne 0 (by decide) h0; have a2 := sw_ne 2 (by decide) h2
  simp [Op.lookupswitch.offset]
  omega
theorem ld_pos {y : Int64} (h : ¬ y ≤ 0) : ¬ ((2) * y) = 0 := by
  intro e
  have h1 : 0 < y.toInt := by
    rw [Int64.le_iff_toInt_le] at h
    have h0 : (0 : Int64).toInt = 0 := rfl
    omega
  have h2 : (2 * y).toInt = 0 := by rw [e]; rfl
  rw [Int64.toInt_mul] at h2
  have h3 := y.toInt_lt
  have h4 : (2 : Int64).toInt = 2 := rfl
  rw [h4] at h2
  rw [Int.bmod_def] at h2
  omega
end
section
def m_X4_rounded (x : Int64) (y : Int64) : Int64 :=
  if y ≤ 0 then 0 else ((((2) * x) + y) / ((2) * y))
set_option maxRecDepth 100000 in
set_option maxHeartbeats 2000000 in
theorem c_X4_rounded (l : Launch) (G : pw_G) (L : List Nat) (F : Nat → va_E)  (x : Int64) (y : Int64) : PM l yX4_rounded wsX4_rounded ⟨0, 0, 0, 0⟩ G [.long x, .long y] [] L F 0 0 (po_d (some (.long (m_X4_rounded x y))) [] L F) := by
  refine pm_entry (by decide) rfl rfl (Nat.le_of_ble_eq_true rfl) ?_
  intro Z Q C hl0 hG0 hnm hE
  subst hl0
  subst hG0
  have w0_ : Cond.constantLong RX4 197 (2) ∈ wsX4_rounded := by decide +kernel
  show PW Z [] L F 0 0 Q 0 [(0, .long x), (2, .long y)] []
  refine pk_lload_n C 1 dX4_rounded_0 rfl rfl (pc2 := 1) rfl ?_
  refine pk_lconst (v := 0) C dX4_rounded_1 (by decide) (pc2 := 2) rfl ?_
  refine pk_lcmp_le (tgt := 22) C dX4_rounded_2 dX4_rounded_3 (pc1 := 3) rfl (by decide) (pc2 := 6) rfl (fun h1_ => ?_) (fun h1_ => ?_)
  ·
    refine pk_lconst (v := 0) C dX4_rounded_22 (by decide) (pc2 := 23) rfl ?_
    exact pr_long C hE (po_d_rfl (by first | with_reducible rfl | (unfold m_X4_rounded; rw [if_pos h1_])) (by first | with_reducible rfl | (unfold m_X4_rounded; rw [if_pos h1_]))) dX4_rounded_23
  ·
    refine pk_ldc2 C w0_ dX4_rounded_6 (pc2 := 9) rfl ?_
    refine pk_lload_n C 0 dX4_rounded_9 rfl rfl (pc2 := 10) rfl ?_
    refine pk_lmul C dX4_rounded_10 (pc2 := 11) rfl ?_
    refine pk_lload_n C 1 dX4_rounded_11 rfl rfl (pc2 := 12) rfl ?_
    refine pk_ladd C dX4_rounded_12 (pc2 := 13) rfl ?_
    refine pk_ldc2 C w0_ dX4_rounded_13 (pc2 := 16) rfl ?_
    refine pk_lload_n C 1 dX4_rounded_16 rfl rfl (pc2 := 17) rfl ?_
    refine pk_lmul C dX4_rounded_17 (pc2 := 18) rfl ?_
    refine pk_ldiv C dX4_rounded_18 (ld_pos h1_) (pc2 := 19) rfl ?_
    refine pk_goto (tgt := 23) C dX4_rounded_19 (by decide) ?_
    exact pr_long C hE (po_d_rfl (by first | with_reducible rfl | (unfold m_X4_rounded; rw [if_neg h1_])) (by first | with_reducible rfl | (unfold m_X4_rounded; rw [if_neg h1_]))) dX4_rounded_23
def m_X3_sumUpTo (n : Int64) : Int64 :=
  ((n * (n + 1)) / (2))
set_option maxRecDepth 100000 in
set_option maxHeartbeats 2000000 in
theorem c_X3_sumUpTo (l : Launch) (G : pw_G) (L : List Nat) (F : Nat → va_E)  (n : Int64) : PM l yX3_sumUpTo wsX3_sumUpTo ⟨0, 0, 0, 0⟩ G [.long n] [] L F 0 0 (po_d (some (.long (m_X3_sumUpTo n))) [] L F) := by
  refine pm_entry (by decide) rfl rfl (Nat.le_of_ble_eq_true rfl) ?_
  intro Z Q C hl0 hG0 hnm hE
  subst hl0
  subst hG0
  have w0_ : Cond.constantLong RX3 47 (2) ∈ wsX3_sumUpTo := by decide +kernel
  show PW Z [] L F 0 0 Q 0 [(0, .long n)] []
  refine pk_lload_n C 0 dX3_sumUpTo_0 rfl rfl (pc2 := 1) rfl ?_
  refine pk_lload_n C 0 dX3_sumUpTo_1 rfl rfl (pc2 := 2) rfl ?_
  refine pk_lconst (v := 1) C dX3_sumUpTo_2 (by decide) (pc2 := 3) rfl ?_
  refine pk_ladd C dX3_sumUpTo_3 (pc2 := 4) rfl ?_
  refine pk_lmul C dX3_sumUpTo_4 (pc2 := 5) rfl ?_
  refine pk_ldc2 C w0_ dX3_sumUpTo_5 (pc2 := 8) rfl ?_
  refine pk_ldiv C dX3_sumUpTo_8 (by decide) (pc2 := 9) rfl ?_
  exact pr_long C hE (po_d_rfl (by first | with_reducible rfl | (unfold m_X3_sumUpTo; with_reducible rfl)) (by first | with_reducible rfl | (unfold m_X3_sumUpTo; with_reducible rfl))) dX3_sumUpTo_9
def m_X3_begin (t : SR) (x : Int64) (y : Int64) (z : Int64) : SR :=
  (S_mk x y z 0 0 0)
set_option maxRecDepth 100000 in
set_option maxHeartbeats 2000000 in
theorem c_X3_begin (l : Launch) (G : pw_G) (L : List Nat) (F : Nat → va_E) (b : Nat) (t : SR) (x : Int64) (y : Int64) (z : Int64) : PM l yX3_begin wsX3_begin ⟨0, 0, 0, 0⟩ G [.ref b, .long x, .long y, .long z] [(b, cS t)] L F 0 0 (po_d none [(b, cS (m_X3_begin t x y z))] L F) := by
  refine pm_entry (by decide) rfl rfl (Nat.le_of_ble_eq_true rfl) ?_
  intro Z Q C hl0 hG0 hnm hE
  subst hl0
  subst hG0
  have i3_ : ∀ w ∈ wsX30, w ∈ wsX3_begin := by decide +kernel
  have w0_ : Cond.fieldLink RX3 9 "AgedAssets$Stretch" "base" "J" ∈ wsX3_begin := by decide +kernel
  have w1_ : Cond.fieldLink RX3 15 "AgedAssets$Stretch" "length" "J" ∈ wsX3_begin := by decide +kernel
  have w2_ : Cond.fieldLink RX3 18 "AgedAssets$Stretch" "unitsLeft" "J" ∈ wsX3_begin := by decide +kernel
  have w3_ : Cond.fieldLink RX3 21 "AgedAssets$Stretch" "monthsCharged" "J" ∈ wsX3_begin := by decide +kernel
  have w4_ : Cond.fieldLink RX3 24 "AgedAssets$Stretch" "unitsCharged" "J" ∈ wsX3_begin := by decide +kernel
  have w5_ : Cond.fieldLink RX3 27 "AgedAssets$Stretch" "charged" "J" ∈ wsX3_begin := by decide +kernel
  show PW Z [(b, cS t)] L F 0 0 Q 0 [(0, .ref b), (1, .long x), (3, .long y), (5, .long z)] []
  refine pk_aload_n C 0 dX3_begin_0 rfl rfl (pc2 := 1) rfl ?_
  refine pk_lload_n C 1 dX3_begin_1 rfl rfl (pc2 := 2) rfl ?_
  refine pk_putX (X' := [(b, kS x (S_le t) (S_ul t) (S_mo t) (S_un t) (S_ch t))]) C i3_ tyX3_ok nmX3 0 rfl (ci := 3) rfl 0 (by decide) w0_ rfl rfl rfl rfl rfl (Nat.le_of_ble_eq_true rfl) rfl dX3_begin_2 (pc2 := 5) rfl ?_
  refine pk_aload_n C 0 dX3_begin_5 rfl rfl (pc2 := 6) rfl ?_
  refine pk_lload_n C 2 dX3_begin_6 rfl rfl (pc2 := 7) rfl ?_
  refine pk_putX (X' := [(b, kS x y (S_ul t) (S_mo t) (S_un t) (S_ch t))]) C i3_ tyX3_ok nmX3 0 rfl (ci := 3) rfl 1 (by decide) w1_ rfl rfl rfl rfl rfl (Nat.le_of_ble_eq_true rfl) rfl dX3_begin_7 (pc2 := 10) rfl ?_
  refine pk_aload_n C 0 dX3_begin_10 rfl rfl (pc2 := 11) rfl ?_
  refine pk_lload C 3 dX3_begin_11 rfl (pc2 := 13) rfl ?_
  refine pk_putX (X' := [(b, kS x y z (S_mo t) (S_un t) (S_ch t))]) C i3_ tyX3_ok nmX3 0 rfl (ci := 3) rfl 2 (by decide) w2_ rfl rfl rfl rfl rfl (Nat.le_of_ble_eq_true rfl) rfl dX3_begin_13 (pc2 := 16) rfl ?_
  refine pk_aload_n C 0 dX3_begin_16 rfl rfl (pc2 := 17) rfl ?_
  refine pk_lconst (v := 0) C dX3_begin_17 (by decide) (pc2 := 18) rfl ?_
  refine pk_putX (X' := [(b, kS x y z 0 (S_un t) (S_ch t))]) C i3_ tyX3_ok nmX3 0 rfl (ci := 3) rfl 3 (by decide) w3_ rfl rfl rfl rfl rfl (Nat.le_of_ble_eq_true rfl) rfl dX3_begin_18 (pc2 := 21) rfl ?_
  refine pk_aload_n C 0 dX3_begin_21 rfl rfl (pc2 := 22) rfl ?_
  refine pk_lconst (v := 0) C dX3_begin_22 (by decide) (pc2 := 23) rfl ?_
  refine pk_putX (X' := [(b, kS x y z 0 0 (S_ch t))]) C i3_ tyX3_ok nmX3 0 rfl (ci := 3) rfl 4 (by decide) w4_ rfl rfl rfl rfl rfl (Nat.le_of_ble_eq_true rfl) rfl dX3_begin_23 (pc2 := 26) rfl ?_
  refine pk_aload_n C 0 dX3_begin_26 rfl rfl (pc2 := 27) rfl ?_
  refine pk_lconst (v := 0) C dX3_begin_27 (by decide) (pc2 := 28) rfl ?_
  refine pk_putX (X' := [(b, kS x y z 0 0 0)]) C i3_ tyX3_ok nmX3 0 rfl (ci := 3) rfl 5 (by decide) w5_ rfl rfl rfl rfl rfl (Nat.le_of_ble_eq_true rfl) rfl dX3_begin_28 (pc2 := 31) rfl ?_
  refine pw_conv (X' := [(b, cS (S_mk x y z 0 0 0))]) rfl ?_
  exact pr_void C hE (po_d_rfl rfl (by first | with_reducible rfl | (unfold m_X3_begin; with_reducible rfl))) dX3_begin_31
def m_X3_chargesTogether (t : SR) (me : Int32) : Int64 :=
  if me = 0 then (m_X4_rounded ((S_ba t) * (S_mo t)) (S_le t)) else if me = 2 then (m_X4_rounded ((S_ba t) * ((m_X3_sumUpTo (S_le t)) - (m_X3_sumUpTo ((S_le t) - (S_mo t))))) (m_X3_sumUpTo (S_le t))) else if (S_ul t) = 0 then (S_ba t) else (m_X4_rounded ((S_ba t) * (jmin (S_un t) (S_ul t))) (S_ul t))
set_option maxRecDepth 100000 in
set_option maxHeartbeats 2000000 in
theorem c_X3_chargesTogether (l : Launch) (G : pw_G) (L : List Nat) (F : Nat → va_E) (b : Nat) (t : SR) (me : Int32) : PM l yX3_chargesTogether wsX3_chargesTogether ⟨1, 0, 0, 23⟩ G [.ref b, .int me] [(b, cS t)] L F 0 0 (po_d (some (.long (m_X3_chargesTogether t me))) [(b, cS t)] L F) := by
  refine pm_entry (by decide) rfl rfl (Nat.le_of_ble_eq_true rfl) ?_
  intro Z Q C hl0 hG0 hnm hE
  subst hl0
  subst hG0
  have i3_ : ∀ w ∈ wsX30, w ∈ wsX3_chargesTogether := by decide +kernel
  have w0_ : Cond.fieldLink RX3 9 "AgedAssets$Stretch" "base" "J" ∈ wsX3_chargesTogether := by decide +kernel
  have w1_ : Cond.fieldLink RX3 21 "AgedAssets$Stretch" "monthsCharged" "J" ∈ wsX3_chargesTogether := by decide +kernel
  have w2_ : Cond.fieldLink RX3 15 "AgedAssets$Stretch" "length" "J" ∈ wsX3_chargesTogether := by decide +kernel
  have w3_ : Cond.methodLinkNest RX3 34 yX4_rounded RX4 ∈ pw_N := by decide +kernel
  have w4_ : Cond.static yX4_rounded ∈ wsX3_chargesTogether := by decide +kernel
  have w5_ : Cond.initialized RX4 ∈ wsX3_chargesTogether := by decide +kernel
  have w6_ : Cond.fieldLink RX3 18 "AgedAssets$Stretch" "unitsLeft" "J" ∈ wsX3_chargesTogether := by decide +kernel
  have w7_ : Cond.fieldLink RX3 24 "AgedAssets$Stretch" "unitsCharged" "J" ∈ wsX3_chargesTogether := by decide +kernel
  have w8_ : Cond.methodLink RX3 42 Lib.MathLoose.min_long.x ∈ wsX3_chargesTogether := by decide +kernel
  have w9_ : Cond.static Lib.MathLoose.min_long.x ∈ wsX3_chargesTogether := by decide +kernel
  have w10_ : Cond.initialized "java/lang/Math" ∈ wsX3_chargesTogether := by decide +kernel
  have w11_ : Cond.code Lib.MathLoose.min_long.x Lib.MathLoose.min_long.code 4 (some .long) ∈ wsX3_chargesTogether := by decide +kernel
  show PW Z [(b, cS t)] L F 0 0 Q 0 [(0, .ref b), (1, .int me)] []
  refine pk_iload_n C 1 dX3_chargesTogether_0 rfl rfl (pc2 := 1) rfl ?_
  by_cases h1_ : me = 0
  ·
    refine pk_lookup (tgt := 28) C dX3_chargesTogether_1 (by decide) (by rw [h1_]; first | done | rfl) (by decide) ?_
    refine pk_aload_n C 0 dX3_chargesTogether_28 rfl rfl (pc2 := 29) rfl ?_
    refine pk_get (v := .long (S_ba t)) C i3_ (pw_atX 0 rfl) (ci := 3) rfl 0 (by decide) w0_ rfl rfl dX3_chargesTogether_29 (pc2 := 32) rfl ?_
    refine pk_aload_n C 0 dX3_chargesTogether_32 rfl rfl (pc2 := 33) rfl ?_
    refine pk_get (v := .long (S_mo t)) C i3_ (pw_atX 0 rfl) (ci := 3) rfl 3 (by decide) w1_ rfl rfl dX3_chargesTogether_33 (pc2 := 36) rfl ?_
    refine pk_lmul C dX3_chargesTogether_36 (pc2 := 37) rfl ?_
    refine pk_aload_n C 0 dX3_chargesTogether_37 rfl rfl (pc2 := 38) rfl ?_
    refine pk_get (v := .long (S_le t)) C i3_ (pw_atX 0 rfl) (ci := 3) rfl 1 (by decide) w2_ rfl rfl dX3_chargesTogether_38 (pc2 := 41) rfl ?_
    refine pk_dSN (cx := []) (wr := [(b, cS t)]) (X2 := [(b, cS t)]) (st := []) (st2 := [.long (m_X4_rounded ((S_ba t) * (S_mo t)) (S_le t))]) (As := [.long ((S_ba t) * (S_mo t)), .long (S_le t)]) C (c_X4_rounded (zl Z) (zG Z) L F ((S_ba t) * (S_mo t)) (S_le t)) gX3_chargesTogether_X4_rounded_n34 rfl w3_ w4_ w5_ rfl rfl 2 (by decide +kernel) ⟨Nat.le_of_ble_eq_true rfl, Nat.le_of_ble_eq_true rfl⟩ rfl rfl (Nat.le_of_ble_eq_true rfl) ⟨Nat.le_of_ble_eq_true rfl, Nat.le_of_ble_eq_true rfl⟩ [] [0] [0] rfl rfl rfl rfl (by decide) rfl rfl dX3_chargesTogether_41 (pc2 := 44) rfl rfl ?_
    refine pk_topl (fun n1_ en1_ => ?_)
    subst en1_
    exact pr_long C hE (po_d_rfl (by first | with_reducible rfl | (unfold m_X3_chargesTogether; rw [if_pos h1_])) (by first | with_reducible rfl | (unfold m_X3_chargesTogether; rw [if_pos h1_]))) dX3_chargesTogether_44
  by_cases h2_ : me = 2
  ·
    refine pk_lookup (tgt := 45) C dX3_chargesTogether_1 (by decide) (by rw [h2_]; first | done | rfl) (by decide) ?_
    refine pk_aload_n C 0 dX3_chargesTogether_45 rfl rfl (pc2 := 46) rfl ?_
    refine pk_get (v := .long (S_ba t)) C i3_ (pw_atX 0 rfl) (ci := 3) rfl 0 (by decide) w0_ rfl rfl dX3_chargesTogether_46 (pc2 := 49) rfl ?_
    refine pk_aload_n C 0 dX3_chargesTogether_49 rfl rfl (pc2 := 50) rfl ?_
    refine pk_get (v := .long (S_le t)) C i3_ (pw_atX 0 rfl) (ci := 3) rfl 1 (by decide) w2_ rfl rfl dX3_chargesTogether_50 (pc2 := 53) rfl ?_
    refine pk_dS (cx := []) (wr := [(b, cS t)]) (X2 := [(b, cS t)]) (st := [.long (S_ba t)]) (st2 := [.long (m_X3_sumUpTo (S_le t)), .long (S_ba t)]) (As := [.long (S_le t)]) C (c_X3_sumUpTo (zl Z) (zG Z) L F (S_le t)) gX3_chargesTogether_X3_sumUpTo rfl rfl rfl 1 (by decide +kernel) ⟨Nat.le_of_ble_eq_true rfl, Nat.le_of_ble_eq_true rfl⟩ rfl rfl (Nat.le_of_ble_eq_true rfl) ⟨Nat.le_of_ble_eq_true rfl, Nat.le_of_ble_eq_true rfl⟩ [] [0] [0] rfl rfl rfl rfl (by decide) rfl rfl dX3_chargesTogether_53 (pc2 := 56) rfl rfl ?_
    refine pk_topl (fun n2_ en2_ => ?_)
    refine pk_aload_n C 0 dX3_chargesTogether_56 rfl rfl (pc2 := 57) rfl ?_
    refine pk_get (v := .long (S_le t)) C i3_ (pw_atX 0 rfl) (ci := 3) rfl 1 (by decide) w2_ rfl rfl dX3_chargesTogether_57 (pc2 := 60) rfl ?_
    refine pk_aload_n C 0 dX3_chargesTogether_60 rfl rfl (pc2 := 61) rfl ?_
    refine pk_get (v := .long (S_mo t)) C i3_ (pw_atX 0 rfl) (ci := 3) rfl 3 (by decide) w1_ rfl rfl dX3_chargesTogether_61 (pc2 := 64) rfl ?_
    refine pk_lsub C dX3_chargesTogether_64 (pc2 := 65) rfl ?_
    refine pk_dS (cx := []) (wr := [(b, cS t)]) (X2 := [(b, cS t)]) (st := [.long n2_, .long (S_ba t)]) (st2 := [.long (m_X3_sumUpTo ((S_le t) - (S_mo t))), .long n2_, .long (S_ba t)]) (As := [.long ((S_le t) - (S_mo t))]) C (c_X3_sumUpTo (zl Z) (zG Z) L F ((S_le t) - (S_mo t))) gX3_chargesTogether_X3_sumUpTo rfl rfl rfl 1 (by decide +kernel) ⟨Nat.le_of_ble_eq_true rfl, Nat.le_of_ble_eq_true rfl⟩ rfl rfl (Nat.le_of_ble_eq_true rfl) ⟨Nat.le_of_ble_eq_true rfl, Nat.le_of_ble_eq_true rfl⟩ [] [0] [0] rfl rfl rfl rfl (by decide) rfl rfl dX3_chargesTogether_65 (pc2 := 68) rfl rfl ?_
    refine pk_topl (fun n3_ en3_ => ?_)
    refine pk_lsub C dX3_chargesTogether_68 (pc2 := 69) rfl ?_
    refine pk_lmul C dX3_chargesTogether_69 (pc2 := 70) rfl ?_
    refine pk_aload_n C 0 dX3_chargesTogether_70 rfl rfl (pc2 := 71) rfl ?_
    refine pk_get (v := .long (S_le t)) C i3_ (pw_atX 0 rfl) (ci := 3) rfl 1 (by decide) w2_ rfl rfl dX3_chargesTogether_71 (pc2 := 74) rfl ?_
    refine pk_dS (cx := []) (wr := [(b, cS t)]) (X2 := [(b, cS t)]) (st := [.long ((S_ba t) * (n2_ - n3_))]) (st2 := [.long (m_X3_sumUpTo (S_le t)), .long ((S_ba t) * (n2_ - n3_))]) (As := [.long (S_le t)]) C (c_X3_sumUpTo (zl Z) (zG Z) L F (S_le t)) gX3_chargesTogether_X3_sumUpTo rfl rfl rfl 1 (by decide +kernel) ⟨Nat.le_of_ble_eq_true rfl, Nat.le_of_ble_eq_true rfl⟩ rfl rfl (Nat.le_of_ble_eq_true rfl) ⟨Nat.le_of_ble_eq_true rfl, Nat.le_of_ble_eq_true rfl⟩ [] [0] [0] rfl rfl rfl rfl (by decide) rfl rfl dX3_chargesTogether_74 (pc2 := 77) rfl rfl ?_
    refine pk_topl (fun n4_ en4_ => ?_)
    refine pk_dSN (cx := []) (wr := [(b, cS t)]) (X2 := [(b, cS t)]) (st := []) (st2 := [.long (m_X4_rounded ((S_ba t) * (n2_ - n3_)) n4_)]) (As := [.long ((S_ba t) * (n2_ - n3_)), .long n4_]) C (c_X4_rounded (zl Z) (zG Z) L F ((S_ba t) * (n2_ - n3_)) n4_) gX3_chargesTogether_X4_rounded_n34 rfl w3_ w4_ w5_ rfl rfl 2 (by decide +kernel) ⟨Nat.le_of_ble_eq_true rfl, Nat.le_of_ble_eq_true rfl⟩ rfl rfl (Nat.le_of_ble_eq_true rfl) ⟨Nat.le_of_ble_eq_true rfl, Nat.le_of_ble_eq_true rfl⟩ [] [0] [0] rfl rfl rfl rfl (by decide) rfl rfl dX3_chargesTogether_77 (pc2 := 80) rfl rfl ?_
    refine pk_topl (fun n5_ en5_ => ?_)
    subst en2_ en3_ en4_ en5_
    exact pr_long C hE (po_d_rfl (by first | with_reducible rfl | (unfold m_X3_chargesTogether; rw [if_neg h1_, if_pos h2_])) (by first | with_reducible rfl | (unfold m_X3_chargesTogether; rw [if_neg h1_, if_pos h2_]))) dX3_chargesTogether_80
  refine pk_lookup (tgt := 81) C dX3_chargesTogether_1 (by decide) (sw_look0_2 h1_ h2_) (by decide) ?_
  refine pk_aload_n C 0 dX3_chargesTogether_81 rfl rfl (pc2 := 82) rfl ?_
  refine pk_get (v := .long (S_ul t)) C i3_ (pw_atX 0 rfl) (ci := 3) rfl 2 (by decide) w6_ rfl rfl dX3_chargesTogether_82 (pc2 := 85) rfl ?_
  refine pk_lconst (v := 0) C dX3_chargesTogether_85 (by decide) (pc2 := 86) rfl ?_
  refine pk_lcmp_ne (tgt := 97) C dX3_chargesTogether_86 dX3_chargesTogether_87 (pc1 := 87) rfl (by decide) (pc2 := 90) rfl (fun h3_ => ?_) (fun h3_ => ?_)
  ·
    refine pk_aload_n C 0 dX3_chargesTogether_97 rfl rfl (pc2 := 98) rfl ?_
    refine pk_get (v := .long (S_ba t)) C i3_ (pw_atX 0 rfl) (ci := 3) rfl 0 (by decide) w0_ rfl rfl dX3_chargesTogether_98 (pc2 := 101) rfl ?_
    refine pk_aload_n C 0 dX3_chargesTogether_101 rfl rfl (pc2 := 102) rfl ?_
    refine pk_get (v := .long (S_un t)) C i3_ (pw_atX 0 rfl) (ci := 3) rfl 4 (by decide) w7_ rfl rfl dX3_chargesTogether_102 (pc2 := 105) rfl ?_
    refine pk_aload_n C 0 dX3_chargesTogether_105 rfl rfl (pc2 := 106) rfl ?_
    refine pk_get (v := .long (S_ul t)) C i3_ (pw_atX 0 rfl) (ci := 3) rfl 2 (by decide) w6_ rfl rfl dX3_chargesTogether_106 (pc2 := 109) rfl ?_
    refine pk_minl (v := (jmin (S_un t) (S_ul t))) C ⟨w8_, w9_, w10_, w11_⟩ (Nat.le_of_ble_eq_true rfl) (Nat.le_of_ble_eq_true rfl) (Nat.le_of_ble_eq_true rfl) (Nat.le_of_ble_eq_true rfl) dX3_chargesTogether_109 (pc2 := 112) rfl rfl ?_
    refine pk_lmul C dX3_chargesTogether_112 (pc2 := 113) rfl ?_
    refine pk_aload_n C 0 dX3_chargesTogether_113 rfl rfl (pc2 := 114) rfl ?_
    refine pk_get (v := .long (S_ul t)) C i3_ (pw_atX 0 rfl) (ci := 3) rfl 2 (by decide) w6_ rfl rfl dX3_chargesTogether_114 (pc2 := 117) rfl ?_
    refine pk_dSN (cx := []) (wr := [(b, cS t)]) (X2 := [(b, cS t)]) (st := []) (st2 := [.long (m_X4_rounded ((S_ba t) * (jmin (S_un t) (S_ul t))) (S_ul t))]) (As := [.long ((S_ba t) * (jmin (S_un t) (S_ul t))), .long (S_ul t)]) C (c_X4_rounded (zl Z) (zG Z) L F ((S_ba t) * (jmin (S_un t) (S_ul t))) (S_ul t)) gX3_chargesTogether_X4_rounded_n34 rfl w3_ w4_ w5_ rfl rfl 2 (by decide +kernel) ⟨Nat.le_of_ble_eq_true rfl, Nat.le_of_ble_eq_true rfl⟩ rfl rfl (Nat.le_of_ble_eq_true rfl) ⟨Nat.le_of_ble_eq_true rfl, Nat.le_of_ble_eq_true rfl⟩ [] [0] [0] rfl rfl rfl rfl (by decide) rfl rfl dX3_chargesTogether_117 (pc2 := 120) rfl rfl ?_
    refine pk_topl (fun n6_ en6_ => ?_)
    subst en6_
    exact pr_long C hE (po_d_rfl (by first | with_reducible rfl | (unfold m_X3_chargesTogether; rw [if_neg h1_, if_neg h2_, if_neg h3_])) (by first | with_reducible rfl | (unfold m_X3_chargesTogether; rw [if_neg h1_, if_neg h2_, if_neg h3_]))) dX3_chargesTogether_120
  ·
    refine pk_aload_n C 0 dX3_chargesTogether_90 rfl rfl (pc2 := 91) rfl ?_
    refine pk_get (v := .long (S_ba t)) C i3_ (pw_atX 0 rfl) (ci := 3) rfl 0 (by decide) w0_ rfl rfl dX3_chargesTogether_91 (pc2 := 94) rfl ?_
    refine pk_goto (tgt := 120) C dX3_chargesTogether_94 (by decide) ?_
    exact pr_long C hE (po_d_rfl (by first | with_reducible rfl | (unfold m_X3_chargesTogether; rw [if_neg h1_, if_neg h2_, if_pos h3_])) (by first | with_reducible rfl | (unfold m_X3_chargesTogether; rw [if_neg h1_, if_neg h2_, if_pos h3_]))) dX3_chargesTogether_120
def m_X3_nextCharge (t : SR) (me : Int32) (us : Int32) : Int64 × SR :=
  (((m_X3_chargesTogether (S_mk (S_ba t) (S_le t) (S_ul t) ((S_mo t) + 1) ((S_un t) + (Int32.toInt64 us)) (S_ch t)) me) - (S_ch t)), (S_mk (S_ba t) (S_le t) (S_ul t) ((S_mo t) + 1) ((S_un t) + (Int32.toInt64 us)) (m_X3_chargesTogether (S_mk (S_ba t) (S_le t) (S_ul t) ((S_mo t) + 1) ((S_un t) + (Int32.toInt64 us)) (S_ch t)) me)))
set_option maxRecDepth 100000 in
set_option maxHeartbeats 2000000 in
theorem c_X3_nextCharge (l : Launch) (G : pw_G) (L : List Nat) (F : Nat → va_E) (b : Nat) (t : SR) (me : Int32) (us : Int32) : PM l yX3_nextCharge wsX3_nextCharge ⟨2, 0, 0, 44⟩ G [.ref b, .int me, .int us] [(b, cS t)] L F 0 0 (po_d (some (.long (m_X3_nextCharge t me us).1)) [(b, cS ((m_X3_nextCharge t me us).2))] L F) := by
  refine pm_entry (by decide) rfl rfl (Nat.le_of_ble_eq_true rfl) ?_
  intro Z Q C hl0 hG0 hnm hE
  subst hl0
  subst hG0
  have i3_ : ∀ w ∈ wsX30, w ∈ wsX3_nextCharge := by decide +kernel
  have w0_ : Cond.fieldLink RX3 21 "AgedAssets$Stretch" "monthsCharged" "J" ∈ wsX3_nextCharge := by decide +kernel
  have w1_ : Cond.fieldLink RX3 24 "AgedAssets$Stretch" "unitsCharged" "J" ∈ wsX3_nextCharge := by decide +kernel
  have w2_ : Cond.fieldLink RX3 27 "AgedAssets$Stretch" "charged" "J" ∈ wsX3_nextCharge := by decide +kernel
  show PW Z [(b, cS t)] L F 0 0 Q 0 [(0, .ref b), (1, .int me), (2, .int us)] []
  refine pk_aload_n C 0 dX3_nextCharge_0 rfl rfl (pc2 := 1) rfl ?_
  refine pk_dup C dX3_nextCharge_1 rfl (pc2 := 2) rfl ?_
  refine pk_get (v := .long (S_mo t)) C i3_ (pw_atX 0 rfl) (ci := 3) rfl 3 (by decide) w0_ rfl rfl dX3_nextCharge_2 (pc2 := 5) rfl ?_
  refine pk_lconst (v := 1) C dX3_nextCharge_5 (by decide) (pc2 := 6) rfl ?_
  refine pk_ladd C dX3_nextCharge_6 (pc2 := 7) rfl ?_
  refine pk_topl (fun n1_ en1_ => ?_)
  refine pk_putX (X' := [(b, kS (S_ba t) (S_le t) (S_ul t) n1_ (S_un t) (S_ch t))]) C i3_ tyX3_ok nmX3 0 rfl (ci := 3) rfl 3 (by decide) w0_ rfl rfl rfl rfl rfl (Nat.le_of_ble_eq_true rfl) rfl dX3_nextCharge_7 (pc2 := 10) rfl ?_
  refine pk_aload_n C 0 dX3_nextCharge_10 rfl rfl (pc2 := 11) rfl ?_
  refine pk_dup C dX3_nextCharge_11 rfl (pc2 := 12) rfl ?_
  refine pk_get (v := .long (S_un t)) C i3_ (pw_atX 0 rfl) (ci := 3) rfl 4 (by decide) w1_ rfl rfl dX3_nextCharge_12 (pc2 := 15) rfl ?_
  refine pk_iload_n C 2 dX3_nextCharge_15 rfl rfl (pc2 := 16) rfl ?_
  refine pk_i2l C dX3_nextCharge_16 (pc2 := 17) rfl ?_
  refine pk_ladd C dX3_nextCharge_17 (pc2 := 18) rfl ?_
  refine pk_topl (fun n2_ en2_ => ?_)
  refine pk_putX (X' := [(b, kS (S_ba t) (S_le t) (S_ul t) n1_ n2_ (S_ch t))]) C i3_ tyX3_ok nmX3 0 rfl (ci := 3) rfl 4 (by decide) w1_ rfl rfl rfl rfl rfl (Nat.le_of_ble_eq_true rfl) rfl dX3_nextCharge_18 (pc2 := 21) rfl ?_
  refine pk_aload_n C 0 dX3_nextCharge_21 rfl rfl (pc2 := 22) rfl ?_
  refine pk_get (v := .long (S_ch t)) C i3_ (pw_atX 0 rfl) (ci := 3) rfl 5 (by decide) w2_ rfl rfl dX3_nextCharge_22 (pc2 := 25) rfl ?_
  refine pk_lstore_n (lv' := [(3, .long (S_ch t)), (0, .ref b), (1, .int me), (2, .int us)]) C dX3_nextCharge_25 rfl (by decide) rfl (pc2 := 26) rfl ?_
  refine pk_aload_n C 1 dX3_nextCharge_26 rfl rfl (pc2 := 27) rfl ?_
  refine pk_aload_n C 1 dX3_nextCharge_27 rfl rfl (pc2 := 28) rfl ?_
  refine pk_iload_n C 2 dX3_nextCharge_28 rfl rfl (pc2 := 29) rfl ?_
  refine pk_dV (cx := [(b, cS (S_mk (S_ba t) (S_le t) (S_ul t) n1_ n2_ (S_ch t)))]) (wr := []) (X2 := [(b, kS (S_ba t) (S_le t) (S_ul t) n1_ n2_ (S_ch t))]) (st := [.ref b]) (st2 := [.long (m_X3_chargesTogether (S_mk (S_ba t) (S_le t) (S_ul t) n1_ n2_ (S_ch t)) me), .ref b]) (As := [.int me]) C (c_X3_chargesTogether (zl Z) (zG Z) L F b (S_mk (S_ba t) (S_le t) (S_ul t) n1_ n2_ (S_ch t)) me) gX3_nextCharge_X3_chargesTogether rfl rfl rfl 1 (by decide +kernel) ⟨Nat.le_of_ble_eq_true rfl, Nat.le_of_ble_eq_true rfl⟩ (pw_atX 0 rfl) rfl rfl rfl (Nat.le_of_ble_eq_true rfl) ⟨Nat.le_of_ble_eq_true rfl, Nat.le_of_ble_eq_true rfl⟩ [0] [] [0] rfl rfl rfl rfl (by decide) rfl rfl dX3_nextCharge_29 (pc2 := 32) rfl rfl ?_
  refine pk_topl (fun n3_ en3_ => ?_)
  refine pk_putX (X' := [(b, kS (S_ba t) (S_le t) (S_ul t) n1_ n2_ n3_)]) C i3_ tyX3_ok nmX3 0 rfl (ci := 3) rfl 5 (by decide) w2_ rfl rfl rfl rfl rfl (Nat.le_of_ble_eq_true rfl) rfl dX3_nextCharge_32 (pc2 := 35) rfl ?_
  refine pk_aload_n C 1 dX3_nextCharge_35 rfl rfl (pc2 := 36) rfl ?_
  refine pk_get (v := .long n3_) C i3_ (pw_atX 0 rfl) (ci := 3) rfl 5 (by decide) w2_ rfl rfl dX3_nextCharge_36 (pc2 := 39) rfl ?_
  refine pk_lload_n C 0 dX3_nextCharge_39 rfl rfl (pc2 := 40) rfl ?_
  refine pk_lsub C dX3_nextCharge_40 (pc2 := 41) rfl ?_
  refine pw_conv (X' := [(b, cS (S_mk (S_ba t) (S_le t) (S_ul t) n1_ n2_ n3_))]) rfl ?_
  subst en1_ en2_ en3_
  exact pr_long C hE (po_d_rfl (by first | with_reducible rfl | (unfold m_X3_nextCharge; with_reducible rfl)) (by first | with_reducible rfl | (unfold m_X3_nextCharge; with_reducible rfl))) dX3_nextCharge_41
end
section
def m_X0_book (c : CR) (t : SR) : Int64 :=
  ((C_co c) - (C_al c))
set_option maxRecDepth 100000 in
set_option maxHeartbeats 2000000 in
theorem c_X0_book (l : Launch) (G : pw_G) (L : List Nat) (F : Nat → va_E) (a b : Nat) (c : CR) (t : SR) : PM l yX0_book wsX0_book ⟨0, 0, 0, 0⟩ G [.ref a] [(a, cC b c), (b, cS t)] L F 0 0 (po_d (some (.long (m_X0_book c t))) [(a, cC b c), (b, cS t)] L F) := by
  refine pm_entry (by decide) rfl rfl (Nat.le_of_ble_eq_true rfl) ?_
  intro Z Q C hl0 hG0 hnm hE
  subst hl0
  subst hG0
  have i0_ : ∀ w ∈ wsX00, w ∈ wsX0_book := by decide +kernel
  have w0_ : Cond.fieldLink RX0 33 "AgedAssets$Course" "cost" "J" ∈ wsX0_book := by decide +kernel
  have w1_ : Cond.fieldLink RX0 34 "AgedAssets$Course" "allowance" "J" ∈ wsX0_book := by decide +kernel
  show PW Z [(a, cC b c), (b, cS t)] L F 0 0 Q 0 [(0, .ref a)] []
  refine pk_aload_n C 0 dX0_book_0 rfl rfl (pc2 := 1) rfl ?_
  refine pk_get (v := .long (C_co c)) C i0_ (pw_atX 0 rfl) (ci := 0) rfl 3 (by decide) w0_ rfl rfl dX0_book_1 (pc2 := 4) rfl ?_
  refine pk_aload_n C 0 dX0_book_4 rfl rfl (pc2 := 5) rfl ?_
  refine pk_get (v := .long (C_al c)) C i0_ (pw_atX 0 rfl) (ci := 0) rfl 4 (by decide) w1_ rfl rfl dX0_book_5 (pc2 := 8) rfl ?_
  refine pk_lsub C dX0_book_8 (pc2 := 9) rfl ?_
  exact pr_long C hE (po_d_rfl (by first | with_reducible rfl | (unfold m_X0_book; with_reducible rfl)) (by first | with_reducible rfl | (unfold m_X0_book; with_reducible rfl))) dX0_book_9
def m_X0_bookOrNone (c : CR) (t : SR) : Int64 :=
  if (C_br c) = 0 then (m_X0_book c t) else (-1)
set_option maxRecDepth 100000 in
set_option maxHeartbeats 2000000 in
theorem c_X0_bookOrNone (l : Launch) (G : pw_G) (L : List Nat) (F : Nat → va_E) (a b : Nat) (c : CR) (t : SR) : PM l yX0_bookOrNone wsX0_bookOrNone ⟨1, 0, 0, 20⟩ G [.ref a] [(a, cC b c), (b, cS t)] L F 0 0 (po_d (some (.long (m_X0_bookOrNone c t))) [(a, cC b c), (b, cS t)] L F) := by
  refine pm_entry (by decide) rfl rfl (Nat.le_of_ble_eq_true rfl) ?_
  intro Z Q C hl0 hG0 hnm hE
  subst hl0
  subst hG0
  have i0_ : ∀ w ∈ wsX00, w ∈ wsX0_bookOrNone := by decide +kernel
  have w0_ : Cond.fieldLink RX0 60 "AgedAssets$Course" "breached" "Z" ∈ wsX0_bookOrNone := by decide +kernel
  have w1_ : Cond.constantLong RX0 75 (-1) ∈ wsX0_bookOrNone := by decide +kernel
  show PW Z [(a, cC b c), (b, cS t)] L F 0 0 Q 0 [(0, .ref a)] []
  refine pk_aload_n C 0 dX0_bookOrNone_0 rfl rfl (pc2 := 1) rfl ?_
  refine pk_get (v := .int (C_br c)) C i0_ (pw_atX 0 rfl) (ci := 0) rfl 11 (by decide) w0_ rfl rfl dX0_bookOrNone_1 (pc2 := 4) rfl ?_
  refine pk_if_eq (tgt := 13) C dX0_bookOrNone_4 (by decide) (pc2 := 7) rfl (fun h1_ => ?_) (fun h1_ => ?_)
  ·
    refine pk_aload_n C 0 dX0_bookOrNone_13 rfl rfl (pc2 := 14) rfl ?_
    refine pk_dV (cx := [(a, cC b c), (b, cS t)]) (wr := []) (X2 := [(a, cC b c), (b, cS t)]) (st := []) (st2 := [.long (m_X0_book c t)]) (As := []) C (c_X0_book (zl Z) (zG Z) L F a b c t) gX0_bookOrNone_X0_book rfl rfl rfl 0 (by decide +kernel) ⟨Nat.le_of_ble_eq_true rfl, Nat.le_of_ble_eq_true rfl⟩ (pw_atX 0 rfl) rfl rfl rfl (Nat.le_of_ble_eq_true rfl) ⟨Nat.le_of_ble_eq_true rfl, Nat.le_of_ble_eq_true rfl⟩ [0, 1] [] [0, 1] rfl rfl rfl rfl (by decide) rfl rfl dX0_bookOrNone_14 (pc2 := 17) rfl rfl ?_
    refine pk_topl (fun n1_ en1_ => ?_)
    subst en1_
    exact pr_long C hE (po_d_rfl (by first | with_reducible rfl | (unfold m_X0_bookOrNone; rw [if_pos h1_])) (by first | with_reducible rfl | (unfold m_X0_bookOrNone; rw [if_pos h1_]))) dX0_bookOrNone_17
  ·
    refine pk_ldc2 C w1_ dX0_bookOrNone_7 (pc2 := 10) rfl ?_
    refine pk_goto (tgt := 17) C dX0_bookOrNone_10 (by decide) ?_
    exact pr_long C hE (po_d_rfl (by first | with_reducible rfl | (unfold m_X0_bookOrNone; rw [if_neg h1_])) (by first | with_reducible rfl | (unfold m_X0_bookOrNone; rw [if_neg h1_]))) dX0_bookOrNone_17
def m_X0_lose (c : CR) (t : SR) (x : Int64) : CR :=
  (C_mk (C_me c) (C_ra c) (C_co c) (C_al c) ((C_re c) - (jmin x (C_re c))) ((C_lo c) + (x - (jmin x (C_re c)))) (C_rs c) (C_li c) (C_he c) (C_go c) (C_br c) (C_cu c) (C_lc c) (C_ac c))
set_option maxRecDepth 100000 in
set_option maxHeartbeats 2000000 in
theorem c_X0_lose (l : Launch) (G : pw_G) (L : List Nat) (F : Nat → va_E) (a b : Nat) (c : CR) (t : SR) (x : Int64) : PM l yX0_lose wsX0_lose ⟨1, 0, 0, 15⟩ G [.ref a, .long x] [(a, cC b c), (b, cS t)] L F 0 0 (po_d none [(a, cC b (m_X0_lose c t x)), (b, cS t)] L F) := by
  refine pm_entry (by decide) rfl rfl (Nat.le_of_ble_eq_true rfl) ?_
  intro Z Q C hl0 hG0 hnm hE
  subst hl0
  subst hG0
  have i0_ : ∀ w ∈ wsX00, w ∈ wsX0_lose := by decide +kernel
  have w0_ : Cond.fieldLink RX0 37 "AgedAssets$Course" "reserve" "J" ∈ wsX0_lose := by decide +kernel
  have w1_ : Cond.methodLink RX0 124 Lib.MathLoose.min_long.x ∈ wsX0_lose := by decide +kernel
  have w2_ : Cond.static Lib.MathLoose.min_long.x ∈ wsX0_lose := by decide +kernel
  have w3_ : Cond.initialized "java/lang/Math" ∈ wsX0_lose := by decide +kernel
  have w4_ : Cond.code Lib.MathLoose.min_long.x Lib.MathLoose.min_long.code 4 (some .long) ∈ wsX0_lose := by decide +kernel
  have w5_ : Cond.fieldLink RX0 40 "AgedAssets$Course" "losses" "J" ∈ wsX0_lose := by decide +kernel
  show PW Z [(a, cC b c), (b, cS t)] L F 0 0 Q 0 [(0, .ref a), (1, .long x)] []
  refine pk_lload_n C 1 dX0_lose_0 rfl rfl (pc2 := 1) rfl ?_
  refine pk_aload_n C 0 dX0_lose_1 rfl rfl (pc2 := 2) rfl ?_
  refine pk_get (v := .long (C_re c)) C i0_ (pw_atX 0 rfl) (ci := 0) rfl 5 (by decide) w0_ rfl rfl dX0_lose_2 (pc2 := 5) rfl ?_
  refine pk_minl (v := (jmin x (C_re c))) C ⟨w1_, w2_, w3_, w4_⟩ (Nat.le_of_ble_eq_true rfl) (Nat.le_of_ble_eq_true rfl) (Nat.le_of_ble_eq_true rfl) (Nat.le_of_ble_eq_true rfl) dX0_lose_5 (pc2 := 8) rfl rfl ?_
  refine pk_topl (fun n1_ en1_ => ?_)
  refine pk_lstore_n (lv' := [(3, .long n1_), (0, .ref a), (1, .long x)]) C dX0_lose_8 rfl (by decide) rfl (pc2 := 9) rfl ?_
  refine pk_aload_n C 1 dX0_lose_9 rfl rfl (pc2 := 10) rfl ?_
  refine pk_dup C dX0_lose_10 rfl (pc2 := 11) rfl ?_
  refine pk_get (v := .long (C_re c)) C i0_ (pw_atX 0 rfl) (ci := 0) rfl 5 (by decide) w0_ rfl rfl dX0_lose_11 (pc2 := 14) rfl ?_
  refine pk_lload_n C 0 dX0_lose_14 rfl rfl (pc2 := 15) rfl ?_
  refine pk_lsub C dX0_lose_15 (pc2 := 16) rfl ?_
  refine pk_topl (fun n2_ en2_ => ?_)
  refine pk_putX (X' := [(a, kC b (C_me c) (C_ra c) (C_co c) (C_al c) n2_ (C_lo c) (C_rs c) (C_li c) (C_he c) (C_go c) (C_br c) (C_cu c) (C_lc c) (C_ac c)), (b, cS t)]) C i0_ tyX0_ok nmX0 0 rfl (ci := 0) rfl 5 (by decide) w0_ rfl rfl rfl rfl rfl (Nat.le_of_ble_eq_true rfl) rfl dX0_lose_16 (pc2 := 19) rfl ?_
  refine pk_aload_n C 1 dX0_lose_19 rfl rfl (pc2 := 20) rfl ?_
  refine pk_dup C dX0_lose_20 rfl (pc2 := 21) rfl ?_
  refine pk_get (v := .long (C_lo c)) C i0_ (pw_atX 0 rfl) (ci := 0) rfl 6 (by decide) w5_ rfl rfl dX0_lose_21 (pc2 := 24) rfl ?_
  refine pk_lload_n C 2 dX0_lose_24 rfl rfl (pc2 := 25) rfl ?_
  refine pk_lload_n C 0 dX0_lose_25 rfl rfl (pc2 := 26) rfl ?_
  refine pk_lsub C dX0_lose_26 (pc2 := 27) rfl ?_
  refine pk_ladd C dX0_lose_27 (pc2 := 28) rfl ?_
  refine pk_topl (fun n3_ en3_ => ?_)
  refine pk_putX (X' := [(a, kC b (C_me c) (C_ra c) (C_co c) (C_al c) n2_ n3_ (C_rs c) (C_li c) (C_he c) (C_go c) (C_br c) (C_cu c) (C_lc c) (C_ac c)), (b, cS t)]) C i0_ tyX0_ok nmX0 0 rfl (ci := 0) rfl 6 (by decide) w5_ rfl rfl rfl rfl rfl (Nat.le_of_ble_eq_true rfl) rfl dX0_lose_28 (pc2 := 31) rfl ?_
  refine pw_conv (X' := [(a, cC b (C_mk (C_me c) (C_ra c) (C_co c) (C_al c) n2_ n3_ (C_rs c) (C_li c) (C_he c) (C_go c) (C_br c) (C_cu c) (C_lc c) (C_ac c))), (b, cS t)]) rfl ?_
  subst en1_ en2_ en3_
  exact pr_void C hE (po_d_rfl rfl (by first | with_reducible rfl | (unfold m_X0_lose; with_reducible rfl))) dX0_lose_31
def m_X0_impair (c : CR) (t : SR) (x : Int64) : CR :=
  (C_mk (C_me (m_X0_lose c t x)) (C_ra (m_X0_lose c t x)) (C_co (m_X0_lose c t x)) ((C_al (m_X0_lose c t x)) + x) (C_re (m_X0_lose c t x)) (C_lo (m_X0_lose c t x)) (C_rs (m_X0_lose c t x)) (C_li (m_X0_lose c t x)) (C_he (m_X0_lose c t x)) (C_go (m_X0_lose c t x)) (C_br (m_X0_lose c t x)) (C_cu (m_X0_lose c t x)) (C_lc (m_X0_lose c t x)) (C_ac (m_X0_lose c t x)))
set_option maxRecDepth 100000 in
set_option maxHeartbeats 2000000 in
theorem c_X0_impair (l : Launch) (G : pw_G) (L : List Nat) (F : Nat → va_E) (a b : Nat) (c : CR) (t : SR) (x : Int64) : PM l yX0_impair wsX0_impair ⟨2, 0, 0, 39⟩ G [.ref a, .long x] [(a, cC b c), (b, cS t)] L F 0 0 (po_d none [(a, cC b (m_X0_impair c t x)), (b, cS t)] L F) := by
  refine pm_entry (by decide) rfl rfl (Nat.le_of_ble_eq_true rfl) ?_
  intro Z Q C hl0 hG0 hnm hE
  subst hl0
  subst hG0
  have i0_ : ∀ w ∈ wsX00, w ∈ wsX0_impair := by decide +kernel
  have w0_ : Cond.fieldLink RX0 34 "AgedAssets$Course" "allowance" "J" ∈ wsX0_impair := by decide +kernel
  show PW Z [(a, cC b c), (b, cS t)] L F 0 0 Q 0 [(0, .ref a), (1, .long x)] []
  refine pk_aload_n C 0 dX0_impair_0 rfl rfl (pc2 := 1) rfl ?_
  refine pk_lload_n C 1 dX0_impair_1 rfl rfl (pc2 := 2) rfl ?_
  refine pk_dV (cx := [(a, cC b c), (b, cS t)]) (wr := []) (X2 := [(a, cC b (m_X0_lose c t x)), (b, cS t)]) (st := []) (st2 := []) (As := [.long x]) C (c_X0_lose (zl Z) (zG Z) L F a b c t x) gX0_impair_X0_lose rfl rfl rfl 1 (by decide +kernel) ⟨Nat.le_of_ble_eq_true rfl, Nat.le_of_ble_eq_true rfl⟩ (pw_atX 0 rfl) rfl rfl rfl (Nat.le_of_ble_eq_true rfl) ⟨Nat.le_of_ble_eq_true rfl, Nat.le_of_ble_eq_true rfl⟩ [0, 1] [] [0, 1] rfl rfl rfl rfl (by decide) rfl rfl dX0_impair_2 (pc2 := 5) rfl rfl ?_
  generalize en1_ : (m_X0_lose c t x) = n1_
  refine pk_aload_n C 0 dX0_impair_5 rfl rfl (pc2 := 6) rfl ?_
  refine pk_dup C dX0_impair_6 rfl (pc2 := 7) rfl ?_
  refine pk_get (v := .long (C_al n1_)) C i0_ (pw_atX 0 rfl) (ci := 0) rfl 4 (by decide) w0_ rfl rfl dX0_impair_7 (pc2 := 10) rfl ?_
  refine pk_lload_n C 1 dX0_impair_10 rfl rfl (pc2 := 11) rfl ?_
  refine pk_ladd C dX0_impair_11 (pc2 := 12) rfl ?_
  refine pk_topl (fun n2_ en2_ => ?_)
  refine pk_putX (X' := [(a, kC b (C_me n1_) (C_ra n1_) (C_co n1_) n2_ (C_re n1_) (C_lo n1_) (C_rs n1_) (C_li n1_) (C_he n1_) (C_go n1_) (C_br n1_) (C_cu n1_) (C_lc n1_) (C_ac n1_)), (b, cS t)]) C i0_ tyX0_ok nmX0 0 rfl (ci := 0) rfl 4 (by decide) w0_ rfl rfl rfl rfl rfl (Nat.le_of_ble_eq_true rfl) rfl dX0_impair_12 (pc2 := 15) rfl ?_
  refine pw_conv (X' := [(a, cC b (C_mk (C_me n1_) (C_ra n1_) (C_co n1_) n2_ (C_re n1_) (C_lo n1_) (C_rs n1_) (C_li n1_) (C_he n1_) (C_go n1_) (C_br n1_) (C_cu n1_) (C_lc n1_) (C_ac n1_))), (b, cS t)]) rfl ?_
  subst en1_ en2_
  exact pr_void C hE (po_d_rfl rfl (by first | with_reducible rfl | (unfold m_X0_impair; with_reducible rfl))) dX0_impair_15
def m_X0_restore (c : CR) (t : SR) (x : Int64) : CR :=
  (C_mk (C_me c) (C_ra c) (C_co c) ((C_al c) - x) (C_re c) ((C_lo c) - (jmin x (C_lo c))) (C_rs c) (C_li c) (C_he c) (C_go c) (C_br c) (C_cu c) (C_lc c) (C_ac c))
set_option maxRecDepth 100000 in
set_option maxHeartbeats 2000000 in
theorem c_X0_restore (l : Launch) (G : pw_G) (L : List Nat) (F : Nat → va_E) (a b : Nat) (c : CR) (t : SR) (x : Int64) : PM l yX0_restore wsX0_restore ⟨1, 0, 0, 18⟩ G [.ref a, .long x] [(a, cC b c), (b, cS t)] L F 0 0 (po_d none [(a, cC b (m_X0_restore c t x)), (b, cS t)] L F) := by
  refine pm_entry (by decide) rfl rfl (Nat.le_of_ble_eq_true rfl) ?_
  intro Z Q C hl0 hG0 hnm hE
  subst hl0
  subst hG0
  have i0_ : ∀ w ∈ wsX00, w ∈ wsX0_restore := by decide +kernel
  have w0_ : Cond.fieldLink RX0 34 "AgedAssets$Course" "allowance" "J" ∈ wsX0_restore := by decide +kernel
  have w1_ : Cond.fieldLink RX0 40 "AgedAssets$Course" "losses" "J" ∈ wsX0_restore := by decide +kernel
  have w2_ : Cond.methodLink RX0 124 Lib.MathLoose.min_long.x ∈ wsX0_restore := by decide +kernel
  have w3_ : Cond.static Lib.MathLoose.min_long.x ∈ wsX0_restore := by decide +kernel
  have w4_ : Cond.initialized "java/lang/Math" ∈ wsX0_restore := by decide +kernel
  have w5_ : Cond.code Lib.MathLoose.min_long.x Lib.MathLoose.min_long.code 4 (some .long) ∈ wsX0_restore := by decide +kernel
  show PW Z [(a, cC b c), (b, cS t)] L F 0 0 Q 0 [(0, .ref a), (1, .long x)] []
  refine pk_aload_n C 0 dX0_restore_0 rfl rfl (pc2 := 1) rfl ?_
  refine pk_dup C dX0_restore_1 rfl (pc2 := 2) rfl ?_
  refine pk_get (v := .long (C_al c)) C i0_ (pw_atX 0 rfl) (ci := 0) rfl 4 (by decide) w0_ rfl rfl dX0_restore_2 (pc2 := 5) rfl ?_
  refine pk_lload_n C 1 dX0_restore_5 rfl rfl (pc2 := 6) rfl ?_
  refine pk_lsub C dX0_restore_6 (pc2 := 7) rfl ?_
  refine pk_topl (fun n1_ en1_ => ?_)
  refine pk_putX (X' := [(a, kC b (C_me c) (C_ra c) (C_co c) n1_ (C_re c) (C_lo c) (C_rs c) (C_li c) (C_he c) (C_go c) (C_br c) (C_cu c) (C_lc c) (C_ac c)), (b, cS t)]) C i0_ tyX0_ok nmX0 0 rfl (ci := 0) rfl 4 (by decide) w0_ rfl rfl rfl rfl rfl (Nat.le_of_ble_eq_true rfl) rfl dX0_restore_7 (pc2 := 10) rfl ?_
  refine pk_aload_n C 0 dX0_restore_10 rfl rfl (pc2 := 11) rfl ?_
  refine pk_dup C dX0_restore_11 rfl (pc2 := 12) rfl ?_
  refine pk_get (v := .long (C_lo c)) C i0_ (pw_atX 0 rfl) (ci := 0) rfl 6 (by decide) w1_ rfl rfl dX0_restore_12 (pc2 := 15) rfl ?_
  refine pk_lload_n C 1 dX0_restore_15 rfl rfl (pc2 := 16) rfl ?_
  refine pk_aload_n C 0 dX0_restore_16 rfl rfl (pc2 := 17) rfl ?_
  refine pk_get (v := .long (C_lo c)) C i0_ (pw_atX 0 rfl) (ci := 0) rfl 6 (by decide) w1_ rfl rfl dX0_restore_17 (pc2 := 20) rfl ?_
  refine pk_minl (v := (jmin x (C_lo c))) C ⟨w2_, w3_, w4_, w5_⟩ (Nat.le_of_ble_eq_true rfl) (Nat.le_of_ble_eq_true rfl) (Nat.le_of_ble_eq_true rfl) (Nat.le_of_ble_eq_true rfl) dX0_restore_20 (pc2 := 23) rfl rfl ?_
  refine pk_lsub C dX0_restore_23 (pc2 := 24) rfl ?_
  refine pk_topl (fun n2_ en2_ => ?_)
  refine pk_putX (X' := [(a, kC b (C_me c) (C_ra c) (C_co c) n1_ (C_re c) n2_ (C_rs c) (C_li c) (C_he c) (C_go c) (C_br c) (C_cu c) (C_lc c) (C_ac c)), (b, cS t)]) C i0_ tyX0_ok nmX0 0 rfl (ci := 0) rfl 6 (by decide) w1_ rfl rfl rfl rfl rfl (Nat.le_of_ble_eq_true rfl) rfl dX0_restore_24 (pc2 := 27) rfl ?_
  refine pw_conv (X' := [(a, cC b (C_mk (C_me c) (C_ra c) (C_co c) n1_ (C_re c) n2_ (C_rs c) (C_li c) (C_he c) (C_go c) (C_br c) (C_cu c) (C_lc c) (C_ac c))), (b, cS t)]) rfl ?_
  subst en1_ en2_
  exact pr_void C hE (po_d_rfl rfl (by first | with_reducible rfl | (unfold m_X0_restore; with_reducible rfl))) dX0_restore_27
def m_X0_revalue (c : CR) (t : SR) (x : Int64) : CR :=
  if x ≤ (m_X0_book c t) then (C_mk (C_me (m_X0_lose c t ((m_X0_book c t) - x))) (C_ra (m_X0_lose c t ((m_X0_book c t) - x))) x 0 (C_re (m_X0_lose c t ((m_X0_book c t) - x))) (C_lo (m_X0_lose c t ((m_X0_book c t) - x))) (C_rs (m_X0_lose c t ((m_X0_book c t) - x))) (C_li (m_X0_lose c t ((m_X0_book c t) - x))) (C_he (m_X0_lose c t ((m_X0_book c t) - x))) (C_go (m_X0_lose c t ((m_X0_book c t) - x))) (C_br (m_X0_lose c t ((m_X0_book c t) - x))) (C_cu (m_X0_lose c t ((m_X0_book c t) - x))) (C_lc (m_X0_lose c t ((m_X0_book c t) - x))) (C_ac (m_X0_lose c t ((m_X0_book c t) - x)))) else (C_mk (C_me c) (C_ra c) x 0 ((C_re c) + (x - (m_X0_book c t))) (C_lo c) (C_rs c) (C_li c) (C_he c) (C_go c) (C_br c) (C_cu c) (C_lc c) (C_ac c))
set_option maxRecDepth 100000 in
set_option maxHeartbeats 2000000 in
theorem c_X0_revalue (l : Launch) (G : pw_G) (L : List Nat) (F : Nat → va_E) (a b : Nat) (c : CR) (t : SR) (x : Int64) : PM l yX0_revalue wsX0_revalue ⟨2, 0, 0, 39⟩ G [.ref a, .long x] [(a, cC b c), (b, cS t)] L F 0 0 (po_d none [(a, cC b (m_X0_revalue c t x)), (b, cS t)] L F) := by
  refine pm_entry (by decide) rfl rfl (Nat.le_of_ble_eq_true rfl) ?_
  intro Z Q C hl0 hG0 hnm hE
  subst hl0
  subst hG0
  have i0_ : ∀ w ∈ wsX00, w ∈ wsX0_revalue := by decide +kernel
  have w0_ : Cond.fieldLink RX0 33 "AgedAssets$Course" "cost" "J" ∈ wsX0_revalue := by decide +kernel
  have w1_ : Cond.fieldLink RX0 34 "AgedAssets$Course" "allowance" "J" ∈ wsX0_revalue := by decide +kernel
  have w2_ : Cond.fieldLink RX0 37 "AgedAssets$Course" "reserve" "J" ∈ wsX0_revalue := by decide +kernel
  show PW Z [(a, cC b c), (b, cS t)] L F 0 0 Q 0 [(0, .ref a), (1, .long x)] []
  refine pk_lload_n C 1 dX0_revalue_0 rfl rfl (pc2 := 1) rfl ?_
  refine pk_aload_n C 0 dX0_revalue_1 rfl rfl (pc2 := 2) rfl ?_
  refine pk_dV (cx := [(a, cC b c), (b, cS t)]) (wr := []) (X2 := [(a, cC b c), (b, cS t)]) (st := [.long x]) (st2 := [.long (m_X0_book c t), .long x]) (As := []) C (c_X0_book (zl Z) (zG Z) L F a b c t) gX0_revalue_X0_book rfl rfl rfl 0 (by decide +kernel) ⟨Nat.le_of_ble_eq_true rfl, Nat.le_of_ble_eq_true rfl⟩ (pw_atX 0 rfl) rfl rfl rfl (Nat.le_of_ble_eq_true rfl) ⟨Nat.le_of_ble_eq_true rfl, Nat.le_of_ble_eq_true rfl⟩ [0, 1] [] [0, 1] rfl rfl rfl rfl (by decide) rfl rfl dX0_revalue_2 (pc2 := 5) rfl rfl ?_
  refine pk_topl (fun n1_ en1_ => ?_)
  refine pk_lcmp_le (tgt := 27) C dX0_revalue_5 dX0_revalue_6 (pc1 := 6) rfl (by decide) (pc2 := 9) rfl (fun h1_ => ?_) (fun h1_ => ?_)
  ·
    refine pk_aload_n C 0 dX0_revalue_27 rfl rfl (pc2 := 28) rfl ?_
    refine pk_aload_n C 0 dX0_revalue_28 rfl rfl (pc2 := 29) rfl ?_
    refine pk_dV (cx := [(a, cC b c), (b, cS t)]) (wr := []) (X2 := [(a, cC b c), (b, cS t)]) (st := [.ref a]) (st2 := [.long (m_X0_book c t), .ref a]) (As := []) C (c_X0_book (zl Z) (zG Z) L F a b c t) gX0_revalue_X0_book rfl rfl rfl 0 (by decide +kernel) ⟨Nat.le_of_ble_eq_true rfl, Nat.le_of_ble_eq_true rfl⟩ (pw_atX 0 rfl) rfl rfl rfl (Nat.le_of_ble_eq_true rfl) ⟨Nat.le_of_ble_eq_true rfl, Nat.le_of_ble_eq_true rfl⟩ [0, 1] [] [0, 1] rfl rfl rfl rfl (by decide) rfl rfl dX0_revalue_29 (pc2 := 32) rfl rfl ?_
    refine pk_topl (fun n2_ en2_ => ?_)
    refine pk_lload_n C 1 dX0_revalue_32 rfl rfl (pc2 := 33) rfl ?_
    refine pk_lsub C dX0_revalue_33 (pc2 := 34) rfl ?_
    refine pk_dV (cx := [(a, cC b c), (b, cS t)]) (wr := []) (X2 := [(a, cC b (m_X0_lose c t (n2_ - x))), (b, cS t)]) (st := []) (st2 := []) (As := [.long (n2_ - x)]) C (c_X0_lose (zl Z) (zG Z) L F a b c t (n2_ - x)) gX0_revalue_X0_lose rfl rfl rfl 1 (by decide +kernel) ⟨Nat.le_of_ble_eq_true rfl, Nat.le_of_ble_eq_true rfl⟩ (pw_atX 0 rfl) rfl rfl rfl (Nat.le_of_ble_eq_true rfl) ⟨Nat.le_of_ble_eq_true rfl, Nat.le_of_ble_eq_true rfl⟩ [0, 1] [] [0, 1] rfl rfl rfl rfl (by decide) rfl rfl dX0_revalue_34 (pc2 := 37) rfl rfl ?_
    generalize en3_ : (m_X0_lose c t (n2_ - x)) = n3_
    refine pk_aload_n C 0 dX0_revalue_37 rfl rfl (pc2 := 38) rfl ?_
    refine pk_lload_n C 1 dX0_revalue_38 rfl rfl (pc2 := 39) rfl ?_
    refine pk_putX (X' := [(a, kC b (C_me n3_) (C_ra n3_) x (C_al n3_) (C_re n3_) (C_lo n3_) (C_rs n3_) (C_li n3_) (C_he n3_) (C_go n3_) (C_br n3_) (C_cu n3_) (C_lc n3_) (C_ac n3_)), (b, cS t)]) C i0_ tyX0_ok nmX0 0 rfl (ci := 0) rfl 3 (by decide) w0_ rfl rfl rfl rfl rfl (Nat.le_of_ble_eq_true rfl) rfl dX0_revalue_39 (pc2 := 42) rfl ?_
    refine pk_aload_n C 0 dX0_revalue_42 rfl rfl (pc2 := 43) rfl ?_
    refine pk_lconst (v := 0) C dX0_revalue_43 (by decide) (pc2 := 44) rfl ?_
    refine pk_putX (X' := [(a, kC b (C_me n3_) (C_ra n3_) x 0 (C_re n3_) (C_lo n3_) (C_rs n3_) (C_li n3_) (C_he n3_) (C_go n3_) (C_br n3_) (C_cu n3_) (C_lc n3_) (C_ac n3_)), (b, cS t)]) C i0_ tyX0_ok nmX0 0 rfl (ci := 0) rfl 4 (by decide) w1_ rfl rfl rfl rfl rfl (Nat.le_of_ble_eq_true rfl) rfl dX0_revalue_44 (pc2 := 47) rfl ?_
    refine pw_conv (X' := [(a, cC b (C_mk (C_me n3_) (C_ra n3_) x 0 (C_re n3_) (C_lo n3_) (C_rs n3_) (C_li n3_) (C_he n3_) (C_go n3_) (C_br n3_) (C_cu n3_) (C_lc n3_) (C_ac n3_))), (b, cS t)]) rfl ?_
    subst en1_ en2_ en3_
    exact pr_void C hE (po_d_rfl rfl (by first | with_reducible rfl | (unfold m_X0_revalue; rw [if_pos h1_]))) dX0_revalue_47
  ·
    refine pk_aload_n C 0 dX0_revalue_9 rfl rfl (pc2 := 10) rfl ?_
    refine pk_dup C dX0_revalue_10 rfl (pc2 := 11) rfl ?_
    refine pk_get (v := .long (C_re c)) C i0_ (pw_atX 0 rfl) (ci := 0) rfl 5 (by decide) w2_ rfl rfl dX0_revalue_11 (pc2 := 14) rfl ?_
    refine pk_lload_n C 1 dX0_revalue_14 rfl rfl (pc2 := 15) rfl ?_
    refine pk_aload_n C 0 dX0_revalue_15 rfl rfl (pc2 := 16) rfl ?_
    refine pk_dV (cx := [(a, cC b c), (b, cS t)]) (wr := []) (X2 := [(a, cC b c), (b, cS t)]) (st := [.long x, .long (C_re c), .ref a]) (st2 := [.long (m_X0_book c t), .long x, .long (C_re c), .ref a]) (As := []) C (c_X0_book (zl Z) (zG Z) L F a b c t) gX0_revalue_X0_book rfl rfl rfl 0 (by decide +kernel) ⟨Nat.le_of_ble_eq_true rfl, Nat.le_of_ble_eq_true rfl⟩ (pw_atX 0 rfl) rfl rfl rfl (Nat.le_of_ble_eq_true rfl) ⟨Nat.le_of_ble_eq_true rfl, Nat.le_of_ble_eq_true rfl⟩ [0, 1] [] [0, 1] rfl rfl rfl rfl (by decide) rfl rfl dX0_revalue_16 (pc2 := 19) rfl rfl ?_
    refine pk_topl (fun n4_ en4_ => ?_)
    refine pk_lsub C dX0_revalue_19 (pc2 := 20) rfl ?_
    refine pk_ladd C dX0_revalue_20 (pc2 := 21) rfl ?_
    refine pk_topl (fun n5_ en5_ => ?_)
    refine pk_putX (X' := [(a, kC b (C_me c) (C_ra c) (C_co c) (C_al c) n5_ (C_lo c) (C_rs c) (C_li c) (C_he c) (C_go c) (C_br c) (C_cu c) (C_lc c) (C_ac c)), (b, cS t)]) C i0_ tyX0_ok nmX0 0 rfl (ci := 0) rfl 5 (by decide) w2_ rfl rfl rfl rfl rfl (Nat.le_of_ble_eq_true rfl) rfl dX0_revalue_21 (pc2 := 24) rfl ?_
    refine pk_goto (tgt := 37) C dX0_revalue_24 (by decide) ?_
    refine pk_aload_n C 0 dX0_revalue_37 rfl rfl (pc2 := 38) rfl ?_
    refine pk_lload_n C 1 dX0_revalue_38 rfl rfl (pc2 := 39) rfl ?_
    refine pk_putX (X' := [(a, kC b (C_me c) (C_ra c) x (C_al c) n5_ (C_lo c) (C_rs c) (C_li c) (C_he c) (C_go c) (C_br c) (C_cu c) (C_lc c) (C_ac c)), (b, cS t)]) C i0_ tyX0_ok nmX0 0 rfl (ci := 0) rfl 3 (by decide) w0_ rfl rfl rfl rfl rfl (Nat.le_of_ble_eq_true rfl) rfl dX0_revalue_39 (pc2 := 42) rfl ?_
    refine pk_aload_n C 0 dX0_revalue_42 rfl rfl (pc2 := 43) rfl ?_
    refine pk_lconst (v := 0) C dX0_revalue_43 (by decide) (pc2 := 44) rfl ?_
    refine pk_putX (X' := [(a, kC b (C_me c) (C_ra c) x 0 n5_ (C_lo c) (C_rs c) (C_li c) (C_he c) (C_go c) (C_br c) (C_cu c) (C_lc c) (C_ac c)), (b, cS t)]) C i0_ tyX0_ok nmX0 0 rfl (ci := 0) rfl 4 (by decide) w1_ rfl rfl rfl rfl rfl (Nat.le_of_ble_eq_true rfl) rfl dX0_revalue_44 (pc2 := 47) rfl ?_
    refine pw_conv (X' := [(a, cC b (C_mk (C_me c) (C_ra c) x 0 n5_ (C_lo c) (C_rs c) (C_li c) (C_he c) (C_go c) (C_br c) (C_cu c) (C_lc c) (C_ac c))), (b, cS t)]) rfl ?_
    subst en1_ en4_ en5_
    exact pr_void C hE (po_d_rfl rfl (by first | with_reducible rfl | (unfold m_X0_revalue; rw [if_neg h1_]))) dX0_revalue_47
end
section
def m_X0_sell (c : CR) (t : SR) (mi : Int32) : CR :=
  if mi = (1000000) then (C_mk (C_me c) (C_ra c) ((C_co c) - (m_X4_rounded ((C_co c) * (Int32.toInt64 mi)) (1000000))) ((C_al c) - (m_X4_rounded ((C_al c) * (Int32.toInt64 mi)) (1000000))) ((C_re c) - (m_X4_rounded ((C_re c) * (Int32.toInt64 mi)) (1000000))) (C_lo c) ((C_rs c) - (m_X4_rounded ((C_rs c) * (Int32.toInt64 mi)) (1000000))) (C_li c) (C_he c) 1 (C_br c) (C_cu c) (C_lc c) (C_ac c)) else (C_mk (C_me c) (C_ra c) ((C_co c) - (m_X4_rounded ((C_co c) * (Int32.toInt64 mi)) (1000000))) ((C_al c) - (m_X4_rounded ((C_al c) * (Int32.toInt64 mi)) (1000000))) ((C_re c) - (m_X4_rounded ((C_re c) * (Int32.toInt64 mi)) (1000000))) (C_lo c) ((C_rs c) - (m_X4_rounded ((C_rs c) * (Int32.toInt64 mi)) (1000000))) (C_li c) (C_he c) 0 (C_br c) (C_cu c) (C_lc c) (C_ac c))
set_option maxRecDepth 100000 in
set_option maxHeartbeats 2000000 in
theorem c_X0_sell (l : Launch) (G : pw_G) (L : List Nat) (F : Nat → va_E) (a b : Nat) (c : CR) (t : SR) (mi : Int32) : PM l yX0_sell wsX0_sell ⟨1, 0, 0, 23⟩ G [.ref a, .int mi] [(a, cC b c), (b, cS t)] L F 0 0 (po_d none [(a, cC b (m_X0_sell c t mi)), (b, cS t)] L F) := by
  refine pm_entry (by decide) rfl rfl (Nat.le_of_ble_eq_true rfl) ?_
  intro Z Q C hl0 hG0 hnm hE
  subst hl0
  subst hG0
  have i0_ : ∀ w ∈ wsX00, w ∈ wsX0_sell := by decide +kernel
  have w0_ : Cond.fieldLink RX0 33 "AgedAssets$Course" "cost" "J" ∈ wsX0_sell := by decide +kernel
  have w1_ : Cond.constantLong RX0 130 (1000000) ∈ wsX0_sell := by decide +kernel
  have w2_ : Cond.methodLinkNest RX0 132 yX4_rounded RX4 ∈ pw_N := by decide +kernel
  have w3_ : Cond.static yX4_rounded ∈ wsX0_sell := by decide +kernel
  have w4_ : Cond.initialized RX4 ∈ wsX0_sell := by decide +kernel
  have w5_ : Cond.fieldLink RX0 34 "AgedAssets$Course" "allowance" "J" ∈ wsX0_sell := by decide +kernel
  have w6_ : Cond.fieldLink RX0 37 "AgedAssets$Course" "reserve" "J" ∈ wsX0_sell := by decide +kernel
  have w7_ : Cond.fieldLink RX0 46 "AgedAssets$Course" "residual" "J" ∈ wsX0_sell := by decide +kernel
  have w8_ : Cond.constant RX0 135 (1000000) ∈ wsX0_sell := by decide +kernel
  have w9_ : Cond.fieldLink RX0 57 "AgedAssets$Course" "gone" "Z" ∈ wsX0_sell := by decide +kernel
  show PW Z [(a, cC b c), (b, cS t)] L F 0 0 Q 0 [(0, .ref a), (1, .int mi)] []
  refine pk_aload_n C 0 dX0_sell_0 rfl rfl (pc2 := 1) rfl ?_
  refine pk_dup C dX0_sell_1 rfl (pc2 := 2) rfl ?_
  refine pk_get (v := .long (C_co c)) C i0_ (pw_atX 0 rfl) (ci := 0) rfl 3 (by decide) w0_ rfl rfl dX0_sell_2 (pc2 := 5) rfl ?_
  refine pk_aload_n C 0 dX0_sell_5 rfl rfl (pc2 := 6) rfl ?_
  refine pk_get (v := .long (C_co c)) C i0_ (pw_atX 0 rfl) (ci := 0) rfl 3 (by decide) w0_ rfl rfl dX0_sell_6 (pc2 := 9) rfl ?_
  refine pk_iload_n C 1 dX0_sell_9 rfl rfl (pc2 := 10) rfl ?_
  refine pk_i2l C dX0_sell_10 (pc2 := 11) rfl ?_
  refine pk_lmul C dX0_sell_11 (pc2 := 12) rfl ?_
  refine pk_ldc2 C w1_ dX0_sell_12 (pc2 := 15) rfl ?_
  refine pk_dSN (cx := []) (wr := [(a, cC b c), (b, cS t)]) (X2 := [(a, cC b c), (b, cS t)]) (st := [.long (C_co c), .ref a]) (st2 := [.long (m_X4_rounded ((C_co c) * (Int32.toInt64 mi)) (1000000)), .long (C_co c), .ref a]) (As := [.long ((C_co c) * (Int32.toInt64 mi)), .long (1000000)]) C (c_X4_rounded (zl Z) (zG Z) L F ((C_co c) * (Int32.toInt64 mi)) (1000000)) gX0_sell_X4_rounded_n132 rfl w2_ w3_ w4_ rfl rfl 2 (by decide +kernel) ⟨Nat.le_of_ble_eq_true rfl, Nat.le_of_ble_eq_true rfl⟩ rfl rfl (Nat.le_of_ble_eq_true rfl) ⟨Nat.le_of_ble_eq_true rfl, Nat.le_of_ble_eq_true rfl⟩ [] [0, 1] [0, 1] rfl rfl rfl rfl (by decide) rfl rfl dX0_sell_15 (pc2 := 18) rfl rfl ?_
  refine pk_topl (fun n1_ en1_ => ?_)
  refine pk_lsub C dX0_sell_18 (pc2 := 19) rfl ?_
  refine pk_topl (fun n2_ en2_ => ?_)
  refine pk_putX (X' := [(a, kC b (C_me c) (C_ra c) n2_ (C_al c) (C_re c) (C_lo c) (C_rs c) (C_li c) (C_he c) (C_go c) (C_br c) (C_cu c) (C_lc c) (C_ac c)), (b, cS t)]) C i0_ tyX0_ok nmX0 0 rfl (ci := 0) rfl 3 (by decide) w0_ rfl rfl rfl rfl rfl (Nat.le_of_ble_eq_true rfl) rfl dX0_sell_19 (pc2 := 22) rfl ?_
  refine pk_aload_n C 0 dX0_sell_22 rfl rfl (pc2 := 23) rfl ?_
  refine pk_dup C dX0_sell_23 rfl (pc2 := 24) rfl ?_
  refine pk_get (v := .long (C_al c)) C i0_ (pw_atX 0 rfl) (ci := 0) rfl 4 (by decide) w5_ rfl rfl dX0_sell_24 (pc2 := 27) rfl ?_
  refine pk_aload_n C 0 dX0_sell_27 rfl rfl (pc2 := 28) rfl ?_
  refine pk_get (v := .long (C_al c)) C i0_ (pw_atX 0 rfl) (ci := 0) rfl 4 (by decide) w5_ rfl rfl dX0_sell_28 (pc2 := 31) rfl ?_
  refine pk_iload_n C 1 dX0_sell_31 rfl rfl (pc2 := 32) rfl ?_
  refine pk_i2l C dX0_sell_32 (pc2 := 33) rfl ?_
  refine pk_lmul C dX0_sell_33 (pc2 := 34) rfl ?_
  refine pk_ldc2 C w1_ dX0_sell_34 (pc2 := 37) rfl ?_
  refine pk_dSN (cx := []) (wr := [(a, kC b (C_me c) (C_ra c) n2_ (C_al c) (C_re c) (C_lo c) (C_rs c) (C_li c) (C_he c) (C_go c) (C_br c) (C_cu c) (C_lc c) (C_ac c)), (b, cS t)]) (X2 := [(a, kC b (C_me c) (C_ra c) n2_ (C_al c) (C_re c) (C_lo c) (C_rs c) (C_li c) (C_he c) (C_go c) (C_br c) (C_cu c) (C_lc c) (C_ac c)), (b, cS t)]) (st := [.long (C_al c), .ref a]) (st2 := [.long (m_X4_rounded ((C_al c) * (Int32.toInt64 mi)) (1000000)), .long (C_al c), .ref a]) (As := [.long ((C_al c) * (Int32.toInt64 mi)), .long (1000000)]) C (c_X4_rounded (zl Z) (zG Z) L F ((C_al c) * (Int32.toInt64 mi)) (1000000)) gX0_sell_X4_rounded_n132 rfl w2_ w3_ w4_ rfl rfl 2 (by decide +kernel) ⟨Nat.le_of_ble_eq_true rfl, Nat.le_of_ble_eq_true rfl⟩ rfl rfl (Nat.le_of_ble_eq_true rfl) ⟨Nat.le_of_ble_eq_true rfl, Nat.le_of_ble_eq_true rfl⟩ [] [0, 1] [0, 1] rfl rfl rfl rfl (by decide) rfl rfl dX0_sell_37 (pc2 := 40) rfl rfl ?_
  refine pk_topl (fun n3_ en3_ => ?_)
  refine pk_lsub C dX0_sell_40 (pc2 := 41) rfl ?_
  refine pk_topl (fun n4_ en4_ => ?_)
  refine pk_putX (X' := [(a, kC b (C_me c) (C_ra c) n2_ n4_ (C_re c) (C_lo c) (C_rs c) (C_li c) (C_he c) (C_go c) (C_br c) (C_cu c) (C_lc c) (C_ac c)), (b, cS t)]) C i0_ tyX0_ok nmX0 0 rfl (ci := 0) rfl 4 (by decide) w5_ rfl rfl rfl rfl rfl (Nat.le_of_ble_eq_true rfl) rfl dX0_sell_41 (pc2 := 44) rfl ?_
  refine pk_aload_n C 0 dX0_sell_44 rfl rfl (pc2 := 45) rfl ?_
  refine pk_dup C dX0_sell_45 rfl (pc2 := 46) rfl ?_
  refine pk_get (v := .long (C_re c)) C i0_ (pw_atX 0 rfl) (ci := 0) rfl 5 (by decide) w6_ rfl rfl dX0_sell_46 (pc2 := 49) rfl ?_
  refine pk_aload_n C 0 dX0_sell_49 rfl rfl (pc2 := 50) rfl ?_
  refine pk_get (v := .long (C_re c)) C i0_ (pw_atX 0 rfl) (ci := 0) rfl 5 (by decide) w6_ rfl rfl dX0_sell_50 (pc2 := 53) rfl ?_
  refine pk_iload_n C 1 dX0_sell_53 rfl rfl (pc2 := 54) rfl ?_
  refine pk_i2l C dX0_sell_54 (pc2 := 55) rfl ?_
  refine pk_lmul C dX0_sell_55 (pc2 := 56) rfl ?_
  refine pk_ldc2 C w1_ dX0_sell_56 (pc2 := 59) rfl ?_
  refine pk_dSN (cx := []) (wr := [(a, kC b (C_me c) (C_ra c) n2_ n4_ (C_re c) (C_lo c) (C_rs c) (C_li c) (C_he c) (C_go c) (C_br c) (C_cu c) (C_lc c) (C_ac c)), (b, cS t)]) (X2 := [(a, kC b (C_me c) (C_ra c) n2_ n4_ (C_re c) (C_lo c) (C_rs c) (C_li c) (C_he c) (C_go c) (C_br c) (C_cu c) (C_lc c) (C_ac c)), (b, cS t)]) (st := [.long (C_re c), .ref a]) (st2 := [.long (m_X4_rounded ((C_re c) * (Int32.toInt64 mi)) (1000000)), .long (C_re c), .ref a]) (As := [.long ((C_re c) * (Int32.toInt64 mi)), .long (1000000)]) C (c_X4_rounded (zl Z) (zG Z) L F ((C_re c) * (Int32.toInt64 mi)) (1000000)) gX0_sell_X4_rounded_n132 rfl w2_ w3_ w4_ rfl rfl 2 (by decide +kernel) ⟨Nat.le_of_ble_eq_true rfl, Nat.le_of_ble_eq_true rfl⟩ rfl rfl (Nat.le_of_ble_eq_true rfl) ⟨Nat.le_of_ble_eq_true rfl, Nat.le_of_ble_eq_true rfl⟩ [] [0, 1] [0, 1] rfl rfl rfl rfl (by decide) rfl rfl dX0_sell_59 (pc2 := 62) rfl rfl ?_
  refine pk_topl (fun n5_ en5_ => ?_)
  refine pk_lsub C dX0_sell_62 (pc2 := 63) rfl ?_
  refine pk_topl (fun n6_ en6_ => ?_)
  refine pk_putX (X' := [(a, kC b (C_me c) (C_ra c) n2_ n4_ n6_ (C_lo c) (C_rs c) (C_li c) (C_he c) (C_go c) (C_br c) (C_cu c) (C_lc c) (C_ac c)), (b, cS t)]) C i0_ tyX0_ok nmX0 0 rfl (ci := 0) rfl 5 (by decide) w6_ rfl rfl rfl rfl rfl (Nat.le_of_ble_eq_true rfl) rfl dX0_sell_63 (pc2 := 66) rfl ?_
  refine pk_aload_n C 0 dX0_sell_66 rfl rfl (pc2 := 67) rfl ?_
  refine pk_dup C dX0_sell_67 rfl (pc2 := 68) rfl ?_
  refine pk_get (v := .long (C_rs c)) C i0_ (pw_atX 0 rfl) (ci := 0) rfl 7 (by decide) w7_ rfl rfl dX0_sell_68 (pc2 := 71) rfl ?_
  refine pk_aload_n C 0 dX0_sell_71 rfl rfl (pc2 := 72) rfl ?_
  refine pk_get (v := .long (C_rs c)) C i0_ (pw_atX 0 rfl) (ci := 0) rfl 7 (by decide) w7_ rfl rfl dX0_sell_72 (pc2 := 75) rfl ?_
  refine pk_iload_n C 1 dX0_sell_75 rfl rfl (pc2 := 76) rfl ?_
  refine pk_i2l C dX0_sell_76 (pc2 := 77) rfl ?_
  refine pk_lmul C dX0_sell_77 (pc2 := 78) rfl ?_
  refine pk_ldc2 C w1_ dX0_sell_78 (pc2 := 81) rfl ?_
  refine pk_dSN (cx := []) (wr := [(a, kC b (C_me c) (C_ra c) n2_ n4_ n6_ (C_lo c) (C_rs c) (C_li c) (C_he c) (C_go c) (C_br c) (C_cu c) (C_lc c) (C_ac c)), (b, cS t)]) (X2 := [(a, kC b (C_me c) (C_ra c) n2_ n4_ n6_ (C_lo c) (C_rs c) (C_li c) (C_he c) (C_go c) (C_br c) (C_cu c) (C_lc c) (C_ac c)), (b, cS t)]) (st := [.long (C_rs c), .ref a]) (st2 := [.long (m_X4_rounded ((C_rs c) * (Int32.toInt64 mi)) (1000000)), .long (C_rs c), .ref a]) (As := [.long ((C_rs c) * (Int32.toInt64 mi)), .long (1000000)]) C (c_X4_rounded (zl Z) (zG Z) L F ((C_rs c) * (Int32.toInt64 mi)) (1000000)) gX0_sell_X4_rounded_n132 rfl w2_ w3_ w4_ rfl rfl 2 (by decide +kernel) ⟨Nat.le_of_ble_eq_true rfl, Nat.le_of_ble_eq_true rfl⟩ rfl rfl (Nat.le_of_ble_eq_true rfl) ⟨Nat.le_of_ble_eq_true rfl, Nat.le_of_ble_eq_true rfl⟩ [] [0, 1] [0, 1] rfl rfl rfl rfl (by decide) rfl rfl dX0_sell_81 (pc2 := 84) rfl rfl ?_
  refine pk_topl (fun n7_ en7_ => ?_)
  refine pk_lsub C dX0_sell_84 (pc2 := 85) rfl ?_
  refine pk_topl (fun n8_ en8_ => ?_)
  refine pk_putX (X' := [(a, kC b (C_me c) (C_ra c) n2_ n4_ n6_ (C_lo c) n8_ (C_li c) (C_he c) (C_go c) (C_br c) (C_cu c) (C_lc c) (C_ac c)), (b, cS t)]) C i0_ tyX0_ok nmX0 0 rfl (ci := 0) rfl 7 (by decide) w7_ rfl rfl rfl rfl rfl (Nat.le_of_ble_eq_true rfl) rfl dX0_sell_85 (pc2 := 88) rfl ?_
  refine pk_aload_n C 0 dX0_sell_88 rfl rfl (pc2 := 89) rfl ?_
  refine pk_iload_n C 1 dX0_sell_89 rfl rfl (pc2 := 90) rfl ?_
  refine pk_ldc C w8_ dX0_sell_90 (pc2 := 92) rfl ?_
  refine pk_icmp_ne (tgt := 99) C dX0_sell_92 (by decide) (pc2 := 95) rfl (fun h1_ => ?_) (fun h1_ => ?_)
  ·
    refine pk_iconst (v := 0) C dX0_sell_99 (by decide) (pc2 := 100) rfl ?_
    refine pk_putX (X' := [(a, kC b (C_me c) (C_ra c) n2_ n4_ n6_ (C_lo c) n8_ (C_li c) (C_he c) 0 (C_br c) (C_cu c) (C_lc c) (C_ac c)), (b, cS t)]) C i0_ tyX0_ok nmX0 0 rfl (ci := 0) rfl 10 (by decide) w9_ rfl rfl rfl rfl rfl (Nat.le_of_ble_eq_true rfl) rfl dX0_sell_100 (pc2 := 103) rfl ?_
    refine pw_conv (X' := [(a, cC b (C_mk (C_me c) (C_ra c) n2_ n4_ n6_ (C_lo c) n8_ (C_li c) (C_he c) 0 (C_br c) (C_cu c) (C_lc c) (C_ac c))), (b, cS t)]) rfl ?_
    subst en1_ en2_ en3_ en4_ en5_ en6_ en7_ en8_
    exact pr_void C hE (po_d_rfl rfl (by first | with_reducible rfl | (unfold m_X0_sell; rw [if_neg h1_]))) dX0_sell_103
  ·
    refine pk_iconst (v := 1) C dX0_sell_95 (by decide) (pc2 := 96) rfl ?_
    refine pk_goto (tgt := 100) C dX0_sell_96 (by decide) ?_
    refine pk_putX (X' := [(a, kC b (C_me c) (C_ra c) n2_ n4_ n6_ (C_lo c) n8_ (C_li c) (C_he c) 1 (C_br c) (C_cu c) (C_lc c) (C_ac c)), (b, cS t)]) C i0_ tyX0_ok nmX0 0 rfl (ci := 0) rfl 10 (by decide) w9_ rfl rfl rfl rfl rfl (Nat.le_of_ble_eq_true rfl) rfl dX0_sell_100 (pc2 := 103) rfl ?_
    refine pw_conv (X' := [(a, cC b (C_mk (C_me c) (C_ra c) n2_ n4_ n6_ (C_lo c) n8_ (C_li c) (C_he c) 1 (C_br c) (C_cu c) (C_lc c) (C_ac c))), (b, cS t)]) rfl ?_
    subst en1_ en2_ en3_ en4_ en5_ en6_ en7_ en8_
    exact pr_void C hE (po_d_rfl rfl (by first | with_reducible rfl | (unfold m_X0_sell; rw [if_pos h1_]))) dX0_sell_103
def m_X0_beginStretch (c : CR) (t : SR) : SR :=
  (m_X3_begin t (jmax 0 ((m_X0_book c t) - (C_rs c))) (Int32.toInt64 (C_li c)) (jmax 0 ((Int32.toInt64 (C_ra c)) - (C_cu c))))
set_option maxRecDepth 100000 in
set_option maxHeartbeats 2000000 in
theorem c_X0_beginStretch (l : Launch) (G : pw_G) (L : List Nat) (F : Nat → va_E) (a b : Nat) (c : CR) (t : SR) : PM l yX0_beginStretch wsX0_beginStretch ⟨1, 0, 0, 26⟩ G [.ref a] [(a, cC b c), (b, cS t)] L F 0 0 (po_d none [(a, cC b c), (b, cS (m_X0_beginStretch c t))] L F) := by
  refine pm_entry (by decide) rfl rfl (Nat.le_of_ble_eq_true rfl) ?_
  intro Z Q C hl0 hG0 hnm hE
  subst hl0
  subst hG0
  have i0_ : ∀ w ∈ wsX00, w ∈ wsX0_beginStretch := by decide +kernel
  have w0_ : Cond.fieldLink RX0 12 "AgedAssets$Course" "stretch" "LAgedAssets$Stretch;" ∈ wsX0_beginStretch := by decide +kernel
  have w1_ : Cond.fieldLink RX0 46 "AgedAssets$Course" "residual" "J" ∈ wsX0_beginStretch := by decide +kernel
  have w2_ : Cond.methodLink RX0 136 Lib.MathLoose.max_long.x ∈ wsX0_beginStretch := by decide +kernel
  have w3_ : Cond.static Lib.MathLoose.max_long.x ∈ wsX0_beginStretch := by decide +kernel
  have w4_ : Cond.initialized "java/lang/Math" ∈ wsX0_beginStretch := by decide +kernel
  have w5_ : Cond.code Lib.MathLoose.max_long.x Lib.MathLoose.max_long.code 4 (some .long) ∈ wsX0_beginStretch := by decide +kernel
  have w6_ : Cond.fieldLink RX0 50 "AgedAssets$Course" "restOfLife" "I" ∈ wsX0_beginStretch := by decide +kernel
  have w7_ : Cond.fieldLink RX0 28 "AgedAssets$Course" "rate" "I" ∈ wsX0_beginStretch := by decide +kernel
  have w8_ : Cond.fieldLink RX0 63 "AgedAssets$Course" "chargedUnits" "J" ∈ wsX0_beginStretch := by decide +kernel
  show PW Z [(a, cC b c), (b, cS t)] L F 0 0 Q 0 [(0, .ref a)] []
  refine pk_aload_n C 0 dX0_beginStretch_0 rfl rfl (pc2 := 1) rfl ?_
  refine pk_get (v := .ref b) C i0_ (pw_atX 0 rfl) (ci := 0) rfl 0 (by decide) w0_ rfl rfl dX0_beginStretch_1 (pc2 := 4) rfl ?_
  refine pk_lconst (v := 0) C dX0_beginStretch_4 (by decide) (pc2 := 5) rfl ?_
  refine pk_aload_n C 0 dX0_beginStretch_5 rfl rfl (pc2 := 6) rfl ?_
  refine pk_dV (cx := [(a, cC b c), (b, cS t)]) (wr := []) (X2 := [(a, cC b c), (b, cS t)]) (st := [.long 0, .ref b]) (st2 := [.long (m_X0_book c t), .long 0, .ref b]) (As := []) C (c_X0_book (zl Z) (zG Z) L F a b c t) gX0_beginStretch_X0_book rfl rfl rfl 0 (by decide +kernel) ⟨Nat.le_of_ble_eq_true rfl, Nat.le_of_ble_eq_true rfl⟩ (pw_atX 0 rfl) rfl rfl rfl (Nat.le_of_ble_eq_true rfl) ⟨Nat.le_of_ble_eq_true rfl, Nat.le_of_ble_eq_true rfl⟩ [0, 1] [] [0, 1] rfl rfl rfl rfl (by decide) rfl rfl dX0_beginStretch_6 (pc2 := 9) rfl rfl ?_
  refine pk_topl (fun n1_ en1_ => ?_)
  refine pk_aload_n C 0 dX0_beginStretch_9 rfl rfl (pc2 := 10) rfl ?_
  refine pk_get (v := .long (C_rs c)) C i0_ (pw_atX 0 rfl) (ci := 0) rfl 7 (by decide) w1_ rfl rfl dX0_beginStretch_10 (pc2 := 13) rfl ?_
  refine pk_lsub C dX0_beginStretch_13 (pc2 := 14) rfl ?_
  refine pk_maxl (v := (jmax 0 (n1_ - (C_rs c)))) C ⟨w2_, w3_, w4_, w5_⟩ (Nat.le_of_ble_eq_true rfl) (Nat.le_of_ble_eq_true rfl) (Nat.le_of_ble_eq_true rfl) (Nat.le_of_ble_eq_true rfl) dX0_beginStretch_14 (pc2 := 17) rfl rfl ?_
  refine pk_aload_n C 0 dX0_beginStretch_17 rfl rfl (pc2 := 18) rfl ?_
  refine pk_get (v := .int (C_li c)) C i0_ (pw_atX 0 rfl) (ci := 0) rfl 8 (by decide) w6_ rfl rfl dX0_beginStretch_18 (pc2 := 21) rfl ?_
  refine pk_i2l C dX0_beginStretch_21 (pc2 := 22) rfl ?_
  refine pk_lconst (v := 0) C dX0_beginStretch_22 (by decide) (pc2 := 23) rfl ?_
  refine pk_aload_n C 0 dX0_beginStretch_23 rfl rfl (pc2 := 24) rfl ?_
  refine pk_get (v := .int (C_ra c)) C i0_ (pw_atX 0 rfl) (ci := 0) rfl 2 (by decide) w7_ rfl rfl dX0_beginStretch_24 (pc2 := 27) rfl ?_
  refine pk_i2l C dX0_beginStretch_27 (pc2 := 28) rfl ?_
  refine pk_aload_n C 0 dX0_beginStretch_28 rfl rfl (pc2 := 29) rfl ?_
  refine pk_get (v := .long (C_cu c)) C i0_ (pw_atX 0 rfl) (ci := 0) rfl 12 (by decide) w8_ rfl rfl dX0_beginStretch_29 (pc2 := 32) rfl ?_
  refine pk_lsub C dX0_beginStretch_32 (pc2 := 33) rfl ?_
  refine pk_maxl (v := (jmax 0 ((Int32.toInt64 (C_ra c)) - (C_cu c)))) C ⟨w2_, w3_, w4_, w5_⟩ (Nat.le_of_ble_eq_true rfl) (Nat.le_of_ble_eq_true rfl) (Nat.le_of_ble_eq_true rfl) (Nat.le_of_ble_eq_true rfl) dX0_beginStretch_33 (pc2 := 36) rfl rfl ?_
  refine pk_dV (cx := [(b, cS t)]) (wr := [(a, cC b c)]) (X2 := [(a, cC b c), (b, cS (m_X3_begin t (jmax 0 (n1_ - (C_rs c))) (Int32.toInt64 (C_li c)) (jmax 0 ((Int32.toInt64 (C_ra c)) - (C_cu c)))))]) (st := []) (st2 := []) (As := [.long (jmax 0 (n1_ - (C_rs c))), .long (Int32.toInt64 (C_li c)), .long (jmax 0 ((Int32.toInt64 (C_ra c)) - (C_cu c)))]) C (c_X3_begin (zl Z) (zG Z) L F b t (jmax 0 (n1_ - (C_rs c))) (Int32.toInt64 (C_li c)) (jmax 0 ((Int32.toInt64 (C_ra c)) - (C_cu c)))) gX0_beginStretch_X3_begin rfl rfl rfl 3 (by decide +kernel) ⟨Nat.le_of_ble_eq_true rfl, Nat.le_of_ble_eq_true rfl⟩ (pw_atX 1 rfl) rfl rfl rfl (Nat.le_of_ble_eq_true rfl) ⟨Nat.le_of_ble_eq_true rfl, Nat.le_of_ble_eq_true rfl⟩ [1] [0] [0, 1] rfl rfl rfl rfl (by decide) rfl rfl dX0_beginStretch_36 (pc2 := 39) rfl rfl ?_
  generalize en2_ : (m_X3_begin t (jmax 0 (n1_ - (C_rs c))) (Int32.toInt64 (C_li c)) (jmax 0 ((Int32.toInt64 (C_ra c)) - (C_cu c)))) = n2_
  subst en1_ en2_
  exact pr_void C hE (po_d_rfl rfl (by first | with_reducible rfl | (unfold m_X0_beginStretch; with_reducible rfl))) dX0_beginStretch_39
def m_X0_decliningCharge (c : CR) (t : SR) : Int64 :=
  if 0 < ((m_X0_book c t) - (C_rs c)) then if (C_li c) = 1 then ((m_X0_book c t) - (C_rs c)) else (jmin ((m_X0_book c t) - (C_rs c)) (jmax (m_X4_rounded ((m_X0_book c t) * (Int32.toInt64 (C_ra c))) (1000000)) (m_X4_rounded ((m_X0_book c t) - (C_rs c)) (Int32.toInt64 (C_li c))))) else 0
set_option maxRecDepth 100000 in
set_option maxHeartbeats 2000000 in
theorem c_X0_decliningCharge (l : Launch) (G : pw_G) (L : List Nat) (F : Nat → va_E) (a b : Nat) (c : CR) (t : SR) : PM l yX0_decliningCharge wsX0_decliningCharge ⟨1, 0, 0, 23⟩ G [.ref a] [(a, cC b c), (b, cS t)] L F 0 0 (po_d (some (.long (m_X0_decliningCharge c t))) [(a, cC b c), (b, cS t)] L F) := by
  refine pm_entry (by decide) rfl rfl (Nat.le_of_ble_eq_true rfl) ?_
  intro Z Q C hl0 hG0 hnm hE
  subst hl0
  subst hG0
  have i0_ : ∀ w ∈ wsX00, w ∈ wsX0_decliningCharge := by decide +kernel
  have w0_ : Cond.fieldLink RX0 46 "AgedAssets$Course" "residual" "J" ∈ wsX0_decliningCharge := by decide +kernel
  have w1_ : Cond.fieldLink RX0 50 "AgedAssets$Course" "restOfLife" "I" ∈ wsX0_decliningCharge := by decide +kernel
  have w2_ : Cond.fieldLink RX0 28 "AgedAssets$Course" "rate" "I" ∈ wsX0_decliningCharge := by decide +kernel
  have w3_ : Cond.constantLong RX0 130 (1000000) ∈ wsX0_decliningCharge := by decide +kernel
  have w4_ : Cond.methodLinkNest RX0 132 yX4_rounded RX4 ∈ pw_N := by decide +kernel
  have w5_ : Cond.static yX4_rounded ∈ wsX0_decliningCharge := by decide +kernel
  have w6_ : Cond.initialized RX4 ∈ wsX0_decliningCharge := by decide +kernel
  have w7_ : Cond.methodLink RX0 136 Lib.MathLoose.max_long.x ∈ wsX0_decliningCharge := by decide +kernel
  have w8_ : Cond.static Lib.MathLoose.max_long.x ∈ wsX0_decliningCharge := by decide +kernel
  have w9_ : Cond.initialized "java/lang/Math" ∈ wsX0_decliningCharge := by decide +kernel
  have w10_ : Cond.code Lib.MathLoose.max_long.x Lib.MathLoose.max_long.code 4 (some .long) ∈ wsX0_decliningCharge := by decide +kernel
  have w11_ : Cond.methodLink RX0 124 Lib.MathLoose.min_long.x ∈ wsX0_decliningCharge := by decide +kernel
  have w12_ : Cond.static Lib.MathLoose.min_long.x ∈ wsX0_decliningCharge := by decide +kernel
  have w13_ : Cond.code Lib.MathLoose.min_long.x Lib.MathLoose.min_long.code 4 (some .long) ∈ wsX0_decliningCharge := by decide +kernel
  show PW Z [(a, cC b c), (b, cS t)] L F 0 0 Q 0 [(0, .ref a)] []
  refine pk_aload_n C 0 dX0_decliningCharge_0 rfl rfl (pc2 := 1) rfl ?_
  refine pk_dV (cx := [(a, cC b c), (b, cS t)]) (wr := []) (X2 := [(a, cC b c), (b, cS t)]) (st := []) (st2 := [.long (m_X0_book c t)]) (As := []) C (c_X0_book (zl Z) (zG Z) L F a b c t) gX0_decliningCharge_X0_book rfl rfl rfl 0 (by decide +kernel) ⟨Nat.le_of_ble_eq_true rfl, Nat.le_of_ble_eq_true rfl⟩ (pw_atX 0 rfl) rfl rfl rfl (Nat.le_of_ble_eq_true rfl) ⟨Nat.le_of_ble_eq_true rfl, Nat.le_of_ble_eq_true rfl⟩ [0, 1] [] [0, 1] rfl rfl rfl rfl (by decide) rfl rfl dX0_decliningCharge_1 (pc2 := 4) rfl rfl ?_
  refine pk_topl (fun n1_ en1_ => ?_)
  refine pk_aload_n C 0 dX0_decliningCharge_4 rfl rfl (pc2 := 5) rfl ?_
  refine pk_get (v := .long (C_rs c)) C i0_ (pw_atX 0 rfl) (ci := 0) rfl 7 (by decide) w0_ rfl rfl dX0_decliningCharge_5 (pc2 := 8) rfl ?_
  refine pk_lsub C dX0_decliningCharge_8 (pc2 := 9) rfl ?_
  refine pk_topl (fun n2_ en2_ => ?_)
  refine pk_lstore_n (lv' := [(1, .long n2_), (0, .ref a)]) C dX0_decliningCharge_9 rfl (by decide) rfl (pc2 := 10) rfl ?_
  refine pk_lload_n C 0 dX0_decliningCharge_10 rfl rfl (pc2 := 11) rfl ?_
  refine pk_lconst (v := 0) C dX0_decliningCharge_11 (by decide) (pc2 := 12) rfl ?_
  refine pk_lcmp_gt (tgt := 18) C dX0_decliningCharge_12 dX0_decliningCharge_13 (pc1 := 13) rfl (by decide) (pc2 := 16) rfl (fun h1_ => ?_) (fun h1_ => ?_)
  ·
    refine pk_aload_n C 1 dX0_decliningCharge_18 rfl rfl (pc2 := 19) rfl ?_
    refine pk_get (v := .int (C_li c)) C i0_ (pw_atX 0 rfl) (ci := 0) rfl 8 (by decide) w1_ rfl rfl dX0_decliningCharge_19 (pc2 := 22) rfl ?_
    refine pk_iconst (v := 1) C dX0_decliningCharge_22 (by decide) (pc2 := 23) rfl ?_
    refine pk_icmp_ne (tgt := 28) C dX0_decliningCharge_23 (by decide) (pc2 := 26) rfl (fun h2_ => ?_) (fun h2_ => ?_)
    ·
      refine pk_aload_n C 1 dX0_decliningCharge_28 rfl rfl (pc2 := 29) rfl ?_
      refine pk_dV (cx := [(a, cC b c), (b, cS t)]) (wr := []) (X2 := [(a, cC b c), (b, cS t)]) (st := []) (st2 := [.long (m_X0_book c t)]) (As := []) C (c_X0_book (zl Z) (zG Z) L F a b c t) gX0_decliningCharge_X0_book rfl rfl rfl 0 (by decide +kernel) ⟨Nat.le_of_ble_eq_true rfl, Nat.le_of_ble_eq_true rfl⟩ (pw_atX 0 rfl) rfl rfl rfl (Nat.le_of_ble_eq_true rfl) ⟨Nat.le_of_ble_eq_true rfl, Nat.le_of_ble_eq_true rfl⟩ [0, 1] [] [0, 1] rfl rfl rfl rfl (by decide) rfl rfl dX0_decliningCharge_29 (pc2 := 32) rfl rfl ?_
      refine pk_topl (fun n3_ en3_ => ?_)
      refine pk_aload_n C 1 dX0_decliningCharge_32 rfl rfl (pc2 := 33) rfl ?_
      refine pk_get (v := .int (C_ra c)) C i0_ (pw_atX 0 rfl) (ci := 0) rfl 2 (by decide) w2_ rfl rfl dX0_decliningCharge_33 (pc2 := 36) rfl ?_
      refine pk_i2l C dX0_decliningCharge_36 (pc2 := 37) rfl ?_
      refine pk_lmul C dX0_decliningCharge_37 (pc2 := 38) rfl ?_
      refine pk_ldc2 C w3_ dX0_decliningCharge_38 (pc2 := 41) rfl ?_
      refine pk_dSN (cx := []) (wr := [(a, cC b c), (b, cS t)]) (X2 := [(a, cC b c), (b, cS t)]) (st := []) (st2 := [.long (m_X4_rounded (n3_ * (Int32.toInt64 (C_ra c))) (1000000))]) (As := [.long (n3_ * (Int32.toInt64 (C_ra c))), .long (1000000)]) C (c_X4_rounded (zl Z) (zG Z) L F (n3_ * (Int32.toInt64 (C_ra c))) (1000000)) gX0_decliningCharge_X4_rounded_n132 rfl w4_ w5_ w6_ rfl rfl 2 (by decide +kernel) ⟨Nat.le_of_ble_eq_true rfl, Nat.le_of_ble_eq_true rfl⟩ rfl rfl (Nat.le_of_ble_eq_true rfl) ⟨Nat.le_of_ble_eq_true rfl, Nat.le_of_ble_eq_true rfl⟩ [] [0, 1] [0, 1] rfl rfl rfl rfl (by decide) rfl rfl dX0_decliningCharge_41 (pc2 := 44) rfl rfl ?_
      refine pk_topl (fun n4_ en4_ => ?_)
      refine pk_lstore_n (lv' := [(3, .long n4_), (1, .long n2_), (0, .ref a)]) C dX0_decliningCharge_44 rfl (by decide) rfl (pc2 := 45) rfl ?_
      refine pk_lload_n C 1 dX0_decliningCharge_45 rfl rfl (pc2 := 46) rfl ?_
      refine pk_aload_n C 2 dX0_decliningCharge_46 rfl rfl (pc2 := 47) rfl ?_
      refine pk_get (v := .int (C_li c)) C i0_ (pw_atX 0 rfl) (ci := 0) rfl 8 (by decide) w1_ rfl rfl dX0_decliningCharge_47 (pc2 := 50) rfl ?_
      refine pk_i2l C dX0_decliningCharge_50 (pc2 := 51) rfl ?_
      refine pk_dSN (cx := []) (wr := [(a, cC b c), (b, cS t)]) (X2 := [(a, cC b c), (b, cS t)]) (st := []) (st2 := [.long (m_X4_rounded n2_ (Int32.toInt64 (C_li c)))]) (As := [.long n2_, .long (Int32.toInt64 (C_li c))]) C (c_X4_rounded (zl Z) (zG Z) L F n2_ (Int32.toInt64 (C_li c))) gX0_decliningCharge_X4_rounded_n132 rfl w4_ w5_ w6_ rfl rfl 2 (by decide +kernel) ⟨Nat.le_of_ble_eq_true rfl, Nat.le_of_ble_eq_true rfl⟩ rfl rfl (Nat.le_of_ble_eq_true rfl) ⟨Nat.le_of_ble_eq_true rfl, Nat.le_of_ble_eq_true rfl⟩ [] [0, 1] [0, 1] rfl rfl rfl rfl (by decide) rfl rfl dX0_decliningCharge_51 (pc2 := 54) rfl rfl ?_
      refine pk_topl (fun n5_ en5_ => ?_)
      refine pk_lstore (lv' := [(5, .long n5_), (3, .long n4_), (1, .long n2_), (0, .ref a)]) C dX0_decliningCharge_54 (by decide) rfl (pc2 := 56) rfl ?_
      refine pk_lload_n C 2 dX0_decliningCharge_56 rfl rfl (pc2 := 57) rfl ?_
      refine pk_lload_n C 1 dX0_decliningCharge_57 rfl rfl (pc2 := 58) rfl ?_
      refine pk_lload C 0 dX0_decliningCharge_58 rfl (pc2 := 60) rfl ?_
      refine pk_maxl (v := (jmax n4_ n5_)) C ⟨w7_, w8_, w9_, w10_⟩ (Nat.le_of_ble_eq_true rfl) (Nat.le_of_ble_eq_true rfl) (Nat.le_of_ble_eq_true rfl) (Nat.le_of_ble_eq_true rfl) dX0_decliningCharge_60 (pc2 := 63) rfl rfl ?_
      refine pk_minl (v := (jmin n2_ (jmax n4_ n5_))) C ⟨w11_, w12_, w9_, w13_⟩ (Nat.le_of_ble_eq_true rfl) (Nat.le_of_ble_eq_true rfl) (Nat.le_of_ble_eq_true rfl) (Nat.le_of_ble_eq_true rfl) dX0_decliningCharge_63 (pc2 := 66) rfl rfl ?_
      subst en1_ en2_ en3_ en4_ en5_
      exact pr_long C hE (po_d_rfl (by first | with_reducible rfl | (unfold m_X0_decliningCharge; rw [if_pos h1_, if_neg h2_])) (by first | with_reducible rfl | (unfold m_X0_decliningCharge; rw [if_pos h1_, if_neg h2_]))) dX0_decliningCharge_66
    ·
      refine pk_lload_n C 0 dX0_decliningCharge_26 rfl rfl (pc2 := 27) rfl ?_
      subst en1_ en2_
      exact pr_long C hE (po_d_rfl (by first | with_reducible rfl | (unfold m_X0_decliningCharge; rw [if_pos h1_, if_pos h2_])) (by first | with_reducible rfl | (unfold m_X0_decliningCharge; rw [if_pos h1_, if_pos h2_]))) dX0_decliningCharge_27
  ·
    refine pk_lconst (v := 0) C dX0_decliningCharge_16 (by decide) (pc2 := 17) rfl ?_
    subst en1_ en2_
    exact pr_long C hE (po_d_rfl (by first | with_reducible rfl | (unfold m_X0_decliningCharge; rw [if_neg h1_])) (by first | with_reducible rfl | (unfold m_X0_decliningCharge; rw [if_neg h1_]))) dX0_decliningCharge_17
end
section
def m_X0_isBreach (c : CR) (t : SR) (ev : ER) (mr : Int64) : Int32 :=
  if (C_go c) = 0 then if (C_he c) = 0 then if (E_ki ev) = 0 then if (C_li c) = 0 then 1 else if (C_rs c) ≤ ((m_X0_book c t) + (E_am ev)) then 0 else 1 else if (E_ki ev) = 1 then if (E_am ev) ≤ (m_X0_book c t) then 0 else 1 else if (E_ki ev) = 2 then 0 else if (E_ki ev) = 3 then if (E_am ev) < (m_X0_book c t) then 0 else 1 else if (E_ki ev) = 4 then if (E_am ev) ≤ (m_X0_book c t) then 1 else if mr < (E_am ev) then 1 else if (C_al c) < ((E_am ev) - (m_X0_book c t)) then 1 else if (C_rs c) ≤ (E_am ev) then 0 else 1 else if (E_ki ev) = 5 then 0 else if (E_ki ev) = 6 then 0 else if (E_ki ev) = 7 then 1 else 0 else if (E_ki ev) = 7 then 0 else if (E_ki ev) = 5 then 0 else 1 else 1
set_option maxRecDepth 100000 in
set_option maxHeartbeats 2000000 in
theorem c_X0_isBreach (l : Launch) (G : pw_G) (L : List Nat) (F : Nat → va_E) (a b : Nat) (c : CR) (t : SR) (e : Nat) (ev : ER) (heL : e ∈ L) (heF : F e = cE ev) (mr : Int64) : PM l yX0_isBreach wsX0_isBreach ⟨1, 0, 0, 20⟩ G [.ref a, .ref e, .long mr] [(a, cC b c), (b, cS t)] L F 0 0 (po_d (some (.int (m_X0_isBreach c t ev mr))) [(a, cC b c), (b, cS t)] L F) := by
  refine pm_entry (by decide) rfl rfl (Nat.le_of_ble_eq_true rfl) ?_
  intro Z Q C hl0 hG0 hnm hE
  subst hl0
  subst hG0
  have i0_ : ∀ w ∈ wsX00, w ∈ wsX0_isBreach := by decide +kernel
  have i1_ : ∀ w ∈ wsX10, w ∈ wsX0_isBreach := by decide +kernel
  have w0_ : Cond.fieldLink RX0 57 "AgedAssets$Course" "gone" "Z" ∈ wsX0_isBreach := by decide +kernel
  have w1_ : Cond.fieldLink RX0 53 "AgedAssets$Course" "held" "Z" ∈ wsX0_isBreach := by decide +kernel
  have w2_ : Cond.fieldLink RX0 89 "AgedAssets$Event" "kind" "I" ∈ wsX0_isBreach := by decide +kernel
  have w3_ : Cond.fieldLink RX0 50 "AgedAssets$Course" "restOfLife" "I" ∈ wsX0_isBreach := by decide +kernel
  have w4_ : Cond.fieldLink RX0 46 "AgedAssets$Course" "residual" "J" ∈ wsX0_isBreach := by decide +kernel
  have w5_ : Cond.fieldLink RX0 101 "AgedAssets$Event" "amount" "J" ∈ wsX0_isBreach := by decide +kernel
  have w6_ : Cond.fieldLink RX0 34 "AgedAssets$Course" "allowance" "J" ∈ wsX0_isBreach := by decide +kernel
  show PW Z [(a, cC b c), (b, cS t)] L F 0 0 Q 0 [(0, .ref a), (1, .ref e), (2, .long mr)] []
  refine pk_aload_n C 0 dX0_isBreach_0 rfl rfl (pc2 := 1) rfl ?_
  refine pk_get (v := .int (C_go c)) C i0_ (pw_atX 0 rfl) (ci := 0) rfl 10 (by decide) w0_ rfl rfl dX0_isBreach_1 (pc2 := 4) rfl ?_
  refine pk_if_ne (tgt := 31) C dX0_isBreach_4 (by decide) (pc2 := 7) rfl (fun h1_ => ?_) (fun h1_ => ?_)
  ·
    refine pk_iconst (v := 1) C dX0_isBreach_31 (by decide) (pc2 := 32) rfl ?_
    exact pr_int (ty := .boolean) C hE rfl rfl (po_d_rfl (by first | with_reducible rfl | (unfold m_X0_isBreach; rw [if_neg h1_])) (by first | with_reducible rfl | (unfold m_X0_isBreach; rw [if_neg h1_]))) dX0_isBreach_32
  ·
    refine pk_aload_n C 0 dX0_isBreach_7 rfl rfl (pc2 := 8) rfl ?_
    refine pk_get (v := .int (C_he c)) C i0_ (pw_atX 0 rfl) (ci := 0) rfl 9 (by decide) w1_ rfl rfl dX0_isBreach_8 (pc2 := 11) rfl ?_
    refine pk_if_eq (tgt := 33) C dX0_isBreach_11 (by decide) (pc2 := 14) rfl (fun h2_ => ?_) (fun h2_ => ?_)
    ·
      refine pk_aload_n C 1 dX0_isBreach_33 rfl rfl (pc2 := 34) rfl ?_
      refine pk_get (v := .int (E_ki ev)) C i1_ (pw_atP heL heF) (ci := 1) rfl 2 (by decide) w2_ rfl rfl dX0_isBreach_34 (pc2 := 37) rfl ?_
      by_cases h3_ : (E_ki ev) = 0
      ·
        refine pk_tableIn (tgt := 84) C dX0_isBreach_37 (by rw [h3_]; decide) (by rw [h3_]; decide) (by rw [h3_]; first | done | rfl) (by decide) ?_
        refine pk_aload_n C 0 dX0_isBreach_84 rfl rfl (pc2 := 85) rfl ?_
        refine pk_get (v := .int (C_li c)) C i0_ (pw_atX 0 rfl) (ci := 0) rfl 8 (by decide) w3_ rfl rfl dX0_isBreach_85 (pc2 := 88) rfl ?_
        refine pk_if_eq (tgt := 108) C dX0_isBreach_88 (by decide) (pc2 := 91) rfl (fun h4_ => ?_) (fun h4_ => ?_)
        ·
          refine pk_iconst (v := 1) C dX0_isBreach_108 (by decide) (pc2 := 109) rfl ?_
          refine pk_goto (tgt := 113) C dX0_isBreach_109 (by decide) ?_
          exact pr_int (ty := .boolean) C hE rfl rfl (po_d_rfl (by first | with_reducible rfl | (unfold m_X0_isBreach; rw [if_pos h1_, if_pos h2_, if_pos h3_, if_pos h4_])) (by first | with_reducible rfl | (unfold m_X0_isBreach; rw [if_pos h1_, if_pos h2_, if_pos h3_, if_pos h4_]))) dX0_isBreach_113
        ·
          refine pk_aload_n C 0 dX0_isBreach_91 rfl rfl (pc2 := 92) rfl ?_
          refine pk_get (v := .long (C_rs c)) C i0_ (pw_atX 0 rfl) (ci := 0) rfl 7 (by decide) w4_ rfl rfl dX0_isBreach_92 (pc2 := 95) rfl ?_
          refine pk_aload_n C 0 dX0_isBreach_95 rfl rfl (pc2 := 96) rfl ?_
          refine pk_dV (cx := [(a, cC b c), (b, cS t)]) (wr := []) (X2 := [(a, cC b c), (b, cS t)]) (st := [.long (C_rs c)]) (st2 := [.long (m_X0_book c t), .long (C_rs c)]) (As := []) C (c_X0_book (zl Z) (zG Z) L F a b c t) gX0_isBreach_X0_book rfl rfl rfl 0 (by decide +kernel) ⟨Nat.le_of_ble_eq_true rfl, Nat.le_of_ble_eq_true rfl⟩ (pw_atX 0 rfl) rfl rfl rfl (Nat.le_of_ble_eq_true rfl) ⟨Nat.le_of_ble_eq_true rfl, Nat.le_of_ble_eq_true rfl⟩ [0, 1] [] [0, 1] rfl rfl rfl rfl (by decide) rfl rfl dX0_isBreach_96 (pc2 := 99) rfl rfl ?_
          refine pk_topl (fun n1_ en1_ => ?_)
          refine pk_aload_n C 1 dX0_isBreach_99 rfl rfl (pc2 := 100) rfl ?_
          refine pk_get (v := .long (E_am ev)) C i1_ (pw_atP heL heF) (ci := 1) rfl 3 (by decide) w5_ rfl rfl dX0_isBreach_100 (pc2 := 103) rfl ?_
          refine pk_ladd C dX0_isBreach_103 (pc2 := 104) rfl ?_
          refine pk_lcmp_le (tgt := 112) C dX0_isBreach_104 dX0_isBreach_105 (pc1 := 105) rfl (by decide) (pc2 := 108) rfl (fun h5_ => ?_) (fun h5_ => ?_)
          ·
            refine pk_iconst (v := 0) C dX0_isBreach_112 (by decide) (pc2 := 113) rfl ?_
            subst en1_
            exact pr_int (ty := .boolean) C hE rfl rfl (po_d_rfl (by first | with_reducible rfl | (unfold m_X0_isBreach; rw [if_pos h1_, if_pos h2_, if_pos h3_, if_neg h4_, if_pos h5_])) (by first | with_reducible rfl | (unfold m_X0_isBreach; rw [if_pos h1_, if_pos h2_, if_pos h3_, if_neg h4_, if_pos h5_]))) dX0_isBreach_113
          ·
            refine pk_iconst (v := 1) C dX0_isBreach_108 (by decide) (pc2 := 109) rfl ?_
            refine pk_goto (tgt := 113) C dX0_isBreach_109 (by decide) ?_
            subst en1_
            exact pr_int (ty := .boolean) C hE rfl rfl (po_d_rfl (by first | with_reducible rfl | (unfold m_X0_isBreach; rw [if_pos h1_, if_pos h2_, if_pos h3_, if_neg h4_, if_neg h5_])) (by first | with_reducible rfl | (unfold m_X0_isBreach; rw [if_pos h1_, if_pos h2_, if_pos h3_, if_neg h4_, if_neg h5_]))) dX0_isBreach_113
      by_cases h6_ : (E_ki ev) = 1
      ·
        refine pk_tableIn (tgt := 114) C dX0_isBreach_37 (by rw [h6_]; decide) (by rw [h6_]; decide) (by rw [h6_]; first | done | rfl) (by decide) ?_
        refine pk_aload_n C 1 dX0_isBreach_114 rfl rfl (pc2 := 115) rfl ?_
        refine pk_get (v := .long (E_am ev)) C i1_ (pw_atP heL heF) (ci := 1) rfl 3 (by decide) w5_ rfl rfl dX0_isBreach_115 (pc2 := 118) rfl ?_
        refine pk_aload_n C 0 dX0_isBreach_118 rfl rfl (pc2 := 119) rfl ?_
        refine pk_dV (cx := [(a, cC b c), (b, cS t)]) (wr := []) (X2 := [(a, cC b c), (b, cS t)]) (st := [.long (E_am ev)]) (st2 := [.long (m_X0_book c t), .long (E_am ev)]) (As := []) C (c_X0_book (zl Z) (zG Z) L F a b c t) gX0_isBreach_X0_book rfl rfl rfl 0 (by decide +kernel) ⟨Nat.le_of_ble_eq_true rfl, Nat.le_of_ble_eq_true rfl⟩ (pw_atX 0 rfl) rfl rfl rfl (Nat.le_of_ble_eq_true rfl) ⟨Nat.le_of_ble_eq_true rfl, Nat.le_of_ble_eq_true rfl⟩ [0, 1] [] [0, 1] rfl rfl rfl rfl (by decide) rfl rfl dX0_isBreach_119 (pc2 := 122) rfl rfl ?_
        refine pk_topl (fun n2_ en2_ => ?_)
        refine pk_lcmp_le (tgt := 130) C dX0_isBreach_122 dX0_isBreach_123 (pc1 := 123) rfl (by decide) (pc2 := 126) rfl (fun h7_ => ?_) (fun h7_ => ?_)
        ·
          refine pk_iconst (v := 0) C dX0_isBreach_130 (by decide) (pc2 := 131) rfl ?_
          subst en2_
          exact pr_int (ty := .boolean) C hE rfl rfl (po_d_rfl (by first | with_reducible rfl | (unfold m_X0_isBreach; rw [if_pos h1_, if_pos h2_, if_neg h3_, if_pos h6_, if_pos h7_])) (by first | with_reducible rfl | (unfold m_X0_isBreach; rw [if_pos h1_, if_pos h2_, if_neg h3_, if_pos h6_, if_pos h7_]))) dX0_isBreach_131
        ·
          refine pk_iconst (v := 1) C dX0_isBreach_126 (by decide) (pc2 := 127) rfl ?_
          refine pk_goto (tgt := 131) C dX0_isBreach_127 (by decide) ?_
          subst en2_
          exact pr_int (ty := .boolean) C hE rfl rfl (po_d_rfl (by first | with_reducible rfl | (unfold m_X0_isBreach; rw [if_pos h1_, if_pos h2_, if_neg h3_, if_pos h6_, if_neg h7_])) (by first | with_reducible rfl | (unfold m_X0_isBreach; rw [if_pos h1_, if_pos h2_, if_neg h3_, if_pos h6_, if_neg h7_]))) dX0_isBreach_131
      by_cases h8_ : (E_ki ev) = 2
      ·
        refine pk_tableIn (tgt := 219) C dX0_isBreach_37 (by rw [h8_]; decide) (by rw [h8_]; decide) (by rw [h8_]; first | done | rfl) (by decide) ?_
        refine pk_iconst (v := 0) C dX0_isBreach_219 (by decide) (pc2 := 220) rfl ?_
        exact pr_int (ty := .boolean) C hE rfl rfl (po_d_rfl (by first | with_reducible rfl | (unfold m_X0_isBreach; rw [if_pos h1_, if_pos h2_, if_neg h3_, if_neg h6_, if_pos h8_])) (by first | with_reducible rfl | (unfold m_X0_isBreach; rw [if_pos h1_, if_pos h2_, if_neg h3_, if_neg h6_, if_pos h8_]))) dX0_isBreach_220
      by_cases h9_ : (E_ki ev) = 3
      ·
        refine pk_tableIn (tgt := 132) C dX0_isBreach_37 (by rw [h9_]; decide) (by rw [h9_]; decide) (by rw [h9_]; first | done | rfl) (by decide) ?_
        refine pk_aload_n C 1 dX0_isBreach_132 rfl rfl (pc2 := 133) rfl ?_
        refine pk_get (v := .long (E_am ev)) C i1_ (pw_atP heL heF) (ci := 1) rfl 3 (by decide) w5_ rfl rfl dX0_isBreach_133 (pc2 := 136) rfl ?_
        refine pk_aload_n C 0 dX0_isBreach_136 rfl rfl (pc2 := 137) rfl ?_
        refine pk_dV (cx := [(a, cC b c), (b, cS t)]) (wr := []) (X2 := [(a, cC b c), (b, cS t)]) (st := [.long (E_am ev)]) (st2 := [.long (m_X0_book c t), .long (E_am ev)]) (As := []) C (c_X0_book (zl Z) (zG Z) L F a b c t) gX0_isBreach_X0_book rfl rfl rfl 0 (by decide +kernel) ⟨Nat.le_of_ble_eq_true rfl, Nat.le_of_ble_eq_true rfl⟩ (pw_atX 0 rfl) rfl rfl rfl (Nat.le_of_ble_eq_true rfl) ⟨Nat.le_of_ble_eq_true rfl, Nat.le_of_ble_eq_true rfl⟩ [0, 1] [] [0, 1] rfl rfl rfl rfl (by decide) rfl rfl dX0_isBreach_137 (pc2 := 140) rfl rfl ?_
        refine pk_topl (fun n3_ en3_ => ?_)
        refine pk_lcmp_lt (tgt := 148) C dX0_isBreach_140 dX0_isBreach_141 (pc1 := 141) rfl (by decide) (pc2 := 144) rfl (fun h10_ => ?_) (fun h10_ => ?_)
        ·
          refine pk_iconst (v := 0) C dX0_isBreach_148 (by decide) (pc2 := 149) rfl ?_
          subst en3_
          exact pr_int (ty := .boolean) C hE rfl rfl (po_d_rfl (by first | with_reducible rfl | (unfold m_X0_isBreach; rw [if_pos h1_, if_pos h2_, if_neg h3_, if_neg h6_, if_neg h8_, if_pos h9_, if_pos h10_])) (by first | with_reducible rfl | (unfold m_X0_isBreach; rw [if_pos h1_, if_pos h2_, if_neg h3_, if_neg h6_, if_neg h8_, if_pos h9_, if_pos h10_]))) dX0_isBreach_149
        ·
          refine pk_iconst (v := 1) C dX0_isBreach_144 (by decide) (pc2 := 145) rfl ?_
          refine pk_goto (tgt := 149) C dX0_isBreach_145 (by decide) ?_
          subst en3_
          exact pr_int (ty := .boolean) C hE rfl rfl (po_d_rfl (by first | with_reducible rfl | (unfold m_X0_isBreach; rw [if_pos h1_, if_pos h2_, if_neg h3_, if_neg h6_, if_neg h8_, if_pos h9_, if_neg h10_])) (by first | with_reducible rfl | (unfold m_X0_isBreach; rw [if_pos h1_, if_pos h2_, if_neg h3_, if_neg h6_, if_neg h8_, if_pos h9_, if_neg h10_]))) dX0_isBreach_149
      by_cases h11_ : (E_ki ev) = 4
      ·
        refine pk_tableIn (tgt := 150) C dX0_isBreach_37 (by rw [h11_]; decide) (by rw [h11_]; decide) (by rw [h11_]; first | done | rfl) (by decide) ?_
        refine pk_aload_n C 1 dX0_isBreach_150 rfl rfl (pc2 := 151) rfl ?_
        refine pk_get (v := .long (E_am ev)) C i1_ (pw_atP heL heF) (ci := 1) rfl 3 (by decide) w5_ rfl rfl dX0_isBreach_151 (pc2 := 154) rfl ?_
        refine pk_aload_n C 0 dX0_isBreach_154 rfl rfl (pc2 := 155) rfl ?_
        refine pk_dV (cx := [(a, cC b c), (b, cS t)]) (wr := []) (X2 := [(a, cC b c), (b, cS t)]) (st := [.long (E_am ev)]) (st2 := [.long (m_X0_book c t), .long (E_am ev)]) (As := []) C (c_X0_book (zl Z) (zG Z) L F a b c t) gX0_isBreach_X0_book rfl rfl rfl 0 (by decide +kernel) ⟨Nat.le_of_ble_eq_true rfl, Nat.le_of_ble_eq_true rfl⟩ (pw_atX 0 rfl) rfl rfl rfl (Nat.le_of_ble_eq_true rfl) ⟨Nat.le_of_ble_eq_true rfl, Nat.le_of_ble_eq_true rfl⟩ [0, 1] [] [0, 1] rfl rfl rfl rfl (by decide) rfl rfl dX0_isBreach_155 (pc2 := 158) rfl rfl ?_
        refine pk_topl (fun n4_ en4_ => ?_)
        refine pk_lcmp_le (tgt := 200) C dX0_isBreach_158 dX0_isBreach_159 (pc1 := 159) rfl (by decide) (pc2 := 162) rfl (fun h12_ => ?_) (fun h12_ => ?_)
        ·
          refine pk_iconst (v := 1) C dX0_isBreach_200 (by decide) (pc2 := 201) rfl ?_
          refine pk_goto (tgt := 205) C dX0_isBreach_201 (by decide) ?_
          subst en4_
          exact pr_int (ty := .boolean) C hE rfl rfl (po_d_rfl (by first | with_reducible rfl | (unfold m_X0_isBreach; rw [if_pos h1_, if_pos h2_, if_neg h3_, if_neg h6_, if_neg h8_, if_neg h9_, if_pos h11_, if_pos h12_])) (by first | with_reducible rfl | (unfold m_X0_isBreach; rw [if_pos h1_, if_pos h2_, if_neg h3_, if_neg h6_, if_neg h8_, if_neg h9_, if_pos h11_, if_pos h12_]))) dX0_isBreach_205
        ·
          refine pk_aload_n C 1 dX0_isBreach_162 rfl rfl (pc2 := 163) rfl ?_
          refine pk_get (v := .long (E_am ev)) C i1_ (pw_atP heL heF) (ci := 1) rfl 3 (by decide) w5_ rfl rfl dX0_isBreach_163 (pc2 := 166) rfl ?_
          refine pk_lload_n C 2 dX0_isBreach_166 rfl rfl (pc2 := 167) rfl ?_
          refine pk_lcmp_gt (tgt := 200) C dX0_isBreach_167 dX0_isBreach_168 (pc1 := 168) rfl (by decide) (pc2 := 171) rfl (fun h13_ => ?_) (fun h13_ => ?_)
          ·
            refine pk_iconst (v := 1) C dX0_isBreach_200 (by decide) (pc2 := 201) rfl ?_
            refine pk_goto (tgt := 205) C dX0_isBreach_201 (by decide) ?_
            subst en4_
            exact pr_int (ty := .boolean) C hE rfl rfl (po_d_rfl (by first | with_reducible rfl | (unfold m_X0_isBreach; rw [if_pos h1_, if_pos h2_, if_neg h3_, if_neg h6_, if_neg h8_, if_neg h9_, if_pos h11_, if_neg h12_, if_pos h13_])) (by first | with_reducible rfl | (unfold m_X0_isBreach; rw [if_pos h1_, if_pos h2_, if_neg h3_, if_neg h6_, if_neg h8_, if_neg h9_, if_pos h11_, if_neg h12_, if_pos h13_]))) dX0_isBreach_205
          ·
            refine pk_aload_n C 1 dX0_isBreach_171 rfl rfl (pc2 := 172) rfl ?_
            refine pk_get (v := .long (E_am ev)) C i1_ (pw_atP heL heF) (ci := 1) rfl 3 (by decide) w5_ rfl rfl dX0_isBreach_172 (pc2 := 175) rfl ?_
            refine pk_aload_n C 0 dX0_isBreach_175 rfl rfl (pc2 := 176) rfl ?_
            refine pk_dV (cx := [(a, cC b c), (b, cS t)]) (wr := []) (X2 := [(a, cC b c), (b, cS t)]) (st := [.long (E_am ev)]) (st2 := [.long (m_X0_book c t), .long (E_am ev)]) (As := []) C (c_X0_book (zl Z) (zG Z) L F a b c t) gX0_isBreach_X0_book rfl rfl rfl 0 (by decide +kernel) ⟨Nat.le_of_ble_eq_true rfl, Nat.le_of_ble_eq_true rfl⟩ (pw_atX 0 rfl) rfl rfl rfl (Nat.le_of_ble_eq_true rfl) ⟨Nat.le_of_ble_eq_true rfl, Nat.le_of_ble_eq_true rfl⟩ [0, 1] [] [0, 1] rfl rfl rfl rfl (by decide) rfl rfl dX0_isBreach_176 (pc2 := 179) rfl rfl ?_
            refine pk_topl (fun n5_ en5_ => ?_)
            refine pk_lsub C dX0_isBreach_179 (pc2 := 180) rfl ?_
            refine pk_aload_n C 0 dX0_isBreach_180 rfl rfl (pc2 := 181) rfl ?_
            refine pk_get (v := .long (C_al c)) C i0_ (pw_atX 0 rfl) (ci := 0) rfl 4 (by decide) w6_ rfl rfl dX0_isBreach_181 (pc2 := 184) rfl ?_
            refine pk_lcmp_gt (tgt := 200) C dX0_isBreach_184 dX0_isBreach_185 (pc1 := 185) rfl (by decide) (pc2 := 188) rfl (fun h14_ => ?_) (fun h14_ => ?_)
            ·
              refine pk_iconst (v := 1) C dX0_isBreach_200 (by decide) (pc2 := 201) rfl ?_
              refine pk_goto (tgt := 205) C dX0_isBreach_201 (by decide) ?_
              subst en4_ en5_
              exact pr_int (ty := .boolean) C hE rfl rfl (po_d_rfl (by first | with_reducible rfl | (unfold m_X0_isBreach; rw [if_pos h1_, if_pos h2_, if_neg h3_, if_neg h6_, if_neg h8_, if_neg h9_, if_pos h11_, if_neg h12_, if_neg h13_, if_pos h14_])) (by first | with_reducible rfl | (unfold m_X0_isBreach; rw [if_pos h1_, if_pos h2_, if_neg h3_, if_neg h6_, if_neg h8_, if_neg h9_, if_pos h11_, if_neg h12_, if_neg h13_, if_pos h14_]))) dX0_isBreach_205
            ·
              refine pk_aload_n C 0 dX0_isBreach_188 rfl rfl (pc2 := 189) rfl ?_
              refine pk_get (v := .long (C_rs c)) C i0_ (pw_atX 0 rfl) (ci := 0) rfl 7 (by decide) w4_ rfl rfl dX0_isBreach_189 (pc2 := 192) rfl ?_
              refine pk_aload_n C 1 dX0_isBreach_192 rfl rfl (pc2 := 193) rfl ?_
              refine pk_get (v := .long (E_am ev)) C i1_ (pw_atP heL heF) (ci := 1) rfl 3 (by decide) w5_ rfl rfl dX0_isBreach_193 (pc2 := 196) rfl ?_
              refine pk_lcmp_le (tgt := 204) C dX0_isBreach_196 dX0_isBreach_197 (pc1 := 197) rfl (by decide) (pc2 := 200) rfl (fun h15_ => ?_) (fun h15_ => ?_)
              ·
                refine pk_iconst (v := 0) C dX0_isBreach_204 (by decide) (pc2 := 205) rfl ?_
                subst en4_ en5_
                exact pr_int (ty := .boolean) C hE rfl rfl (po_d_rfl (by first | with_reducible rfl | (unfold m_X0_isBreach; rw [if_pos h1_, if_pos h2_, if_neg h3_, if_neg h6_, if_neg h8_, if_neg h9_, if_pos h11_, if_neg h12_, if_neg h13_, if_neg h14_, if_pos h15_])) (by first | with_reducible rfl | (unfold m_X0_isBreach; rw [if_pos h1_, if_pos h2_, if_neg h3_, if_neg h6_, if_neg h8_, if_neg h9_, if_pos h11_, if_neg h12_, if_neg h13_, if_neg h14_, if_pos h15_]))) dX0_isBreach_205
              ·
                refine pk_iconst (v := 1) C dX0_isBreach_200 (by decide) (pc2 := 201) rfl ?_
                refine pk_goto (tgt := 205) C dX0_isBreach_201 (by decide) ?_
                subst en4_ en5_
                exact pr_int (ty := .boolean) C hE rfl rfl (po_d_rfl (by first | with_reducible rfl | (unfold m_X0_isBreach; rw [if_pos h1_, if_pos h2_, if_neg h3_, if_neg h6_, if_neg h8_, if_neg h9_, if_pos h11_, if_neg h12_, if_neg h13_, if_neg h14_, if_neg h15_])) (by first | with_reducible rfl | (unfold m_X0_isBreach; rw [if_pos h1_, if_pos h2_, if_neg h3_, if_neg h6_, if_neg h8_, if_neg h9_, if_pos h11_, if_neg h12_, if_neg h13_, if_neg h14_, if_neg h15_]))) dX0_isBreach_205
      by_cases h16_ : (E_ki ev) = 5
      ·
        refine pk_tableIn (tgt := 219) C dX0_isBreach_37 (by rw [h16_]; decide) (by rw [h16_]; decide) (by rw [h16_]; first | done | rfl) (by decide) ?_
        refine pk_iconst (v := 0) C dX0_isBreach_219 (by decide) (pc2 := 220) rfl ?_
        exact pr_int (ty := .boolean) C hE rfl rfl (po_d_rfl (by first | with_reducible rfl | (unfold m_X0_isBreach; rw [if_pos h1_, if_pos h2_, if_neg h3_, if_neg h6_, if_neg h8_, if_neg h9_, if_neg h11_, if_pos h16_])) (by first | with_reducible rfl | (unfold m_X0_isBreach; rw [if_pos h1_, if_pos h2_, if_neg h3_, if_neg h6_, if_neg h8_, if_neg h9_, if_neg h11_, if_pos h16_]))) dX0_isBreach_220
      by_cases h17_ : (E_ki ev) = 6
      ·
        refine pk_tableIn (tgt := 219) C dX0_isBreach_37 (by rw [h17_]; decide) (by rw [h17_]; decide) (by rw [h17_]; first | done | rfl) (by decide) ?_
        refine pk_iconst (v := 0) C dX0_isBreach_219 (by decide) (pc2 := 220) rfl ?_
        exact pr_int (ty := .boolean) C hE rfl rfl (po_d_rfl (by first | with_reducible rfl | (unfold m_X0_isBreach; rw [if_pos h1_, if_pos h2_, if_neg h3_, if_neg h6_, if_neg h8_, if_neg h9_, if_neg h11_, if_neg h16_, if_pos h17_])) (by first | with_reducible rfl | (unfold m_X0_isBreach; rw [if_pos h1_, if_pos h2_, if_neg h3_, if_neg h6_, if_neg h8_, if_neg h9_, if_neg h11_, if_neg h16_, if_pos h17_]))) dX0_isBreach_220
      by_cases h18_ : (E_ki ev) = 7
      ·
        refine pk_tableIn (tgt := 206) C dX0_isBreach_37 (by rw [h18_]; decide) (by rw [h18_]; decide) (by rw [h18_]; first | done | rfl) (by decide) ?_
        refine pk_aload_n C 0 dX0_isBreach_206 rfl rfl (pc2 := 207) rfl ?_
        refine pk_get (v := .int (C_he c)) C i0_ (pw_atX 0 rfl) (ci := 0) rfl 9 (by decide) w1_ rfl rfl dX0_isBreach_207 (pc2 := 210) rfl ?_
        refine pk_if_ne (tgt := 217) C dX0_isBreach_210 (by decide) (pc2 := 213) rfl (fun h19_ => ?_) (fun h19_ => ?_)
        · first | exact absurd h19_ h2_ | exact absurd h2_ h19_
        refine pk_iconst (v := 1) C dX0_isBreach_213 (by decide) (pc2 := 214) rfl ?_
        refine pk_goto (tgt := 218) C dX0_isBreach_214 (by decide) ?_
        exact pr_int (ty := .boolean) C hE rfl rfl (po_d_rfl (by first | with_reducible rfl | (unfold m_X0_isBreach; rw [if_pos h1_, if_pos h2_, if_neg h3_, if_neg h6_, if_neg h8_, if_neg h9_, if_neg h11_, if_neg h16_, if_neg h17_, if_pos h18_])) (by first | with_reducible rfl | (unfold m_X0_isBreach; rw [if_pos h1_, if_pos h2_, if_neg h3_, if_neg h6_, if_neg h8_, if_neg h9_, if_neg h11_, if_neg h16_, if_neg h17_, if_pos h18_]))) dX0_isBreach_218
      refine pk_tableOut (tgt := 219) C dX0_isBreach_37 (sw_7 h3_ h6_ h8_ h9_ h11_ h16_ h17_ h18_) (by decide) ?_
      refine pk_iconst (v := 0) C dX0_isBreach_219 (by decide) (pc2 := 220) rfl ?_
      exact pr_int (ty := .boolean) C hE rfl rfl (po_d_rfl (by first | with_reducible rfl | (unfold m_X0_isBreach; rw [if_pos h1_, if_pos h2_, if_neg h3_, if_neg h6_, if_neg h8_, if_neg h9_, if_neg h11_, if_neg h16_, if_neg h17_, if_neg h18_])) (by first | with_reducible rfl | (unfold m_X0_isBreach; rw [if_pos h1_, if_pos h2_, if_neg h3_, if_neg h6_, if_neg h8_, if_neg h9_, if_neg h11_, if_neg h16_, if_neg h17_, if_neg h18_]))) dX0_isBreach_220
    ·
      refine pk_aload_n C 1 dX0_isBreach_14 rfl rfl (pc2 := 15) rfl ?_
      refine pk_get (v := .int (E_ki ev)) C i1_ (pw_atP heL heF) (ci := 1) rfl 2 (by decide) w2_ rfl rfl dX0_isBreach_15 (pc2 := 18) rfl ?_
      refine pk_bipush (v := 7) C dX0_isBreach_18 (by decide) (pc2 := 20) rfl ?_
      refine pk_icmp_eq (tgt := 33) C dX0_isBreach_20 (by decide) (pc2 := 23) rfl (fun h20_ => ?_) (fun h20_ => ?_)
      ·
        refine pk_aload_n C 1 dX0_isBreach_33 rfl rfl (pc2 := 34) rfl ?_
        refine pk_get (v := .int (E_ki ev)) C i1_ (pw_atP heL heF) (ci := 1) rfl 2 (by decide) w2_ rfl rfl dX0_isBreach_34 (pc2 := 37) rfl ?_
        refine pk_tableIn (tgt := 206) C dX0_isBreach_37 (by rw [h20_]; decide) (by rw [h20_]; decide) (by rw [h20_]; first | done | rfl) (by decide) ?_
        refine pk_aload_n C 0 dX0_isBreach_206 rfl rfl (pc2 := 207) rfl ?_
        refine pk_get (v := .int (C_he c)) C i0_ (pw_atX 0 rfl) (ci := 0) rfl 9 (by decide) w1_ rfl rfl dX0_isBreach_207 (pc2 := 210) rfl ?_
        refine pk_if_ne (tgt := 217) C dX0_isBreach_210 (by decide) (pc2 := 213) rfl (fun h21_ => ?_) (fun h21_ => ?_)
        rotate_left
        · exact absurd h21_ h2_
        refine pk_iconst (v := 0) C dX0_isBreach_217 (by decide) (pc2 := 218) rfl ?_
        exact pr_int (ty := .boolean) C hE rfl rfl (po_d_rfl (by first | with_reducible rfl | (unfold m_X0_isBreach; rw [if_pos h1_, if_neg h2_, if_pos h20_])) (by first | with_reducible rfl | (unfold m_X0_isBreach; rw [if_pos h1_, if_neg h2_, if_pos h20_]))) dX0_isBreach_218
      ·
        refine pk_aload_n C 1 dX0_isBreach_23 rfl rfl (pc2 := 24) rfl ?_
        refine pk_get (v := .int (E_ki ev)) C i1_ (pw_atP heL heF) (ci := 1) rfl 2 (by decide) w2_ rfl rfl dX0_isBreach_24 (pc2 := 27) rfl ?_
        refine pk_iconst (v := 5) C dX0_isBreach_27 (by decide) (pc2 := 28) rfl ?_
        refine pk_icmp_eq (tgt := 33) C dX0_isBreach_28 (by decide) (pc2 := 31) rfl (fun h22_ => ?_) (fun h22_ => ?_)
        ·
          refine pk_aload_n C 1 dX0_isBreach_33 rfl rfl (pc2 := 34) rfl ?_
          refine pk_get (v := .int (E_ki ev)) C i1_ (pw_atP heL heF) (ci := 1) rfl 2 (by decide) w2_ rfl rfl dX0_isBreach_34 (pc2 := 37) rfl ?_
          refine pk_tableIn (tgt := 219) C dX0_isBreach_37 (by rw [h22_]; decide) (by rw [h22_]; decide) (by rw [h22_]; first | done | rfl) (by decide) ?_
          refine pk_iconst (v := 0) C dX0_isBreach_219 (by decide) (pc2 := 220) rfl ?_
          exact pr_int (ty := .boolean) C hE rfl rfl (po_d_rfl (by first | with_reducible rfl | (unfold m_X0_isBreach; rw [if_pos h1_, if_neg h2_, if_neg h20_, if_pos h22_])) (by first | with_reducible rfl | (unfold m_X0_isBreach; rw [if_pos h1_, if_neg h2_, if_neg h20_, if_pos h22_]))) dX0_isBreach_220
        ·
          refine pk_iconst (v := 1) C dX0_isBreach_31 (by decide) (pc2 := 32) rfl ?_
          exact pr_int (ty := .boolean) C hE rfl rfl (po_d_rfl (by first | with_reducible rfl | (unfold m_X0_isBreach; rw [if_pos h1_, if_neg h2_, if_neg h20_, if_neg h22_])) (by first | with_reducible rfl | (unfold m_X0_isBreach; rw [if_pos h1_, if_neg h2_, if_neg h20_, if_neg h22_]))) dX0_isBreach_32
theorem zb_m_X0_isBreach (c : CR) (t : SR) (ev : ER) (mr : Int64) : (m_X0_isBreach c t ev mr) = 0 ∨ (m_X0_isBreach c t ev mr) = 1 := by
  unfold m_X0_isBreach
  repeat (first | split | (exact Or.inl rfl) | (exact Or.inr rfl) | assumption)
end
section
def m_X0_apply (c : CR) (t : SR) (ev : ER) : CR :=
  if (E_ki ev) = 0 then (C_mk (C_me c) (C_ra c) ((C_co c) + (E_am ev)) (C_al c) (C_re c) (C_lo c) (C_rs c) (C_li c) (C_he c) (C_go c) (C_br c) (C_cu c) (C_lc c) (C_ac c)) else if (E_ki ev) = 1 then (C_mk (C_me c) (C_ra c) (C_co c) (C_al c) (C_re c) (C_lo c) (E_am ev) (E_nu ev) (C_he c) (C_go c) (C_br c) (C_cu c) (C_lc c) (C_ac c)) else if (E_ki ev) = 2 then (m_X0_revalue c t (E_am ev)) else if (E_ki ev) = 3 then (m_X0_impair c t ((m_X0_book c t) - (E_am ev))) else if (E_ki ev) = 4 then (m_X0_restore c t ((E_am ev) - (m_X0_book c t))) else if (E_ki ev) = 5 then (m_X0_sell c t (E_nu ev)) else if (E_ki ev) = 6 then (C_mk (C_me c) (C_ra c) (C_co c) (C_al c) (C_re c) (C_lo c) (C_rs c) (C_li c) 1 (C_go c) (C_br c) (C_cu c) (C_lc c) (C_ac c)) else (C_mk (C_me c) (C_ra c) (C_co c) (C_al c) (C_re c) (C_lo c) (C_rs c) (C_li c) 0 (C_go c) (C_br c) (C_cu c) (C_lc c) (C_ac c))
set_option maxRecDepth 100000 in
set_option maxHeartbeats 2000000 in
theorem c_X0_apply (l : Launch) (G : pw_G) (L : List Nat) (F : Nat → va_E) (a b : Nat) (c : CR) (t : SR) (e : Nat) (ev : ER) (heL : e ∈ L) (heF : F e = cE ev) : PM l yX0_apply wsX0_apply ⟨3, 0, 0, 61⟩ G [.ref a, .ref e] [(a, cC b c), (b, cS t)] L F 0 0 (po_d none [(a, cC b (m_X0_apply c t ev)), (b, cS t)] L F) := by
  refine pm_entry (by decide) rfl rfl (Nat.le_of_ble_eq_true rfl) ?_
  intro Z Q C hl0 hG0 hnm hE
  subst hl0
  subst hG0
  have i1_ : ∀ w ∈ wsX10, w ∈ wsX0_apply := by decide +kernel
  have i0_ : ∀ w ∈ wsX00, w ∈ wsX0_apply := by decide +kernel
  have w0_ : Cond.fieldLink RX0 89 "AgedAssets$Event" "kind" "I" ∈ wsX0_apply := by decide +kernel
  have w1_ : Cond.fieldLink RX0 33 "AgedAssets$Course" "cost" "J" ∈ wsX0_apply := by decide +kernel
  have w2_ : Cond.fieldLink RX0 101 "AgedAssets$Event" "amount" "J" ∈ wsX0_apply := by decide +kernel
  have w3_ : Cond.fieldLink RX0 46 "AgedAssets$Course" "residual" "J" ∈ wsX0_apply := by decide +kernel
  have w4_ : Cond.fieldLink RX0 104 "AgedAssets$Event" "number" "I" ∈ wsX0_apply := by decide +kernel
  have w5_ : Cond.fieldLink RX0 50 "AgedAssets$Course" "restOfLife" "I" ∈ wsX0_apply := by decide +kernel
  have w6_ : Cond.fieldLink RX0 53 "AgedAssets$Course" "held" "Z" ∈ wsX0_apply := by decide +kernel
  show PW Z [(a, cC b c), (b, cS t)] L F 0 0 Q 0 [(0, .ref a), (1, .ref e)] []
  refine pk_aload_n C 1 dX0_apply_0 rfl rfl (pc2 := 1) rfl ?_
  refine pk_get (v := .int (E_ki ev)) C i1_ (pw_atP heL heF) (ci := 1) rfl 2 (by decide) w0_ rfl rfl dX0_apply_1 (pc2 := 4) rfl ?_
  by_cases h1_ : (E_ki ev) = 0
  ·
    refine pk_tableIn (tgt := 44) C dX0_apply_4 (by rw [h1_]; decide) (by rw [h1_]; decide) (by rw [h1_]; first | done | rfl) (by decide) ?_
    refine pk_aload_n C 0 dX0_apply_44 rfl rfl (pc2 := 45) rfl ?_
    refine pk_dup C dX0_apply_45 rfl (pc2 := 46) rfl ?_
    refine pk_get (v := .long (C_co c)) C i0_ (pw_atX 0 rfl) (ci := 0) rfl 3 (by decide) w1_ rfl rfl dX0_apply_46 (pc2 := 49) rfl ?_
    refine pk_aload_n C 1 dX0_apply_49 rfl rfl (pc2 := 50) rfl ?_
    refine pk_get (v := .long (E_am ev)) C i1_ (pw_atP heL heF) (ci := 1) rfl 3 (by decide) w2_ rfl rfl dX0_apply_50 (pc2 := 53) rfl ?_
    refine pk_ladd C dX0_apply_53 (pc2 := 54) rfl ?_
    refine pk_topl (fun n1_ en1_ => ?_)
    refine pk_putX (X' := [(a, kC b (C_me c) (C_ra c) n1_ (C_al c) (C_re c) (C_lo c) (C_rs c) (C_li c) (C_he c) (C_go c) (C_br c) (C_cu c) (C_lc c) (C_ac c)), (b, cS t)]) C i0_ tyX0_ok nmX0 0 rfl (ci := 0) rfl 3 (by decide) w1_ rfl rfl rfl rfl rfl (Nat.le_of_ble_eq_true rfl) rfl dX0_apply_54 (pc2 := 57) rfl ?_
    refine pk_goto (tgt := 151) C dX0_apply_57 (by decide) ?_
    refine pw_conv (X' := [(a, cC b (C_mk (C_me c) (C_ra c) n1_ (C_al c) (C_re c) (C_lo c) (C_rs c) (C_li c) (C_he c) (C_go c) (C_br c) (C_cu c) (C_lc c) (C_ac c))), (b, cS t)]) rfl ?_
    subst en1_
    exact pr_void C hE (po_d_rfl rfl (by first | with_reducible rfl | (unfold m_X0_apply; rw [if_pos h1_]))) dX0_apply_151
  by_cases h2_ : (E_ki ev) = 1
  ·
    refine pk_tableIn (tgt := 60) C dX0_apply_4 (by rw [h2_]; decide) (by rw [h2_]; decide) (by rw [h2_]; first | done | rfl) (by decide) ?_
    refine pk_aload_n C 0 dX0_apply_60 rfl rfl (pc2 := 61) rfl ?_
    refine pk_aload_n C 1 dX0_apply_61 rfl rfl (pc2 := 62) rfl ?_
    refine pk_get (v := .long (E_am ev)) C i1_ (pw_atP heL heF) (ci := 1) rfl 3 (by decide) w2_ rfl rfl dX0_apply_62 (pc2 := 65) rfl ?_
    refine pk_putX (X' := [(a, kC b (C_me c) (C_ra c) (C_co c) (C_al c) (C_re c) (C_lo c) (E_am ev) (C_li c) (C_he c) (C_go c) (C_br c) (C_cu c) (C_lc c) (C_ac c)), (b, cS t)]) C i0_ tyX0_ok nmX0 0 rfl (ci := 0) rfl 7 (by decide) w3_ rfl rfl rfl rfl rfl (Nat.le_of_ble_eq_true rfl) rfl dX0_apply_65 (pc2 := 68) rfl ?_
    refine pk_aload_n C 0 dX0_apply_68 rfl rfl (pc2 := 69) rfl ?_
    refine pk_aload_n C 1 dX0_apply_69 rfl rfl (pc2 := 70) rfl ?_
    refine pk_get (v := .int (E_nu ev)) C i1_ (pw_atP heL heF) (ci := 1) rfl 4 (by decide) w4_ rfl rfl dX0_apply_70 (pc2 := 73) rfl ?_
    refine pk_putX (X' := [(a, kC b (C_me c) (C_ra c) (C_co c) (C_al c) (C_re c) (C_lo c) (E_am ev) (E_nu ev) (C_he c) (C_go c) (C_br c) (C_cu c) (C_lc c) (C_ac c)), (b, cS t)]) C i0_ tyX0_ok nmX0 0 rfl (ci := 0) rfl 8 (by decide) w5_ rfl rfl rfl rfl rfl (Nat.le_of_ble_eq_true rfl) rfl dX0_apply_73 (pc2 := 76) rfl ?_
    refine pk_goto (tgt := 151) C dX0_apply_76 (by decide) ?_
    refine pw_conv (X' := [(a, cC b (C_mk (C_me c) (C_ra c) (C_co c) (C_al c) (C_re c) (C_lo c) (E_am ev) (E_nu ev) (C_he c) (C_go c) (C_br c) (C_cu c) (C_lc c) (C_ac c))), (b, cS t)]) rfl ?_
    exact pr_void C hE (po_d_rfl rfl (by first | with_reducible rfl | (unfold m_X0_apply; rw [if_neg h1_, if_pos h2_]))) dX0_apply_151
  by_cases h3_ : (E_ki ev) = 2
  ·
    refine pk_tableIn (tgt := 79) C dX0_apply_4 (by rw [h3_]; decide) (by rw [h3_]; decide) (by rw [h3_]; first | done | rfl) (by decide) ?_
    refine pk_aload_n C 0 dX0_apply_79 rfl rfl (pc2 := 80) rfl ?_
    refine pk_aload_n C 1 dX0_apply_80 rfl rfl (pc2 := 81) rfl ?_
    refine pk_get (v := .long (E_am ev)) C i1_ (pw_atP heL heF) (ci := 1) rfl 3 (by decide) w2_ rfl rfl dX0_apply_81 (pc2 := 84) rfl ?_
    refine pk_dV (cx := [(a, cC b c), (b, cS t)]) (wr := []) (X2 := [(a, cC b (m_X0_revalue c t (E_am ev))), (b, cS t)]) (st := []) (st2 := []) (As := [.long (E_am ev)]) C (c_X0_revalue (zl Z) (zG Z) L F a b c t (E_am ev)) gX0_apply_X0_revalue rfl rfl rfl 1 (by decide +kernel) ⟨Nat.le_of_ble_eq_true rfl, Nat.le_of_ble_eq_true rfl⟩ (pw_atX 0 rfl) rfl rfl rfl (Nat.le_of_ble_eq_true rfl) ⟨Nat.le_of_ble_eq_true rfl, Nat.le_of_ble_eq_true rfl⟩ [0, 1] [] [0, 1] rfl rfl rfl rfl (by decide) rfl rfl dX0_apply_84 (pc2 := 87) rfl rfl ?_
    generalize en2_ : (m_X0_revalue c t (E_am ev)) = n2_
    refine pk_goto (tgt := 151) C dX0_apply_87 (by decide) ?_
    subst en2_
    exact pr_void C hE (po_d_rfl rfl (by first | with_reducible rfl | (unfold m_X0_apply; rw [if_neg h1_, if_neg h2_, if_pos h3_]))) dX0_apply_151
  by_cases h4_ : (E_ki ev) = 3
  ·
    refine pk_tableIn (tgt := 90) C dX0_apply_4 (by rw [h4_]; decide) (by rw [h4_]; decide) (by rw [h4_]; first | done | rfl) (by decide) ?_
    refine pk_aload_n C 0 dX0_apply_90 rfl rfl (pc2 := 91) rfl ?_
    refine pk_aload_n C 0 dX0_apply_91 rfl rfl (pc2 := 92) rfl ?_
    refine pk_dV (cx := [(a, cC b c), (b, cS t)]) (wr := []) (X2 := [(a, cC b c), (b, cS t)]) (st := [.ref a]) (st2 := [.long (m_X0_book c t), .ref a]) (As := []) C (c_X0_book (zl Z) (zG Z) L F a b c t) gX0_apply_X0_book rfl rfl rfl 0 (by decide +kernel) ⟨Nat.le_of_ble_eq_true rfl, Nat.le_of_ble_eq_true rfl⟩ (pw_atX 0 rfl) rfl rfl rfl (Nat.le_of_ble_eq_true rfl) ⟨Nat.le_of_ble_eq_true rfl, Nat.le_of_ble_eq_true rfl⟩ [0, 1] [] [0, 1] rfl rfl rfl rfl (by decide) rfl rfl dX0_apply_92 (pc2 := 95) rfl rfl ?_
    refine pk_topl (fun n3_ en3_ => ?_)
    refine pk_aload_n C 1 dX0_apply_95 rfl rfl (pc2 := 96) rfl ?_
    refine pk_get (v := .long (E_am ev)) C i1_ (pw_atP heL heF) (ci := 1) rfl 3 (by decide) w2_ rfl rfl dX0_apply_96 (pc2 := 99) rfl ?_
    refine pk_lsub C dX0_apply_99 (pc2 := 100) rfl ?_
    refine pk_dV (cx := [(a, cC b c), (b, cS t)]) (wr := []) (X2 := [(a, cC b (m_X0_impair c t (n3_ - (E_am ev)))), (b, cS t)]) (st := []) (st2 := []) (As := [.long (n3_ - (E_am ev))]) C (c_X0_impair (zl Z) (zG Z) L F a b c t (n3_ - (E_am ev))) gX0_apply_X0_impair rfl rfl rfl 1 (by decide +kernel) ⟨Nat.le_of_ble_eq_true rfl, Nat.le_of_ble_eq_true rfl⟩ (pw_atX 0 rfl) rfl rfl rfl (Nat.le_of_ble_eq_true rfl) ⟨Nat.le_of_ble_eq_true rfl, Nat.le_of_ble_eq_true rfl⟩ [0, 1] [] [0, 1] rfl rfl rfl rfl (by decide) rfl rfl dX0_apply_100 (pc2 := 103) rfl rfl ?_
    generalize en4_ : (m_X0_impair c t (n3_ - (E_am ev))) = n4_
    refine pk_goto (tgt := 151) C dX0_apply_103 (by decide) ?_
    subst en3_ en4_
    exact pr_void C hE (po_d_rfl rfl (by first | with_reducible rfl | (unfold m_X0_apply; rw [if_neg h1_, if_neg h2_, if_neg h3_, if_pos h4_]))) dX0_apply_151
  by_cases h5_ : (E_ki ev) = 4
  ·
    refine pk_tableIn (tgt := 106) C dX0_apply_4 (by rw [h5_]; decide) (by rw [h5_]; decide) (by rw [h5_]; first | done | rfl) (by decide) ?_
    refine pk_aload_n C 0 dX0_apply_106 rfl rfl (pc2 := 107) rfl ?_
    refine pk_aload_n C 1 dX0_apply_107 rfl rfl (pc2 := 108) rfl ?_
    refine pk_get (v := .long (E_am ev)) C i1_ (pw_atP heL heF) (ci := 1) rfl 3 (by decide) w2_ rfl rfl dX0_apply_108 (pc2 := 111) rfl ?_
    refine pk_aload_n C 0 dX0_apply_111 rfl rfl (pc2 := 112) rfl ?_
    refine pk_dV (cx := [(a, cC b c), (b, cS t)]) (wr := []) (X2 := [(a, cC b c), (b, cS t)]) (st := [.long (E_am ev), .ref a]) (st2 := [.long (m_X0_book c t), .long (E_am ev), .ref a]) (As := []) C (c_X0_book (zl Z) (zG Z) L F a b c t) gX0_apply_X0_book rfl rfl rfl 0 (by decide +kernel) ⟨Nat.le_of_ble_eq_true rfl, Nat.le_of_ble_eq_true rfl⟩ (pw_atX 0 rfl) rfl rfl rfl (Nat.le_of_ble_eq_true rfl) ⟨Nat.le_of_ble_eq_true rfl, Nat.le_of_ble_eq_true rfl⟩ [0, 1] [] [0, 1] rfl rfl rfl rfl (by decide) rfl rfl dX0_apply_112 (pc2 := 115) rfl rfl ?_
    refine pk_topl (fun n5_ en5_ => ?_)
    refine pk_lsub C dX0_apply_115 (pc2 := 116) rfl ?_
    refine pk_dV (cx := [(a, cC b c), (b, cS t)]) (wr := []) (X2 := [(a, cC b (m_X0_restore c t ((E_am ev) - n5_))), (b, cS t)]) (st := []) (st2 := []) (As := [.long ((E_am ev) - n5_)]) C (c_X0_restore (zl Z) (zG Z) L F a b c t ((E_am ev) - n5_)) gX0_apply_X0_restore rfl rfl rfl 1 (by decide +kernel) ⟨Nat.le_of_ble_eq_true rfl, Nat.le_of_ble_eq_true rfl⟩ (pw_atX 0 rfl) rfl rfl rfl (Nat.le_of_ble_eq_true rfl) ⟨Nat.le_of_ble_eq_true rfl, Nat.le_of_ble_eq_true rfl⟩ [0, 1] [] [0, 1] rfl rfl rfl rfl (by decide) rfl rfl dX0_apply_116 (pc2 := 119) rfl rfl ?_
    generalize en6_ : (m_X0_restore c t ((E_am ev) - n5_)) = n6_
    refine pk_goto (tgt := 151) C dX0_apply_119 (by decide) ?_
    subst en5_ en6_
    exact pr_void C hE (po_d_rfl rfl (by first | with_reducible rfl | (unfold m_X0_apply; rw [if_neg h1_, if_neg h2_, if_neg h3_, if_neg h4_, if_pos h5_]))) dX0_apply_151
  by_cases h6_ : (E_ki ev) = 5
  ·
    refine pk_tableIn (tgt := 122) C dX0_apply_4 (by rw [h6_]; decide) (by rw [h6_]; decide) (by rw [h6_]; first | done | rfl) (by decide) ?_
    refine pk_aload_n C 0 dX0_apply_122 rfl rfl (pc2 := 123) rfl ?_
    refine pk_aload_n C 1 dX0_apply_123 rfl rfl (pc2 := 124) rfl ?_
    refine pk_get (v := .int (E_nu ev)) C i1_ (pw_atP heL heF) (ci := 1) rfl 4 (by decide) w4_ rfl rfl dX0_apply_124 (pc2 := 127) rfl ?_
    refine pk_dV (cx := [(a, cC b c), (b, cS t)]) (wr := []) (X2 := [(a, cC b (m_X0_sell c t (E_nu ev))), (b, cS t)]) (st := []) (st2 := []) (As := [.int (E_nu ev)]) C (c_X0_sell (zl Z) (zG Z) L F a b c t (E_nu ev)) gX0_apply_X0_sell rfl rfl rfl 1 (by decide +kernel) ⟨Nat.le_of_ble_eq_true rfl, Nat.le_of_ble_eq_true rfl⟩ (pw_atX 0 rfl) rfl rfl rfl (Nat.le_of_ble_eq_true rfl) ⟨Nat.le_of_ble_eq_true rfl, Nat.le_of_ble_eq_true rfl⟩ [0, 1] [] [0, 1] rfl rfl rfl rfl (by decide) rfl rfl dX0_apply_127 (pc2 := 130) rfl rfl ?_
    generalize en7_ : (m_X0_sell c t (E_nu ev)) = n7_
    refine pk_goto (tgt := 151) C dX0_apply_130 (by decide) ?_
    subst en7_
    exact pr_void C hE (po_d_rfl rfl (by first | with_reducible rfl | (unfold m_X0_apply; rw [if_neg h1_, if_neg h2_, if_neg h3_, if_neg h4_, if_neg h5_, if_pos h6_]))) dX0_apply_151
  refine pk_tableOut (tgt := 133) C dX0_apply_4 (sw_5 h1_ h2_ h3_ h4_ h5_ h6_) (by decide) ?_
  refine pk_aload_n C 0 dX0_apply_133 rfl rfl (pc2 := 134) rfl ?_
  refine pk_aload_n C 1 dX0_apply_134 rfl rfl (pc2 := 135) rfl ?_
  refine pk_get (v := .int (E_ki ev)) C i1_ (pw_atP heL heF) (ci := 1) rfl 2 (by decide) w0_ rfl rfl dX0_apply_135 (pc2 := 138) rfl ?_
  refine pk_bipush (v := 6) C dX0_apply_138 (by decide) (pc2 := 140) rfl ?_
  refine pk_icmp_ne (tgt := 147) C dX0_apply_140 (by decide) (pc2 := 143) rfl (fun h7_ => ?_) (fun h7_ => ?_)
  ·
    refine pk_iconst (v := 0) C dX0_apply_147 (by decide) (pc2 := 148) rfl ?_
    refine pk_putX (X' := [(a, kC b (C_me c) (C_ra c) (C_co c) (C_al c) (C_re c) (C_lo c) (C_rs c) (C_li c) 0 (C_go c) (C_br c) (C_cu c) (C_lc c) (C_ac c)), (b, cS t)]) C i0_ tyX0_ok nmX0 0 rfl (ci := 0) rfl 9 (by decide) w6_ rfl rfl rfl rfl rfl (Nat.le_of_ble_eq_true rfl) rfl dX0_apply_148 (pc2 := 151) rfl ?_
    refine pw_conv (X' := [(a, cC b (C_mk (C_me c) (C_ra c) (C_co c) (C_al c) (C_re c) (C_lo c) (C_rs c) (C_li c) 0 (C_go c) (C_br c) (C_cu c) (C_lc c) (C_ac c))), (b, cS t)]) rfl ?_
    exact pr_void C hE (po_d_rfl rfl (by first | with_reducible rfl | (unfold m_X0_apply; rw [if_neg h1_, if_neg h2_, if_neg h3_, if_neg h4_, if_neg h5_, if_neg h6_, if_neg h7_]))) dX0_apply_151
  ·
    refine pk_iconst (v := 1) C dX0_apply_143 (by decide) (pc2 := 144) rfl ?_
    refine pk_goto (tgt := 148) C dX0_apply_144 (by decide) ?_
    refine pk_putX (X' := [(a, kC b (C_me c) (C_ra c) (C_co c) (C_al c) (C_re c) (C_lo c) (C_rs c) (C_li c) 1 (C_go c) (C_br c) (C_cu c) (C_lc c) (C_ac c)), (b, cS t)]) C i0_ tyX0_ok nmX0 0 rfl (ci := 0) rfl 9 (by decide) w6_ rfl rfl rfl rfl rfl (Nat.le_of_ble_eq_true rfl) rfl dX0_apply_148 (pc2 := 151) rfl ?_
    refine pw_conv (X' := [(a, cC b (C_mk (C_me c) (C_ra c) (C_co c) (C_al c) (C_re c) (C_lo c) (C_rs c) (C_li c) 1 (C_go c) (C_br c) (C_cu c) (C_lc c) (C_ac c))), (b, cS t)]) rfl ?_
    exact pr_void C hE (po_d_rfl rfl (by first | with_reducible rfl | (unfold m_X0_apply; rw [if_neg h1_, if_neg h2_, if_neg h3_, if_neg h4_, if_neg h5_, if_neg h6_, if_pos h7_]))) dX0_apply_151
def m_X0_meet (c : CR) (t : SR) (ev : ER) (mr : Int64) : CR × SR :=
  if (m_X0_isBreach c t ev mr) = 0 then if (E_ki ev) = 6 then ((m_X0_apply c t ev), t) else if (E_ki ev) = 7 then ((m_X0_apply c t ev), t) else ((m_X0_apply c t ev), (m_X0_beginStretch (m_X0_apply c t ev) t)) else ((C_mk (C_me c) (C_ra c) (C_co c) (C_al c) (C_re c) (C_lo c) (C_rs c) (C_li c) (C_he c) (C_go c) 1 (C_cu c) (C_lc c) (C_ac c)), t)
set_option maxRecDepth 100000 in
set_option maxHeartbeats 2000000 in
theorem c_X0_meet (l : Launch) (G : pw_G) (L : List Nat) (F : Nat → va_E) (a b : Nat) (c : CR) (t : SR) (e : Nat) (ev : ER) (heL : e ∈ L) (heF : F e = cE ev) (mr : Int64) : PM l yX0_meet wsX0_meet ⟨4, 0, 0, 82⟩ G [.ref a, .ref e, .long mr] [(a, cC b c), (b, cS t)] L F 0 0 (po_d none [(a, cC b ((m_X0_meet c t ev mr).1)), (b, cS ((m_X0_meet c t ev mr).2))] L F) := by
  refine pm_entry (by decide) rfl rfl (Nat.le_of_ble_eq_true rfl) ?_
  intro Z Q C hl0 hG0 hnm hE
  subst hl0
  subst hG0
  have i1_ : ∀ w ∈ wsX10, w ∈ wsX0_meet := by decide +kernel
  have i0_ : ∀ w ∈ wsX00, w ∈ wsX0_meet := by decide +kernel
  have w0_ : Cond.fieldLink RX0 89 "AgedAssets$Event" "kind" "I" ∈ wsX0_meet := by decide +kernel
  have w1_ : Cond.fieldLink RX0 60 "AgedAssets$Course" "breached" "Z" ∈ wsX0_meet := by decide +kernel
  show PW Z [(a, cC b c), (b, cS t)] L F 0 0 Q 0 [(0, .ref a), (1, .ref e), (2, .long mr)] []
  refine pk_aload_n C 0 dX0_meet_0 rfl rfl (pc2 := 1) rfl ?_
  refine pk_aload_n C 1 dX0_meet_1 rfl rfl (pc2 := 2) rfl ?_
  refine pk_lload_n C 2 dX0_meet_2 rfl rfl (pc2 := 3) rfl ?_
  refine pk_dV (cx := [(a, cC b c), (b, cS t)]) (wr := []) (X2 := [(a, cC b c), (b, cS t)]) (st := []) (st2 := [.int (m_X0_isBreach c t ev mr)]) (As := [.ref e, .long mr]) C (c_X0_isBreach (zl Z) (zG Z) L F a b c t e ev heL heF mr) gX0_meet_X0_isBreach rfl rfl rfl 2 (by decide +kernel) ⟨Nat.le_of_ble_eq_true rfl, Nat.le_of_ble_eq_true rfl⟩ (pw_atX 0 rfl) rfl rfl rfl (Nat.le_of_ble_eq_true rfl) ⟨Nat.le_of_ble_eq_true rfl, Nat.le_of_ble_eq_true rfl⟩ [0, 1] [] [0, 1] rfl rfl rfl rfl (by decide) rfl rfl dX0_meet_3 (pc2 := 6) rfl rfl ?_
  refine pk_topi (fun n1_ en1_ => ?_)
  refine pk_if_eq (tgt := 15) C dX0_meet_6 (by decide) (pc2 := 9) rfl (fun h1_ => ?_) (fun h1_ => ?_)
  ·
    refine pk_aload_n C 0 dX0_meet_15 rfl rfl (pc2 := 16) rfl ?_
    refine pk_aload_n C 1 dX0_meet_16 rfl rfl (pc2 := 17) rfl ?_
    refine pk_dV (cx := [(a, cC b c), (b, cS t)]) (wr := []) (X2 := [(a, cC b (m_X0_apply c t ev)), (b, cS t)]) (st := []) (st2 := []) (As := [.ref e]) C (c_X0_apply (zl Z) (zG Z) L F a b c t e ev heL heF) gX0_meet_X0_apply rfl rfl rfl 1 (by decide +kernel) ⟨Nat.le_of_ble_eq_true rfl, Nat.le_of_ble_eq_true rfl⟩ (pw_atX 0 rfl) rfl rfl rfl (Nat.le_of_ble_eq_true rfl) ⟨Nat.le_of_ble_eq_true rfl, Nat.le_of_ble_eq_true rfl⟩ [0, 1] [] [0, 1] rfl rfl rfl rfl (by decide) rfl rfl dX0_meet_17 (pc2 := 20) rfl rfl ?_
    generalize en2_ : (m_X0_apply c t ev) = n2_
    refine pk_aload_n C 1 dX0_meet_20 rfl rfl (pc2 := 21) rfl ?_
    refine pk_get (v := .int (E_ki ev)) C i1_ (pw_atP heL heF) (ci := 1) rfl 2 (by decide) w0_ rfl rfl dX0_meet_21 (pc2 := 24) rfl ?_
    refine pk_bipush (v := 6) C dX0_meet_24 (by decide) (pc2 := 26) rfl ?_
    refine pk_icmp_eq (tgt := 42) C dX0_meet_26 (by decide) (pc2 := 29) rfl (fun h2_ => ?_) (fun h2_ => ?_)
    ·
      subst en1_ en2_
      exact pr_void C hE (po_d_rfl rfl (by first | with_reducible rfl | (unfold m_X0_meet; rw [if_pos h1_, if_pos h2_]))) dX0_meet_42
    ·
      refine pk_aload_n C 1 dX0_meet_29 rfl rfl (pc2 := 30) rfl ?_
      refine pk_get (v := .int (E_ki ev)) C i1_ (pw_atP heL heF) (ci := 1) rfl 2 (by decide) w0_ rfl rfl dX0_meet_30 (pc2 := 33) rfl ?_
      refine pk_bipush (v := 7) C dX0_meet_33 (by decide) (pc2 := 35) rfl ?_
      refine pk_icmp_eq (tgt := 42) C dX0_meet_35 (by decide) (pc2 := 38) rfl (fun h3_ => ?_) (fun h3_ => ?_)
      ·
        subst en1_ en2_
        exact pr_void C hE (po_d_rfl rfl (by first | with_reducible rfl | (unfold m_X0_meet; rw [if_pos h1_, if_neg h2_, if_pos h3_]))) dX0_meet_42
      ·
        refine pk_aload_n C 0 dX0_meet_38 rfl rfl (pc2 := 39) rfl ?_
        refine pk_dV (cx := [(a, cC b n2_), (b, cS t)]) (wr := []) (X2 := [(a, cC b n2_), (b, cS (m_X0_beginStretch n2_ t))]) (st := []) (st2 := []) (As := []) C (c_X0_beginStretch (zl Z) (zG Z) L F a b n2_ t) gX0_meet_X0_beginStretch rfl rfl rfl 0 (by decide +kernel) ⟨Nat.le_of_ble_eq_true rfl, Nat.le_of_ble_eq_true rfl⟩ (pw_atX 0 rfl) rfl rfl rfl (Nat.le_of_ble_eq_true rfl) ⟨Nat.le_of_ble_eq_true rfl, Nat.le_of_ble_eq_true rfl⟩ [0, 1] [] [0, 1] rfl rfl rfl rfl (by decide) rfl rfl dX0_meet_39 (pc2 := 42) rfl rfl ?_
        generalize en3_ : (m_X0_beginStretch n2_ t) = n3_
        subst en1_ en2_ en3_
        exact pr_void C hE (po_d_rfl rfl (by first | with_reducible rfl | (unfold m_X0_meet; rw [if_pos h1_, if_neg h2_, if_neg h3_]))) dX0_meet_42
  ·
    refine pk_aload_n C 0 dX0_meet_9 rfl rfl (pc2 := 10) rfl ?_
    refine pk_iconst (v := 1) C dX0_meet_10 (by decide) (pc2 := 11) rfl ?_
    refine pk_putX (X' := [(a, kC b (C_me c) (C_ra c) (C_co c) (C_al c) (C_re c) (C_lo c) (C_rs c) (C_li c) (C_he c) (C_go c) 1 (C_cu c) (C_lc c) (C_ac c)), (b, cS t)]) C i0_ tyX0_ok nmX0 0 rfl (ci := 0) rfl 11 (by decide) w1_ rfl rfl rfl rfl rfl (Nat.le_of_ble_eq_true rfl) rfl dX0_meet_11 (pc2 := 14) rfl ?_
    refine pw_conv (X' := [(a, cC b (C_mk (C_me c) (C_ra c) (C_co c) (C_al c) (C_re c) (C_lo c) (C_rs c) (C_li c) (C_he c) (C_go c) 1 (C_cu c) (C_lc c) (C_ac c))), (b, cS t)]) rfl ?_
    subst en1_
    exact pr_void C hE (po_d_rfl rfl (by first | with_reducible rfl | (unfold m_X0_meet; rw [if_neg h1_]))) dX0_meet_14
end
section
def m_X0_chargeMonth (c : CR) (t : SR) (us : Int32) : CR × SR :=
  if (C_he c) = 0 then if (C_go c) = 0 then if (C_li c) = 0 then ((C_mk (C_me c) (C_ra c) (C_co c) (C_al c) (C_re c) (C_lo c) (C_rs c) (C_li c) (C_he c) (C_go c) (C_br c) (C_cu c) 0 (C_ac c)), t) else if (C_me c) = 1 then ((C_mk (C_me c) (C_ra c) (C_co c) ((C_al c) + (m_X0_decliningCharge (C_mk (C_me c) (C_ra c) (C_co c) (C_al c) (C_re c) (C_lo c) (C_rs c) (C_li c) (C_he c) (C_go c) (C_br c) (C_cu c) 0 (C_ac c)) t)) (C_re c) (C_lo c) (C_rs c) ((C_li c) - 1) (C_he c) (C_go c) (C_br c) ((C_cu c) + (Int32.toInt64 us)) (m_X0_decliningCharge (C_mk (C_me c) (C_ra c) (C_co c) (C_al c) (C_re c) (C_lo c) (C_rs c) (C_li c) (C_he c) (C_go c) (C_br c) (C_cu c) 0 (C_ac c)) t) ((C_ac c) + (m_X0_decliningCharge (C_mk (C_me c) (C_ra c) (C_co c) (C_al c) (C_re c) (C_lo c) (C_rs c) (C_li c) (C_he c) (C_go c) (C_br c) (C_cu c) 0 (C_ac c)) t))), t) else ((C_mk (C_me c) (C_ra c) (C_co c) ((C_al c) + ((m_X3_nextCharge t (C_me c) us).1)) (C_re c) (C_lo c) (C_rs c) ((C_li c) - 1) (C_he c) (C_go c) (C_br c) ((C_cu c) + (Int32.toInt64 us)) ((m_X3_nextCharge t (C_me c) us).1) ((C_ac c) + ((m_X3_nextCharge t (C_me c) us).1))), ((m_X3_nextCharge t (C_me c) us).2)) else ((C_mk (C_me c) (C_ra c) (C_co c) (C_al c) (C_re c) (C_lo c) (C_rs c) (C_li c) (C_he c) (C_go c) (C_br c) (C_cu c) 0 (C_ac c)), t) else ((C_mk (C_me c) (C_ra c) (C_co c) (C_al c) (C_re c) (C_lo c) (C_rs c) (C_li c) (C_he c) (C_go c) (C_br c) (C_cu c) 0 (C_ac c)), t)
set_option maxRecDepth 100000 in
set_option maxHeartbeats 2000000 in
theorem c_X0_chargeMonth (l : Launch) (G : pw_G) (L : List Nat) (F : Nat → va_E) (a b : Nat) (c : CR) (t : SR) (us : Int32) : PM l yX0_chargeMonth wsX0_chargeMonth ⟨3, 0, 0, 68⟩ G [.ref a, .int us] [(a, cC b c), (b, cS t)] L F 0 0 (po_d none [(a, cC b ((m_X0_chargeMonth c t us).1)), (b, cS ((m_X0_chargeMonth c t us).2))] L F) := by
  refine pm_entry (by decide) rfl rfl (Nat.le_of_ble_eq_true rfl) ?_
  intro Z Q C hl0 hG0 hnm hE
  subst hl0
  subst hG0
  have i0_ : ∀ w ∈ wsX00, w ∈ wsX0_chargeMonth := by decide +kernel
  have w0_ : Cond.fieldLink RX0 66 "AgedAssets$Course" "lastCharge" "J" ∈ wsX0_chargeMonth := by decide +kernel
  have w1_ : Cond.fieldLink RX0 53 "AgedAssets$Course" "held" "Z" ∈ wsX0_chargeMonth := by decide +kernel
  have w2_ : Cond.fieldLink RX0 57 "AgedAssets$Course" "gone" "Z" ∈ wsX0_chargeMonth := by decide +kernel
  have w3_ : Cond.fieldLink RX0 50 "AgedAssets$Course" "restOfLife" "I" ∈ wsX0_chargeMonth := by decide +kernel
  have w4_ : Cond.fieldLink RX0 24 "AgedAssets$Course" "method" "I" ∈ wsX0_chargeMonth := by decide +kernel
  have w5_ : Cond.fieldLink RX0 12 "AgedAssets$Course" "stretch" "LAgedAssets$Stretch;" ∈ wsX0_chargeMonth := by decide +kernel
  have w6_ : Cond.fieldLink RX0 63 "AgedAssets$Course" "chargedUnits" "J" ∈ wsX0_chargeMonth := by decide +kernel
  have w7_ : Cond.fieldLink RX0 34 "AgedAssets$Course" "allowance" "J" ∈ wsX0_chargeMonth := by decide +kernel
  have w8_ : Cond.fieldLink RX0 69 "AgedAssets$Course" "allCharges" "J" ∈ wsX0_chargeMonth := by decide +kernel
  show PW Z [(a, cC b c), (b, cS t)] L F 0 0 Q 0 [(0, .ref a), (1, .int us)] []
  refine pk_aload_n C 0 dX0_chargeMonth_0 rfl rfl (pc2 := 1) rfl ?_
  refine pk_lconst (v := 0) C dX0_chargeMonth_1 (by decide) (pc2 := 2) rfl ?_
  refine pk_putX (X' := [(a, kC b (C_me c) (C_ra c) (C_co c) (C_al c) (C_re c) (C_lo c) (C_rs c) (C_li c) (C_he c) (C_go c) (C_br c) (C_cu c) 0 (C_ac c)), (b, cS t)]) C i0_ tyX0_ok nmX0 0 rfl (ci := 0) rfl 13 (by decide) w0_ rfl rfl rfl rfl rfl (Nat.le_of_ble_eq_true rfl) rfl dX0_chargeMonth_2 (pc2 := 5) rfl ?_
  refine pk_aload_n C 0 dX0_chargeMonth_5 rfl rfl (pc2 := 6) rfl ?_
  refine pk_get (v := .int (C_he c)) C i0_ (pw_atX 0 rfl) (ci := 0) rfl 9 (by decide) w1_ rfl rfl dX0_chargeMonth_6 (pc2 := 9) rfl ?_
  refine pk_if_ne (tgt := 26) C dX0_chargeMonth_9 (by decide) (pc2 := 12) rfl (fun h1_ => ?_) (fun h1_ => ?_)
  ·
    refine pw_conv (X' := [(a, cC b (C_mk (C_me c) (C_ra c) (C_co c) (C_al c) (C_re c) (C_lo c) (C_rs c) (C_li c) (C_he c) (C_go c) (C_br c) (C_cu c) 0 (C_ac c))), (b, cS t)]) rfl ?_
    exact pr_void C hE (po_d_rfl rfl (by first | with_reducible rfl | (unfold m_X0_chargeMonth; rw [if_neg h1_]))) dX0_chargeMonth_26
  ·
    refine pk_aload_n C 0 dX0_chargeMonth_12 rfl rfl (pc2 := 13) rfl ?_
    refine pk_get (v := .int (C_go c)) C i0_ (pw_atX 0 rfl) (ci := 0) rfl 10 (by decide) w2_ rfl rfl dX0_chargeMonth_13 (pc2 := 16) rfl ?_
    refine pk_if_ne (tgt := 26) C dX0_chargeMonth_16 (by decide) (pc2 := 19) rfl (fun h2_ => ?_) (fun h2_ => ?_)
    ·
      refine pw_conv (X' := [(a, cC b (C_mk (C_me c) (C_ra c) (C_co c) (C_al c) (C_re c) (C_lo c) (C_rs c) (C_li c) (C_he c) (C_go c) (C_br c) (C_cu c) 0 (C_ac c))), (b, cS t)]) rfl ?_
      exact pr_void C hE (po_d_rfl rfl (by first | with_reducible rfl | (unfold m_X0_chargeMonth; rw [if_pos h1_, if_neg h2_]))) dX0_chargeMonth_26
    ·
      refine pk_aload_n C 0 dX0_chargeMonth_19 rfl rfl (pc2 := 20) rfl ?_
      refine pk_get (v := .int (C_li c)) C i0_ (pw_atX 0 rfl) (ci := 0) rfl 8 (by decide) w3_ rfl rfl dX0_chargeMonth_20 (pc2 := 23) rfl ?_
      refine pk_if_ne (tgt := 27) C dX0_chargeMonth_23 (by decide) (pc2 := 26) rfl (fun h3_ => ?_) (fun h3_ => ?_)
      ·
        refine pk_aload_n C 0 dX0_chargeMonth_27 rfl rfl (pc2 := 28) rfl ?_
        refine pk_aload_n C 0 dX0_chargeMonth_28 rfl rfl (pc2 := 29) rfl ?_
        refine pk_get (v := .int (C_me c)) C i0_ (pw_atX 0 rfl) (ci := 0) rfl 1 (by decide) w4_ rfl rfl dX0_chargeMonth_29 (pc2 := 32) rfl ?_
        refine pk_iconst (v := 1) C dX0_chargeMonth_32 (by decide) (pc2 := 33) rfl ?_
        refine pk_icmp_ne (tgt := 43) C dX0_chargeMonth_33 (by decide) (pc2 := 36) rfl (fun h4_ => ?_) (fun h4_ => ?_)
        ·
          refine pk_aload_n C 0 dX0_chargeMonth_43 rfl rfl (pc2 := 44) rfl ?_
          refine pk_get (v := .ref b) C i0_ (pw_atX 0 rfl) (ci := 0) rfl 0 (by decide) w5_ rfl rfl dX0_chargeMonth_44 (pc2 := 47) rfl ?_
          refine pk_aload_n C 0 dX0_chargeMonth_47 rfl rfl (pc2 := 48) rfl ?_
          refine pk_get (v := .int (C_me c)) C i0_ (pw_atX 0 rfl) (ci := 0) rfl 1 (by decide) w4_ rfl rfl dX0_chargeMonth_48 (pc2 := 51) rfl ?_
          refine pk_iload_n C 1 dX0_chargeMonth_51 rfl rfl (pc2 := 52) rfl ?_
          refine pk_dV (cx := [(b, cS t)]) (wr := [(a, kC b (C_me c) (C_ra c) (C_co c) (C_al c) (C_re c) (C_lo c) (C_rs c) (C_li c) (C_he c) (C_go c) (C_br c) (C_cu c) 0 (C_ac c))]) (X2 := [(a, kC b (C_me c) (C_ra c) (C_co c) (C_al c) (C_re c) (C_lo c) (C_rs c) (C_li c) (C_he c) (C_go c) (C_br c) (C_cu c) 0 (C_ac c)), (b, cS ((m_X3_nextCharge t (C_me c) us).2))]) (st := [.ref a]) (st2 := [.long ((m_X3_nextCharge t (C_me c) us).1), .ref a]) (As := [.int (C_me c), .int us]) C (c_X3_nextCharge (zl Z) (zG Z) L F b t (C_me c) us) gX0_chargeMonth_X3_nextCharge rfl rfl rfl 2 (by decide +kernel) ⟨Nat.le_of_ble_eq_true rfl, Nat.le_of_ble_eq_true rfl⟩ (pw_atX 1 rfl) rfl rfl rfl (Nat.le_of_ble_eq_true rfl) ⟨Nat.le_of_ble_eq_true rfl, Nat.le_of_ble_eq_true rfl⟩ [1] [0] [0, 1] rfl rfl rfl rfl (by decide) rfl rfl dX0_chargeMonth_52 (pc2 := 55) rfl rfl ?_
          generalize en1_ : ((m_X3_nextCharge t (C_me c) us).2) = n1_
          refine pk_topl (fun n2_ en2_ => ?_)
          refine pk_putX (X' := [(a, kC b (C_me c) (C_ra c) (C_co c) (C_al c) (C_re c) (C_lo c) (C_rs c) (C_li c) (C_he c) (C_go c) (C_br c) (C_cu c) n2_ (C_ac c)), (b, cS n1_)]) C i0_ tyX0_ok nmX0 0 rfl (ci := 0) rfl 13 (by decide) w0_ rfl rfl rfl rfl rfl (Nat.le_of_ble_eq_true rfl) rfl dX0_chargeMonth_55 (pc2 := 58) rfl ?_
          refine pk_aload_n C 0 dX0_chargeMonth_58 rfl rfl (pc2 := 59) rfl ?_
          refine pk_dup C dX0_chargeMonth_59 rfl (pc2 := 60) rfl ?_
          refine pk_get (v := .int (C_li c)) C i0_ (pw_atX 0 rfl) (ci := 0) rfl 8 (by decide) w3_ rfl rfl dX0_chargeMonth_60 (pc2 := 63) rfl ?_
          refine pk_iconst (v := 1) C dX0_chargeMonth_63 (by decide) (pc2 := 64) rfl ?_
          refine pk_isub C dX0_chargeMonth_64 (pc2 := 65) rfl ?_
          refine pk_topi (fun n3_ en3_ => ?_)
          refine pk_putX (X' := [(a, kC b (C_me c) (C_ra c) (C_co c) (C_al c) (C_re c) (C_lo c) (C_rs c) n3_ (C_he c) (C_go c) (C_br c) (C_cu c) n2_ (C_ac c)), (b, cS n1_)]) C i0_ tyX0_ok nmX0 0 rfl (ci := 0) rfl 8 (by decide) w3_ rfl rfl rfl rfl rfl (Nat.le_of_ble_eq_true rfl) rfl dX0_chargeMonth_65 (pc2 := 68) rfl ?_
          refine pk_aload_n C 0 dX0_chargeMonth_68 rfl rfl (pc2 := 69) rfl ?_
          refine pk_dup C dX0_chargeMonth_69 rfl (pc2 := 70) rfl ?_
          refine pk_get (v := .long (C_cu c)) C i0_ (pw_atX 0 rfl) (ci := 0) rfl 12 (by decide) w6_ rfl rfl dX0_chargeMonth_70 (pc2 := 73) rfl ?_
          refine pk_iload_n C 1 dX0_chargeMonth_73 rfl rfl (pc2 := 74) rfl ?_
          refine pk_i2l C dX0_chargeMonth_74 (pc2 := 75) rfl ?_
          refine pk_ladd C dX0_chargeMonth_75 (pc2 := 76) rfl ?_
          refine pk_topl (fun n4_ en4_ => ?_)
          refine pk_putX (X' := [(a, kC b (C_me c) (C_ra c) (C_co c) (C_al c) (C_re c) (C_lo c) (C_rs c) n3_ (C_he c) (C_go c) (C_br c) n4_ n2_ (C_ac c)), (b, cS n1_)]) C i0_ tyX0_ok nmX0 0 rfl (ci := 0) rfl 12 (by decide) w6_ rfl rfl rfl rfl rfl (Nat.le_of_ble_eq_true rfl) rfl dX0_chargeMonth_76 (pc2 := 79) rfl ?_
          refine pk_aload_n C 0 dX0_chargeMonth_79 rfl rfl (pc2 := 80) rfl ?_
          refine pk_dup C dX0_chargeMonth_80 rfl (pc2 := 81) rfl ?_
          refine pk_get (v := .long (C_al c)) C i0_ (pw_atX 0 rfl) (ci := 0) rfl 4 (by decide) w7_ rfl rfl dX0_chargeMonth_81 (pc2 := 84) rfl ?_
          refine pk_aload_n C 0 dX0_chargeMonth_84 rfl rfl (pc2 := 85) rfl ?_
          refine pk_get (v := .long n2_) C i0_ (pw_atX 0 rfl) (ci := 0) rfl 13 (by decide) w0_ rfl rfl dX0_chargeMonth_85 (pc2 := 88) rfl ?_
          refine pk_ladd C dX0_chargeMonth_88 (pc2 := 89) rfl ?_
          refine pk_topl (fun n5_ en5_ => ?_)
          refine pk_putX (X' := [(a, kC b (C_me c) (C_ra c) (C_co c) n5_ (C_re c) (C_lo c) (C_rs c) n3_ (C_he c) (C_go c) (C_br c) n4_ n2_ (C_ac c)), (b, cS n1_)]) C i0_ tyX0_ok nmX0 0 rfl (ci := 0) rfl 4 (by decide) w7_ rfl rfl rfl rfl rfl (Nat.le_of_ble_eq_true rfl) rfl dX0_chargeMonth_89 (pc2 := 92) rfl ?_
          refine pk_aload_n C 0 dX0_chargeMonth_92 rfl rfl (pc2 := 93) rfl ?_
          refine pk_dup C dX0_chargeMonth_93 rfl (pc2 := 94) rfl ?_
          refine pk_get (v := .long (C_ac c)) C i0_ (pw_atX 0 rfl) (ci := 0) rfl 14 (by decide) w8_ rfl rfl dX0_chargeMonth_94 (pc2 := 97) rfl ?_
          refine pk_aload_n C 0 dX0_chargeMonth_97 rfl rfl (pc2 := 98) rfl ?_
          refine pk_get (v := .long n2_) C i0_ (pw_atX 0 rfl) (ci := 0) rfl 13 (by decide) w0_ rfl rfl dX0_chargeMonth_98 (pc2 := 101) rfl ?_
          refine pk_ladd C dX0_chargeMonth_101 (pc2 := 102) rfl ?_
          refine pk_topl (fun n6_ en6_ => ?_)
          refine pk_putX (X' := [(a, kC b (C_me c) (C_ra c) (C_co c) n5_ (C_re c) (C_lo c) (C_rs c) n3_ (C_he c) (C_go c) (C_br c) n4_ n2_ n6_), (b, cS n1_)]) C i0_ tyX0_ok nmX0 0 rfl (ci := 0) rfl 14 (by decide) w8_ rfl rfl rfl rfl rfl (Nat.le_of_ble_eq_true rfl) rfl dX0_chargeMonth_102 (pc2 := 105) rfl ?_
          refine pw_conv (X' := [(a, cC b (C_mk (C_me c) (C_ra c) (C_co c) n5_ (C_re c) (C_lo c) (C_rs c) n3_ (C_he c) (C_go c) (C_br c) n4_ n2_ n6_)), (b, cS n1_)]) rfl ?_
          subst en1_ en2_ en3_ en4_ en5_ en6_
          exact pr_void C hE (po_d_rfl rfl (by first | with_reducible rfl | (unfold m_X0_chargeMonth; rw [if_pos h1_, if_pos h2_, if_neg h3_, if_neg h4_]))) dX0_chargeMonth_105
        ·
          refine pk_aload_n C 0 dX0_chargeMonth_36 rfl rfl (pc2 := 37) rfl ?_
          refine pk_dV (cx := [(a, cC b (C_mk (C_me c) (C_ra c) (C_co c) (C_al c) (C_re c) (C_lo c) (C_rs c) (C_li c) (C_he c) (C_go c) (C_br c) (C_cu c) 0 (C_ac c))), (b, cS t)]) (wr := []) (X2 := [(a, kC b (C_me c) (C_ra c) (C_co c) (C_al c) (C_re c) (C_lo c) (C_rs c) (C_li c) (C_he c) (C_go c) (C_br c) (C_cu c) 0 (C_ac c)), (b, cS t)]) (st := [.ref a]) (st2 := [.long (m_X0_decliningCharge (C_mk (C_me c) (C_ra c) (C_co c) (C_al c) (C_re c) (C_lo c) (C_rs c) (C_li c) (C_he c) (C_go c) (C_br c) (C_cu c) 0 (C_ac c)) t), .ref a]) (As := []) C (c_X0_decliningCharge (zl Z) (zG Z) L F a b (C_mk (C_me c) (C_ra c) (C_co c) (C_al c) (C_re c) (C_lo c) (C_rs c) (C_li c) (C_he c) (C_go c) (C_br c) (C_cu c) 0 (C_ac c)) t) gX0_chargeMonth_X0_decliningCharge rfl rfl rfl 0 (by decide +kernel) ⟨Nat.le_of_ble_eq_true rfl, Nat.le_of_ble_eq_true rfl⟩ (pw_atX 0 rfl) rfl rfl rfl (Nat.le_of_ble_eq_true rfl) ⟨Nat.le_of_ble_eq_true rfl, Nat.le_of_ble_eq_true rfl⟩ [0, 1] [] [0, 1] rfl rfl rfl rfl (by decide) rfl rfl dX0_chargeMonth_37 (pc2 := 40) rfl rfl ?_
          refine pk_topl (fun n7_ en7_ => ?_)
          refine pk_goto (tgt := 55) C dX0_chargeMonth_40 (by decide) ?_
          refine pk_putX (X' := [(a, kC b (C_me c) (C_ra c) (C_co c) (C_al c) (C_re c) (C_lo c) (C_rs c) (C_li c) (C_he c) (C_go c) (C_br c) (C_cu c) n7_ (C_ac c)), (b, cS t)]) C i0_ tyX0_ok nmX0 0 rfl (ci := 0) rfl 13 (by decide) w0_ rfl rfl rfl rfl rfl (Nat.le_of_ble_eq_true rfl) rfl dX0_chargeMonth_55 (pc2 := 58) rfl ?_
          refine pk_aload_n C 0 dX0_chargeMonth_58 rfl rfl (pc2 := 59) rfl ?_
          refine pk_dup C dX0_chargeMonth_59 rfl (pc2 := 60) rfl ?_
          refine pk_get (v := .int (C_li c)) C i0_ (pw_atX 0 rfl) (ci := 0) rfl 8 (by decide) w3_ rfl rfl dX0_chargeMonth_60 (pc2 := 63) rfl ?_
          refine pk_iconst (v := 1) C dX0_chargeMonth_63 (by decide) (pc2 := 64) rfl ?_
          refine pk_isub C dX0_chargeMonth_64 (pc2 := 65) rfl ?_
          refine pk_topi (fun n8_ en8_ => ?_)
          refine pk_putX (X' := [(a, kC b (C_me c) (C_ra c) (C_co c) (C_al c) (C_re c) (C_lo c) (C_rs c) n8_ (C_he c) (C_go c) (C_br c) (C_cu c) n7_ (C_ac c)), (b, cS t)]) C i0_ tyX0_ok nmX0 0 rfl (ci := 0) rfl 8 (by decide) w3_ rfl rfl rfl rfl rfl (Nat.le_of_ble_eq_true rfl) rfl dX0_chargeMonth_65 (pc2 := 68) rfl ?_
          refine pk_aload_n C 0 dX0_chargeMonth_68 rfl rfl (pc2 := 69) rfl ?_
          refine pk_dup C dX0_chargeMonth_69 rfl (pc2 := 70) rfl ?_
          refine pk_get (v := .long (C_cu c)) C i0_ (pw_atX 0 rfl) (ci := 0) rfl 12 (by decide) w6_ rfl rfl dX0_chargeMonth_70 (pc2 := 73) rfl ?_
          refine pk_iload_n C 1 dX0_chargeMonth_73 rfl rfl (pc2 := 74) rfl ?_
          refine pk_i2l C dX0_chargeMonth_74 (pc2 := 75) rfl ?_
          refine pk_ladd C dX0_chargeMonth_75 (pc2 := 76) rfl ?_
          refine pk_topl (fun n9_ en9_ => ?_)
          refine pk_putX (X' := [(a, kC b (C_me c) (C_ra c) (C_co c) (C_al c) (C_re c) (C_lo c) (C_rs c) n8_ (C_he c) (C_go c) (C_br c) n9_ n7_ (C_ac c)), (b, cS t)]) C i0_ tyX0_ok nmX0 0 rfl (ci := 0) rfl 12 (by decide) w6_ rfl rfl rfl rfl rfl (Nat.le_of_ble_eq_true rfl) rfl dX0_chargeMonth_76 (pc2 := 79) rfl ?_
          refine pk_aload_n C 0 dX0_chargeMonth_79 rfl rfl (pc2 := 80) rfl ?_
          refine pk_dup C dX0_chargeMonth_80 rfl (pc2 := 81) rfl ?_
          refine pk_get (v := .long (C_al c)) C i0_ (pw_atX 0 rfl) (ci := 0) rfl 4 (by decide) w7_ rfl rfl dX0_chargeMonth_81 (pc2 := 84) rfl ?_
          refine pk_aload_n C 0 dX0_chargeMonth_84 rfl rfl (pc2 := 85) rfl ?_
          refine pk_get (v := .long n7_) C i0_ (pw_atX 0 rfl) (ci := 0) rfl 13 (by decide) w0_ rfl rfl dX0_chargeMonth_85 (pc2 := 88) rfl ?_
          refine pk_ladd C dX0_chargeMonth_88 (pc2 := 89) rfl ?_
          refine pk_topl (fun n10_ en10_ => ?_)
          refine pk_putX (X' := [(a, kC b (C_me c) (C_ra c) (C_co c) n10_ (C_re c) (C_lo c) (C_rs c) n8_ (C_he c) (C_go c) (C_br c) n9_ n7_ (C_ac c)), (b, cS t)]) C i0_ tyX0_ok nmX0 0 rfl (ci := 0) rfl 4 (by decide) w7_ rfl rfl rfl rfl rfl (Nat.le_of_ble_eq_true rfl) rfl dX0_chargeMonth_89 (pc2 := 92) rfl ?_
          refine pk_aload_n C 0 dX0_chargeMonth_92 rfl rfl (pc2 := 93) rfl ?_
          refine pk_dup C dX0_chargeMonth_93 rfl (pc2 := 94) rfl ?_
          refine pk_get (v := .long (C_ac c)) C i0_ (pw_atX 0 rfl) (ci := 0) rfl 14 (by decide) w8_ rfl rfl dX0_chargeMonth_94 (pc2 := 97) rfl ?_
          refine pk_aload_n C 0 dX0_chargeMonth_97 rfl rfl (pc2 := 98) rfl ?_
          refine pk_get (v := .long n7_) C i0_ (pw_atX 0 rfl) (ci := 0) rfl 13 (by decide) w0_ rfl rfl dX0_chargeMonth_98 (pc2 := 101) rfl ?_
          refine pk_ladd C dX0_chargeMonth_101 (pc2 := 102) rfl ?_
          refine pk_topl (fun n11_ en11_ => ?_)
          refine pk_putX (X' := [(a, kC b (C_me c) (C_ra c) (C_co c) n10_ (C_re c) (C_lo c) (C_rs c) n8_ (C_he c) (C_go c) (C_br c) n9_ n7_ n11_), (b, cS t)]) C i0_ tyX0_ok nmX0 0 rfl (ci := 0) rfl 14 (by decide) w8_ rfl rfl rfl rfl rfl (Nat.le_of_ble_eq_true rfl) rfl dX0_chargeMonth_102 (pc2 := 105) rfl ?_
          refine pw_conv (X' := [(a, cC b (C_mk (C_me c) (C_ra c) (C_co c) n10_ (C_re c) (C_lo c) (C_rs c) n8_ (C_he c) (C_go c) (C_br c) n9_ n7_ n11_)), (b, cS t)]) rfl ?_
          subst en7_ en8_ en9_ en10_ en11_
          exact pr_void C hE (po_d_rfl rfl (by first | with_reducible rfl | (unfold m_X0_chargeMonth; rw [if_pos h1_, if_pos h2_, if_neg h3_, if_pos h4_]))) dX0_chargeMonth_105
      ·
        refine pw_conv (X' := [(a, cC b (C_mk (C_me c) (C_ra c) (C_co c) (C_al c) (C_re c) (C_lo c) (C_rs c) (C_li c) (C_he c) (C_go c) (C_br c) (C_cu c) 0 (C_ac c))), (b, cS t)]) rfl ?_
        exact pr_void C hE (po_d_rfl rfl (by first | with_reducible rfl | (unfold m_X0_chargeMonth; rw [if_pos h1_, if_pos h2_, if_pos h3_]))) dX0_chargeMonth_26
end
section
def m_X0_open (c : CR) (t : SR) (pt : PR) : CR × SR :=
  ((C_mk (P_me pt) (P_ra pt) (P_co pt) 0 0 0 (P_rs pt) (P_li pt) 0 0 0 0 0 0), (m_X0_beginStretch (C_mk (P_me pt) (P_ra pt) (P_co pt) 0 0 0 (P_rs pt) (P_li pt) 0 0 0 0 0 0) t))
set_option maxRecDepth 100000 in
set_option maxHeartbeats 2000000 in
theorem c_X0_open (l : Launch) (G : pw_G) (L : List Nat) (F : Nat → va_E) (a b : Nat) (c : CR) (t : SR) (p u w q : Nat) (pt : PR) (hpL : p ∈ L) (hpF : F p = cP u w q pt) : PM l yX0_open wsX0_open ⟨2, 0, 0, 46⟩ G [.ref a, .ref p] [(a, cC b c), (b, cS t)] L F 0 0 (po_d none [(a, cC b ((m_X0_open c t pt).1)), (b, cS ((m_X0_open c t pt).2))] L F) := by
  refine pm_entry (by decide) rfl rfl (Nat.le_of_ble_eq_true rfl) ?_
  intro Z Q C hl0 hG0 hnm hE
  subst hl0
  subst hG0
  have i2_ : ∀ w ∈ wsX20, w ∈ wsX0_open := by decide +kernel
  have i0_ : ∀ w ∈ wsX00, w ∈ wsX0_open := by decide +kernel
  have w0_ : Cond.fieldLink RX0 18 "AgedAssets$Part" "method" "I" ∈ wsX0_open := by decide +kernel
  have w1_ : Cond.fieldLink RX0 24 "AgedAssets$Course" "method" "I" ∈ wsX0_open := by decide +kernel
  have w2_ : Cond.fieldLink RX0 25 "AgedAssets$Part" "rate" "I" ∈ wsX0_open := by decide +kernel
  have w3_ : Cond.fieldLink RX0 28 "AgedAssets$Course" "rate" "I" ∈ wsX0_open := by decide +kernel
  have w4_ : Cond.fieldLink RX0 29 "AgedAssets$Part" "cost" "J" ∈ wsX0_open := by decide +kernel
  have w5_ : Cond.fieldLink RX0 33 "AgedAssets$Course" "cost" "J" ∈ wsX0_open := by decide +kernel
  have w6_ : Cond.fieldLink RX0 34 "AgedAssets$Course" "allowance" "J" ∈ wsX0_open := by decide +kernel
  have w7_ : Cond.fieldLink RX0 37 "AgedAssets$Course" "reserve" "J" ∈ wsX0_open := by decide +kernel
  have w8_ : Cond.fieldLink RX0 40 "AgedAssets$Course" "losses" "J" ∈ wsX0_open := by decide +kernel
  have w9_ : Cond.fieldLink RX0 43 "AgedAssets$Part" "residual" "J" ∈ wsX0_open := by decide +kernel
  have w10_ : Cond.fieldLink RX0 46 "AgedAssets$Course" "residual" "J" ∈ wsX0_open := by decide +kernel
  have w11_ : Cond.fieldLink RX0 47 "AgedAssets$Part" "life" "I" ∈ wsX0_open := by decide +kernel
  have w12_ : Cond.fieldLink RX0 50 "AgedAssets$Course" "restOfLife" "I" ∈ wsX0_open := by decide +kernel
  have w13_ : Cond.fieldLink RX0 53 "AgedAssets$Course" "held" "Z" ∈ wsX0_open := by decide +kernel
  have w14_ : Cond.fieldLink RX0 57 "AgedAssets$Course" "gone" "Z" ∈ wsX0_open := by decide +kernel
  have w15_ : Cond.fieldLink RX0 60 "AgedAssets$Course" "breached" "Z" ∈ wsX0_open := by decide +kernel
  have w16_ : Cond.fieldLink RX0 63 "AgedAssets$Course" "chargedUnits" "J" ∈ wsX0_open := by decide +kernel
  have w17_ : Cond.fieldLink RX0 66 "AgedAssets$Course" "lastCharge" "J" ∈ wsX0_open := by decide +kernel
  have w18_ : Cond.fieldLink RX0 69 "AgedAssets$Course" "allCharges" "J" ∈ wsX0_open := by decide +kernel
  show PW Z [(a, cC b c), (b, cS t)] L F 0 0 Q 0 [(0, .ref a), (1, .ref p)] []
  refine pk_aload_n C 0 dX0_open_0 rfl rfl (pc2 := 1) rfl ?_
  refine pk_aload_n C 1 dX0_open_1 rfl rfl (pc2 := 2) rfl ?_
  refine pk_get (v := .int (P_me pt)) C i2_ (pw_atP hpL hpF) (ci := 2) rfl 4 (by decide) w0_ rfl rfl dX0_open_2 (pc2 := 5) rfl ?_
  refine pk_putX (X' := [(a, kC b (P_me pt) (C_ra c) (C_co c) (C_al c) (C_re c) (C_lo c) (C_rs c) (C_li c) (C_he c) (C_go c) (C_br c) (C_cu c) (C_lc c) (C_ac c)), (b, cS t)]) C i0_ tyX0_ok nmX0 0 rfl (ci := 0) rfl 1 (by decide) w1_ rfl rfl rfl rfl rfl (Nat.le_of_ble_eq_true rfl) rfl dX0_open_5 (pc2 := 8) rfl ?_
  refine pk_aload_n C 0 dX0_open_8 rfl rfl (pc2 := 9) rfl ?_
  refine pk_aload_n C 1 dX0_open_9 rfl rfl (pc2 := 10) rfl ?_
  refine pk_get (v := .int (P_ra pt)) C i2_ (pw_atP hpL hpF) (ci := 2) rfl 5 (by decide) w2_ rfl rfl dX0_open_10 (pc2 := 13) rfl ?_
  refine pk_putX (X' := [(a, kC b (P_me pt) (P_ra pt) (C_co c) (C_al c) (C_re c) (C_lo c) (C_rs c) (C_li c) (C_he c) (C_go c) (C_br c) (C_cu c) (C_lc c) (C_ac c)), (b, cS t)]) C i0_ tyX0_ok nmX0 0 rfl (ci := 0) rfl 2 (by decide) w3_ rfl rfl rfl rfl rfl (Nat.le_of_ble_eq_true rfl) rfl dX0_open_13 (pc2 := 16) rfl ?_
  refine pk_aload_n C 0 dX0_open_16 rfl rfl (pc2 := 17) rfl ?_
  refine pk_aload_n C 1 dX0_open_17 rfl rfl (pc2 := 18) rfl ?_
  refine pk_get (v := .long (P_co pt)) C i2_ (pw_atP hpL hpF) (ci := 2) rfl 0 (by decide) w4_ rfl rfl dX0_open_18 (pc2 := 21) rfl ?_
  refine pk_putX (X' := [(a, kC b (P_me pt) (P_ra pt) (P_co pt) (C_al c) (C_re c) (C_lo c) (C_rs c) (C_li c) (C_he c) (C_go c) (C_br c) (C_cu c) (C_lc c) (C_ac c)), (b, cS t)]) C i0_ tyX0_ok nmX0 0 rfl (ci := 0) rfl 3 (by decide) w5_ rfl rfl rfl rfl rfl (Nat.le_of_ble_eq_true rfl) rfl dX0_open_21 (pc2 := 24) rfl ?_
  refine pk_aload_n C 0 dX0_open_24 rfl rfl (pc2 := 25) rfl ?_
  refine pk_lconst (v := 0) C dX0_open_25 (by decide) (pc2 := 26) rfl ?_
  refine pk_putX (X' := [(a, kC b (P_me pt) (P_ra pt) (P_co pt) 0 (C_re c) (C_lo c) (C_rs c) (C_li c) (C_he c) (C_go c) (C_br c) (C_cu c) (C_lc c) (C_ac c)), (b, cS t)]) C i0_ tyX0_ok nmX0 0 rfl (ci := 0) rfl 4 (by decide) w6_ rfl rfl rfl rfl rfl (Nat.le_of_ble_eq_true rfl) rfl dX0_open_26 (pc2 := 29) rfl ?_
  refine pk_aload_n C 0 dX0_open_29 rfl rfl (pc2 := 30) rfl ?_
  refine pk_lconst (v := 0) C dX0_open_30 (by decide) (pc2 := 31) rfl ?_
  refine pk_putX (X' := [(a, kC b (P_me pt) (P_ra pt) (P_co pt) 0 0 (C_lo c) (C_rs c) (C_li c) (C_he c) (C_go c) (C_br c) (C_cu c) (C_lc c) (C_ac c)), (b, cS t)]) C i0_ tyX0_ok nmX0 0 rfl (ci := 0) rfl 5 (by decide) w7_ rfl rfl rfl rfl rfl (Nat.le_of_ble_eq_true rfl) rfl dX0_open_31 (pc2 := 34) rfl ?_
  refine pk_aload_n C 0 dX0_open_34 rfl rfl (pc2 := 35) rfl ?_
  refine pk_lconst (v := 0) C dX0_open_35 (by decide) (pc2 := 36) rfl ?_
  refine pk_putX (X' := [(a, kC b (P_me pt) (P_ra pt) (P_co pt) 0 0 0 (C_rs c) (C_li c) (C_he c) (C_go c) (C_br c) (C_cu c) (C_lc c) (C_ac c)), (b, cS t)]) C i0_ tyX0_ok nmX0 0 rfl (ci := 0) rfl 6 (by decide) w8_ rfl rfl rfl rfl rfl (Nat.le_of_ble_eq_true rfl) rfl dX0_open_36 (pc2 := 39) rfl ?_
  refine pk_aload_n C 0 dX0_open_39 rfl rfl (pc2 := 40) rfl ?_
  refine pk_aload_n C 1 dX0_open_40 rfl rfl (pc2 := 41) rfl ?_
  refine pk_get (v := .long (P_rs pt)) C i2_ (pw_atP hpL hpF) (ci := 2) rfl 1 (by decide) w9_ rfl rfl dX0_open_41 (pc2 := 44) rfl ?_
  refine pk_putX (X' := [(a, kC b (P_me pt) (P_ra pt) (P_co pt) 0 0 0 (P_rs pt) (C_li c) (C_he c) (C_go c) (C_br c) (C_cu c) (C_lc c) (C_ac c)), (b, cS t)]) C i0_ tyX0_ok nmX0 0 rfl (ci := 0) rfl 7 (by decide) w10_ rfl rfl rfl rfl rfl (Nat.le_of_ble_eq_true rfl) rfl dX0_open_44 (pc2 := 47) rfl ?_
  refine pk_aload_n C 0 dX0_open_47 rfl rfl (pc2 := 48) rfl ?_
  refine pk_aload_n C 1 dX0_open_48 rfl rfl (pc2 := 49) rfl ?_
  refine pk_get (v := .int (P_li pt)) C i2_ (pw_atP hpL hpF) (ci := 2) rfl 3 (by decide) w11_ rfl rfl dX0_open_49 (pc2 := 52) rfl ?_
  refine pk_putX (X' := [(a, kC b (P_me pt) (P_ra pt) (P_co pt) 0 0 0 (P_rs pt) (P_li pt) (C_he c) (C_go c) (C_br c) (C_cu c) (C_lc c) (C_ac c)), (b, cS t)]) C i0_ tyX0_ok nmX0 0 rfl (ci := 0) rfl 8 (by decide) w12_ rfl rfl rfl rfl rfl (Nat.le_of_ble_eq_true rfl) rfl dX0_open_52 (pc2 := 55) rfl ?_
  refine pk_aload_n C 0 dX0_open_55 rfl rfl (pc2 := 56) rfl ?_
  refine pk_iconst (v := 0) C dX0_open_56 (by decide) (pc2 := 57) rfl ?_
  refine pk_putX (X' := [(a, kC b (P_me pt) (P_ra pt) (P_co pt) 0 0 0 (P_rs pt) (P_li pt) 0 (C_go c) (C_br c) (C_cu c) (C_lc c) (C_ac c)), (b, cS t)]) C i0_ tyX0_ok nmX0 0 rfl (ci := 0) rfl 9 (by decide) w13_ rfl rfl rfl rfl rfl (Nat.le_of_ble_eq_true rfl) rfl dX0_open_57 (pc2 := 60) rfl ?_
  refine pk_aload_n C 0 dX0_open_60 rfl rfl (pc2 := 61) rfl ?_
  refine pk_iconst (v := 0) C dX0_open_61 (by decide) (pc2 := 62) rfl ?_
  refine pk_putX (X' := [(a, kC b (P_me pt) (P_ra pt) (P_co pt) 0 0 0 (P_rs pt) (P_li pt) 0 0 (C_br c) (C_cu c) (C_lc c) (C_ac c)), (b, cS t)]) C i0_ tyX0_ok nmX0 0 rfl (ci := 0) rfl 10 (by decide) w14_ rfl rfl rfl rfl rfl (Nat.le_of_ble_eq_true rfl) rfl dX0_open_62 (pc2 := 65) rfl ?_
  refine pk_aload_n C 0 dX0_open_65 rfl rfl (pc2 := 66) rfl ?_
  refine pk_iconst (v := 0) C dX0_open_66 (by decide) (pc2 := 67) rfl ?_
  refine pk_putX (X' := [(a, kC b (P_me pt) (P_ra pt) (P_co pt) 0 0 0 (P_rs pt) (P_li pt) 0 0 0 (C_cu c) (C_lc c) (C_ac c)), (b, cS t)]) C i0_ tyX0_ok nmX0 0 rfl (ci := 0) rfl 11 (by decide) w15_ rfl rfl rfl rfl rfl (Nat.le_of_ble_eq_true rfl) rfl dX0_open_67 (pc2 := 70) rfl ?_
  refine pk_aload_n C 0 dX0_open_70 rfl rfl (pc2 := 71) rfl ?_
  refine pk_lconst (v := 0) C dX0_open_71 (by decide) (pc2 := 72) rfl ?_
  refine pk_putX (X' := [(a, kC b (P_me pt) (P_ra pt) (P_co pt) 0 0 0 (P_rs pt) (P_li pt) 0 0 0 0 (C_lc c) (C_ac c)), (b, cS t)]) C i0_ tyX0_ok nmX0 0 rfl (ci := 0) rfl 12 (by decide) w16_ rfl rfl rfl rfl rfl (Nat.le_of_ble_eq_true rfl) rfl dX0_open_72 (pc2 := 75) rfl ?_
  refine pk_aload_n C 0 dX0_open_75 rfl rfl (pc2 := 76) rfl ?_
  refine pk_lconst (v := 0) C dX0_open_76 (by decide) (pc2 := 77) rfl ?_
  refine pk_putX (X' := [(a, kC b (P_me pt) (P_ra pt) (P_co pt) 0 0 0 (P_rs pt) (P_li pt) 0 0 0 0 0 (C_ac c)), (b, cS t)]) C i0_ tyX0_ok nmX0 0 rfl (ci := 0) rfl 13 (by decide) w17_ rfl rfl rfl rfl rfl (Nat.le_of_ble_eq_true rfl) rfl dX0_open_77 (pc2 := 80) rfl ?_
  refine pk_aload_n C 0 dX0_open_80 rfl rfl (pc2 := 81) rfl ?_
  refine pk_lconst (v := 0) C dX0_open_81 (by decide) (pc2 := 82) rfl ?_
  refine pk_putX (X' := [(a, kC b (P_me pt) (P_ra pt) (P_co pt) 0 0 0 (P_rs pt) (P_li pt) 0 0 0 0 0 0), (b, cS t)]) C i0_ tyX0_ok nmX0 0 rfl (ci := 0) rfl 14 (by decide) w18_ rfl rfl rfl rfl rfl (Nat.le_of_ble_eq_true rfl) rfl dX0_open_82 (pc2 := 85) rfl ?_
  refine pk_aload_n C 0 dX0_open_85 rfl rfl (pc2 := 86) rfl ?_
  refine pk_dV (cx := [(a, cC b (C_mk (P_me pt) (P_ra pt) (P_co pt) 0 0 0 (P_rs pt) (P_li pt) 0 0 0 0 0 0)), (b, cS t)]) (wr := []) (X2 := [(a, cC b (C_mk (P_me pt) (P_ra pt) (P_co pt) 0 0 0 (P_rs pt) (P_li pt) 0 0 0 0 0 0)), (b, cS (m_X0_beginStretch (C_mk (P_me pt) (P_ra pt) (P_co pt) 0 0 0 (P_rs pt) (P_li pt) 0 0 0 0 0 0) t))]) (st := []) (st2 := []) (As := []) C (c_X0_beginStretch (zl Z) (zG Z) L F a b (C_mk (P_me pt) (P_ra pt) (P_co pt) 0 0 0 (P_rs pt) (P_li pt) 0 0 0 0 0 0) t) gX0_open_X0_beginStretch rfl rfl rfl 0 (by decide +kernel) ⟨Nat.le_of_ble_eq_true rfl, Nat.le_of_ble_eq_true rfl⟩ (pw_atX 0 rfl) rfl rfl rfl (Nat.le_of_ble_eq_true rfl) ⟨Nat.le_of_ble_eq_true rfl, Nat.le_of_ble_eq_true rfl⟩ [0, 1] [] [0, 1] rfl rfl rfl rfl (by decide) rfl rfl dX0_open_86 (pc2 := 89) rfl rfl ?_
  generalize en1_ : (C_mk (P_me pt) (P_ra pt) (P_co pt) 0 0 0 (P_rs pt) (P_li pt) 0 0 0 0 0 0) = n1_
  generalize en2_ : (m_X0_beginStretch (C_mk (P_me pt) (P_ra pt) (P_co pt) 0 0 0 (P_rs pt) (P_li pt) 0 0 0 0 0 0) t) = n2_
  subst en1_ en2_
  exact pr_void C hE (po_d_rfl rfl (by first | with_reducible rfl | (unfold m_X0_open; with_reducible rfl))) dX0_open_89
end

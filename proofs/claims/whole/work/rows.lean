section
-- ===== PART A: goes FIRST, ahead of the names: the tables' words, and 'selects' of the private methods out of them =====
/-- a private method of a class that the tables say can be made, by its rows of tables_1 -/
def lw_okq (q : MethodName × Nat) : Prop := (q.1.cls ≠ "java/lang/invoke/MethodHandle" ∧ q.1.cls ≠ "java/lang/invoke/VarHandle") ∧ Cond.instantiable q.1.cls q.2 ∈ tables_1 ∧ Cond.privateMethod q.1 ∈ tables_1 ∧ Cond.instanceMethod q.1 ∈ tables_1
theorem lw_p0 : lw_okq (⟨"AgedAssets", "eventOf", "(I)LAgedAssets$Event;"⟩, 7) := ⟨⟨by decide +kernel, by decide +kernel⟩, List.mem_of_getElem? (i := 14) (by decide +kernel), List.mem_of_getElem? (i := 138) (by decide +kernel), List.mem_of_getElem? (i := 139) (by decide +kernel)⟩
theorem lw_p1 : lw_okq (⟨"AgedAssets", "partOf", "(I)LAgedAssets$Part;"⟩, 7) := ⟨⟨by decide +kernel, by decide +kernel⟩, List.mem_of_getElem? (i := 14) (by decide +kernel), List.mem_of_getElem? (i := 142) (by decide +kernel), List.mem_of_getElem? (i := 143) (by decide +kernel)⟩
theorem lw_p2 : lw_okq (⟨"AgedAssets", "hasBreach", "(LAgedAssets$Part;)Z"⟩, 7) := ⟨⟨by decide +kernel, by decide +kernel⟩, List.mem_of_getElem? (i := 14) (by decide +kernel), List.mem_of_getElem? (i := 146) (by decide +kernel), List.mem_of_getElem? (i := 147) (by decide +kernel)⟩
theorem lw_p3 : lw_okq (⟨"AgedAssets", "follow", "(LAgedAssets$Part;I)V"⟩, 7) := ⟨⟨by decide +kernel, by decide +kernel⟩, List.mem_of_getElem? (i := 14) (by decide +kernel), List.mem_of_getElem? (i := 150) (by decide +kernel), List.mem_of_getElem? (i := 151) (by decide +kernel)⟩
theorem lw_p4 : lw_okq (⟨"AgedAssets$Course", "beginStretch", "()V"⟩, 15) := ⟨⟨by decide +kernel, by decide +kernel⟩, List.mem_of_getElem? (i := 26) (by decide +kernel), List.mem_of_getElem? (i := 158) (by decide +kernel), List.mem_of_getElem? (i := 159) (by decide +kernel)⟩
theorem lw_p5 : lw_okq (⟨"AgedAssets$Course", "isBreach", "(LAgedAssets$Event;J)Z"⟩, 15) := ⟨⟨by decide +kernel, by decide +kernel⟩, List.mem_of_getElem? (i := 26) (by decide +kernel), List.mem_of_getElem? (i := 182) (by decide +kernel), List.mem_of_getElem? (i := 183) (by decide +kernel)⟩
theorem lw_p6 : lw_okq (⟨"AgedAssets$Course", "apply", "(LAgedAssets$Event;)V"⟩, 15) := ⟨⟨by decide +kernel, by decide +kernel⟩, List.mem_of_getElem? (i := 26) (by decide +kernel), List.mem_of_getElem? (i := 186) (by decide +kernel), List.mem_of_getElem? (i := 187) (by decide +kernel)⟩
theorem lw_p7 : lw_okq (⟨"AgedAssets$Course", "revalue", "(J)V"⟩, 15) := ⟨⟨by decide +kernel, by decide +kernel⟩, List.mem_of_getElem? (i := 26) (by decide +kernel), List.mem_of_getElem? (i := 190) (by decide +kernel), List.mem_of_getElem? (i := 191) (by decide +kernel)⟩
theorem lw_p8 : lw_okq (⟨"AgedAssets$Course", "lose", "(J)V"⟩, 15) := ⟨⟨by decide +kernel, by decide +kernel⟩, List.mem_of_getElem? (i := 26) (by decide +kernel), List.mem_of_getElem? (i := 194) (by decide +kernel), List.mem_of_getElem? (i := 195) (by decide +kernel)⟩
theorem lw_p9 : lw_okq (⟨"AgedAssets$Course", "impair", "(J)V"⟩, 15) := ⟨⟨by decide +kernel, by decide +kernel⟩, List.mem_of_getElem? (i := 26) (by decide +kernel), List.mem_of_getElem? (i := 201) (by decide +kernel), List.mem_of_getElem? (i := 202) (by decide +kernel)⟩
theorem lw_p10 : lw_okq (⟨"AgedAssets$Course", "restore", "(J)V"⟩, 15) := ⟨⟨by decide +kernel, by decide +kernel⟩, List.mem_of_getElem? (i := 26) (by decide +kernel), List.mem_of_getElem? (i := 205) (by decide +kernel), List.mem_of_getElem? (i := 206) (by decide +kernel)⟩
theorem lw_p11 : lw_okq (⟨"AgedAssets$Course", "sell", "(I)V"⟩, 15) := ⟨⟨by decide +kernel, by decide +kernel⟩, List.mem_of_getElem? (i := 26) (by decide +kernel), List.mem_of_getElem? (i := 209) (by decide +kernel), List.mem_of_getElem? (i := 210) (by decide +kernel)⟩
theorem lw_p12 : lw_okq (⟨"AgedAssets$Course", "decliningCharge", "()J"⟩, 15) := ⟨⟨by decide +kernel, by decide +kernel⟩, List.mem_of_getElem? (i := 26) (by decide +kernel), List.mem_of_getElem? (i := 224) (by decide +kernel), List.mem_of_getElem? (i := 225) (by decide +kernel)⟩
theorem lw_p13 : lw_okq (⟨"AgedAssets$Stretch", "chargesTogether", "(I)J"⟩, 6) := ⟨⟨by decide +kernel, by decide +kernel⟩, List.mem_of_getElem? (i := 32) (by decide +kernel), List.mem_of_getElem? (i := 232) (by decide +kernel), List.mem_of_getElem? (i := 233) (by decide +kernel)⟩
theorem lw_p14 : lw_okq (⟨"java/lang/Throwable", "fillInStackTrace", "(I)Ljava/lang/Throwable;"⟩, 6) := ⟨⟨by decide +kernel, by decide +kernel⟩, List.mem_of_getElem? (i := 312) (by decide +kernel), List.mem_of_getElem? (i := 310) (by decide +kernel), List.mem_of_getElem? (i := 311) (by decide +kernel)⟩
theorem lw_p15 : lw_okq (⟨"AgedAssetsModel", "isPart", "(I)Z"⟩, 37) := ⟨⟨by decide +kernel, by decide +kernel⟩, List.mem_of_getElem? (i := 507) (by decide +kernel), List.mem_of_getElem? (i := 647) (by decide +kernel), List.mem_of_getElem? (i := 648) (by decide +kernel)⟩
def lw_privs_1 : List (MethodName × Nat) := [(⟨"AgedAssets", "eventOf", "(I)LAgedAssets$Event;"⟩, 7), (⟨"AgedAssets", "partOf", "(I)LAgedAssets$Part;"⟩, 7), (⟨"AgedAssets", "hasBreach", "(LAgedAssets$Part;)Z"⟩, 7), (⟨"AgedAssets", "follow", "(LAgedAssets$Part;I)V"⟩, 7), (⟨"AgedAssets$Course", "beginStretch", "()V"⟩, 15), (⟨"AgedAssets$Course", "isBreach", "(LAgedAssets$Event;J)Z"⟩, 15), (⟨"AgedAssets$Course", "apply", "(LAgedAssets$Event;)V"⟩, 15), (⟨"AgedAssets$Course", "revalue", "(J)V"⟩, 15), (⟨"AgedAssets$Course", "lose", "(J)V"⟩, 15), (⟨"AgedAssets$Course", "impair", "(J)V"⟩, 15), (⟨"AgedAssets$Course", "restore", "(J)V"⟩, 15), (⟨"AgedAssets$Course", "sell", "(I)V"⟩, 15), (⟨"AgedAssets$Course", "decliningCharge", "()J"⟩, 15), (⟨"AgedAssets$Stretch", "chargesTogether", "(I)J"⟩, 6), (⟨"java/lang/Throwable", "fillInStackTrace", "(I)Ljava/lang/Throwable;"⟩, 6), (⟨"AgedAssetsModel", "isPart", "(I)Z"⟩, 37)]
theorem lw_r1 : ∀ q ∈ lw_privs_1, lw_okq q := List.forall_mem_cons.mpr ⟨lw_p0, List.forall_mem_cons.mpr ⟨lw_p1, List.forall_mem_cons.mpr ⟨lw_p2, List.forall_mem_cons.mpr ⟨lw_p3, List.forall_mem_cons.mpr ⟨lw_p4, List.forall_mem_cons.mpr ⟨lw_p5, List.forall_mem_cons.mpr ⟨lw_p6, List.forall_mem_cons.mpr ⟨lw_p7, List.forall_mem_cons.mpr ⟨lw_p8, List.forall_mem_cons.mpr ⟨lw_p9, List.forall_mem_cons.mpr ⟨lw_p10, List.forall_mem_cons.mpr ⟨lw_p11, List.forall_mem_cons.mpr ⟨lw_p12, List.forall_mem_cons.mpr ⟨lw_p13, List.forall_mem_cons.mpr ⟨lw_p14, List.forall_mem_cons.mpr ⟨lw_p15, fun _ h => absurd h List.not_mem_nil⟩⟩⟩⟩⟩⟩⟩⟩⟩⟩⟩⟩⟩⟩⟩⟩
theorem lw_p16 : lw_okq (⟨"AgedAssetsModel", "reckon", "(II)Z"⟩, 37) := ⟨⟨by decide +kernel, by decide +kernel⟩, List.mem_of_getElem? (i := 507) (by decide +kernel), List.mem_of_getElem? (i := 651) (by decide +kernel), List.mem_of_getElem? (i := 652) (by decide +kernel)⟩
theorem lw_p17 : lw_okq (⟨"AgedAssetsModel", "go", "(IIZ)I"⟩, 37) := ⟨⟨by decide +kernel, by decide +kernel⟩, List.mem_of_getElem? (i := 507) (by decide +kernel), List.mem_of_getElem? (i := 655) (by decide +kernel), List.mem_of_getElem? (i := 656) (by decide +kernel)⟩
theorem lw_p18 : lw_okq (⟨"AgedAssetsModel", "clear", "()V"⟩, 37) := ⟨⟨by decide +kernel, by decide +kernel⟩, List.mem_of_getElem? (i := 507) (by decide +kernel), List.mem_of_getElem? (i := 659) (by decide +kernel), List.mem_of_getElem? (i := 660) (by decide +kernel)⟩
theorem lw_p19 : lw_okq (⟨"AgedAssetsModel", "stretch", "(I)V"⟩, 37) := ⟨⟨by decide +kernel, by decide +kernel⟩, List.mem_of_getElem? (i := 507) (by decide +kernel), List.mem_of_getElem? (i := 663) (by decide +kernel), List.mem_of_getElem? (i := 664) (by decide +kernel)⟩
theorem lw_p20 : lw_okq (⟨"AgedAssetsModel", "book", "()J"⟩, 37) := ⟨⟨by decide +kernel, by decide +kernel⟩, List.mem_of_getElem? (i := 507) (by decide +kernel), List.mem_of_getElem? (i := 667) (by decide +kernel), List.mem_of_getElem? (i := 668) (by decide +kernel)⟩
theorem lw_p21 : lw_okq (⟨"AgedAssetsModel", "eventIn", "(II)I"⟩, 37) := ⟨⟨by decide +kernel, by decide +kernel⟩, List.mem_of_getElem? (i := 507) (by decide +kernel), List.mem_of_getElem? (i := 671) (by decide +kernel), List.mem_of_getElem? (i := 672) (by decide +kernel)⟩
theorem lw_p22 : lw_okq (⟨"AgedAssetsModel", "happens", "(II)Z"⟩, 37) := ⟨⟨by decide +kernel, by decide +kernel⟩, List.mem_of_getElem? (i := 507) (by decide +kernel), List.mem_of_getElem? (i := 675) (by decide +kernel), List.mem_of_getElem? (i := 676) (by decide +kernel)⟩
theorem lw_p23 : lw_okq (⟨"AgedAssetsModel", "values", "(J)V"⟩, 37) := ⟨⟨by decide +kernel, by decide +kernel⟩, List.mem_of_getElem? (i := 507) (by decide +kernel), List.mem_of_getElem? (i := 679) (by decide +kernel), List.mem_of_getElem? (i := 680) (by decide +kernel)⟩
theorem lw_p24 : lw_okq (⟨"AgedAssetsModel", "fall", "(J)V"⟩, 37) := ⟨⟨by decide +kernel, by decide +kernel⟩, List.mem_of_getElem? (i := 507) (by decide +kernel), List.mem_of_getElem? (i := 683) (by decide +kernel), List.mem_of_getElem? (i := 684) (by decide +kernel)⟩
theorem lw_p25 : lw_okq (⟨"AgedAssetsModel", "impairs", "(J)Z"⟩, 37) := ⟨⟨by decide +kernel, by decide +kernel⟩, List.mem_of_getElem? (i := 507) (by decide +kernel), List.mem_of_getElem? (i := 687) (by decide +kernel), List.mem_of_getElem? (i := 688) (by decide +kernel)⟩
theorem lw_p26 : lw_okq (⟨"AgedAssetsModel", "restores", "(JI)Z"⟩, 37) := ⟨⟨by decide +kernel, by decide +kernel⟩, List.mem_of_getElem? (i := 507) (by decide +kernel), List.mem_of_getElem? (i := 691) (by decide +kernel), List.mem_of_getElem? (i := 692) (by decide +kernel)⟩
theorem lw_p27 : lw_okq (⟨"AgedAssetsModel", "sells", "(I)V"⟩, 37) := ⟨⟨by decide +kernel, by decide +kernel⟩, List.mem_of_getElem? (i := 507) (by decide +kernel), List.mem_of_getElem? (i := 695) (by decide +kernel), List.mem_of_getElem? (i := 696) (by decide +kernel)⟩
theorem lw_p28 : lw_okq (⟨"AgedAssetsModel", "writeOff", "(II)V"⟩, 37) := ⟨⟨by decide +kernel, by decide +kernel⟩, List.mem_of_getElem? (i := 507) (by decide +kernel), List.mem_of_getElem? (i := 707) (by decide +kernel), List.mem_of_getElem? (i := 708) (by decide +kernel)⟩
theorem lw_p29 : lw_okq (⟨"AgedAssetsModel", "declining", "(II)J"⟩, 37) := ⟨⟨by decide +kernel, by decide +kernel⟩, List.mem_of_getElem? (i := 507) (by decide +kernel), List.mem_of_getElem? (i := 711) (by decide +kernel), List.mem_of_getElem? (i := 712) (by decide +kernel)⟩
theorem lw_p30 : lw_okq (⟨"AgedAssetsModel", "together", "(I)J"⟩, 37) := ⟨⟨by decide +kernel, by decide +kernel⟩, List.mem_of_getElem? (i := 507) (by decide +kernel), List.mem_of_getElem? (i := 715) (by decide +kernel), List.mem_of_getElem? (i := 716) (by decide +kernel)⟩
theorem lw_p31 : lw_okq (⟨"AgedAssetsModel", "countOf", "(I)I"⟩, 37) := ⟨⟨by decide +kernel, by decide +kernel⟩, List.mem_of_getElem? (i := 507) (by decide +kernel), List.mem_of_getElem? (i := 724) (by decide +kernel), List.mem_of_getElem? (i := 725) (by decide +kernel)⟩
def lw_privs_2 : List (MethodName × Nat) := [(⟨"AgedAssetsModel", "reckon", "(II)Z"⟩, 37), (⟨"AgedAssetsModel", "go", "(IIZ)I"⟩, 37), (⟨"AgedAssetsModel", "clear", "()V"⟩, 37), (⟨"AgedAssetsModel", "stretch", "(I)V"⟩, 37), (⟨"AgedAssetsModel", "book", "()J"⟩, 37), (⟨"AgedAssetsModel", "eventIn", "(II)I"⟩, 37), (⟨"AgedAssetsModel", "happens", "(II)Z"⟩, 37), (⟨"AgedAssetsModel", "values", "(J)V"⟩, 37), (⟨"AgedAssetsModel", "fall", "(J)V"⟩, 37), (⟨"AgedAssetsModel", "impairs", "(J)Z"⟩, 37), (⟨"AgedAssetsModel", "restores", "(JI)Z"⟩, 37), (⟨"AgedAssetsModel", "sells", "(I)V"⟩, 37), (⟨"AgedAssetsModel", "writeOff", "(II)V"⟩, 37), (⟨"AgedAssetsModel", "declining", "(II)J"⟩, 37), (⟨"AgedAssetsModel", "together", "(I)J"⟩, 37), (⟨"AgedAssetsModel", "countOf", "(I)I"⟩, 37)]
theorem lw_r2 : ∀ q ∈ lw_privs_2, lw_okq q := List.forall_mem_cons.mpr ⟨lw_p16, List.forall_mem_cons.mpr ⟨lw_p17, List.forall_mem_cons.mpr ⟨lw_p18, List.forall_mem_cons.mpr ⟨lw_p19, List.forall_mem_cons.mpr ⟨lw_p20, List.forall_mem_cons.mpr ⟨lw_p21, List.forall_mem_cons.mpr ⟨lw_p22, List.forall_mem_cons.mpr ⟨lw_p23, List.forall_mem_cons.mpr ⟨lw_p24, List.forall_mem_cons.mpr ⟨lw_p25, List.forall_mem_cons.mpr ⟨lw_p26, List.forall_mem_cons.mpr ⟨lw_p27, List.forall_mem_cons.mpr ⟨lw_p28, List.forall_mem_cons.mpr ⟨lw_p29, List.forall_mem_cons.mpr ⟨lw_p30, List.forall_mem_cons.mpr ⟨lw_p31, fun _ h => absurd h List.not_mem_nil⟩⟩⟩⟩⟩⟩⟩⟩⟩⟩⟩⟩⟩⟩⟩⟩
theorem lw_p32 : lw_okq (⟨"AgedAssetsModel", "isEvent", "(I)Z"⟩, 37) := ⟨⟨by decide +kernel, by decide +kernel⟩, List.mem_of_getElem? (i := 507) (by decide +kernel), List.mem_of_getElem? (i := 732) (by decide +kernel), List.mem_of_getElem? (i := 733) (by decide +kernel)⟩
theorem lw_p33 : lw_okq (⟨"AgedAssetsModel", "totalOf", "(I)J"⟩, 37) := ⟨⟨by decide +kernel, by decide +kernel⟩, List.mem_of_getElem? (i := 507) (by decide +kernel), List.mem_of_getElem? (i := 757) (by decide +kernel), List.mem_of_getElem? (i := 758) (by decide +kernel)⟩
def lw_privs_3 : List (MethodName × Nat) := [(⟨"AgedAssetsModel", "isEvent", "(I)Z"⟩, 37), (⟨"AgedAssetsModel", "totalOf", "(I)J"⟩, 37)]
theorem lw_r3 : ∀ q ∈ lw_privs_3, lw_okq q := List.forall_mem_cons.mpr ⟨lw_p32, List.forall_mem_cons.mpr ⟨lw_p33, fun _ h => absurd h List.not_mem_nil⟩⟩
def lw_privs : List (MethodName × Nat) := lw_privs_1 ++ (lw_privs_2 ++ (lw_privs_3))
def lw_tbl : List Cond := k2_sels lw_privs ++ tables_1
theorem lw_privs_ok : ∀ q ∈ lw_privs, lw_okq q := by
  show ∀ q ∈ lw_privs_1 ++ (lw_privs_2 ++ (lw_privs_3)), lw_okq q
  exact List.forall_mem_append.mpr ⟨lw_r1, List.forall_mem_append.mpr ⟨lw_r2, lw_r3⟩⟩
end
section
/-! ===== BEGIN words of one list among another's, by their places ===== -/
theorem goodIn_r {big : List Cond} (ws : List Cond) (ps : List Nat) (hp : ws = ps.filterMap (fun i => big[i]?)) (h : ws.all goodWord = true) : GoodIn big ws := by
  intro w hw
  have h1 := List.all_eq_true.mp h w hw
  rw [hp] at hw
  obtain ⟨i, -, hi⟩ := List.mem_filterMap.mp hw
  have hm : w ∈ big := by first | exact List.mem_of_getElem? hi | exact List.getElem?_mem hi
  exact ⟨hm, good_of_word h1⟩
theorem goodIn_app {big a b : List Cond} (ha : GoodIn big a) (hb : GoodIn big b) : GoodIn big (a ++ b) := fun w h => (List.mem_append.mp h).elim (ha w) (hb w)
theorem goodIn_ca {big a b : List Cond} {c : Cond} (ha : GoodIn big (c :: a)) (hb : GoodIn big b) : GoodIn big (c :: (a ++ b)) := fun w h => (List.mem_cons.mp h).elim (fun e => ha w (List.mem_cons.mpr (Or.inl e))) (fun h => (List.mem_append.mp h).elim (fun h => ha w (List.mem_cons.mpr (Or.inr h))) (hb w))
theorem goodIn_sub {big ws : List Cond} (hm : ∀ w ∈ ws, w ∈ big) (h : ws.all goodWord = true) : GoodIn big ws := fun w hw => ⟨hm w hw, good_of_word (List.all_eq_true.mp h w hw)⟩
/-! ===== END ===== -/

/-! ===== BEGIN exceptions that leave a method, and their catching by the caller (launches without stack traces) ===== -/
section VXA
/-! The laws vx_back, vx_callV, vx_callS, vx_callSW, vx_throw0, vx_throwS follow proofs of the library, with one case more: JvmDerived/Free/Laws.lean (Back.of_free), Shelf42/LK1.lean (callV, callS), Shelf/KitTraced.lean (throwNew0V, throwNewS). -/
/-- where a method has thrown q: the class by its name, the cell, what was written, the world -/
def vx_T (XC : String → State → State → Prop) (st : State) (q : Addr) (t : State) (mc ms : Nat) (free : Addr → Prop) : Prop :=
  ∃ (E : String) (ce : Cell) (L : List Loc), XC E st t ∧ t.heap[q]? = some ce ∧ ce.vm = .none ∧ st.vm.findClass E = some ce.cls ∧ st.WarmedH t.vm ∧ st.sameButNew ({ t with vm := st.vm } : State) L mc ms ∧ ∀ z ∈ L, free z.base
def vx_Q (Qc : Array Value → State → Outcome → State → Prop) (XC : String → State → State → Prop) (mc ms : Nat) (free : Addr → Prop) : Array Value → State → Outcome → State → Prop := fun a st o t =>
  (Qc a st o t ∧ ∃ L, FrameEnd st o t L mc ms ∧ ∀ q ∈ L, free q.base) ∨ ∃ q, o = .threw q ∧ vx_T XC st q t mc ms free
/-- a callee that returns or throws -/
def vx_Met (l : Launch) (y : MethodName) (ws : List Cond) (rm : Room) (Pc : Array Value → State → Prop) (Qc : Array Value → State → Outcome → State → Prop) (XC : String → State → State → Prop) (mc ms : Nat) (free : Addr → Prop) : Prop :=
  MetFree l y (headSpec ws rm) Pc (fun _ _ _ _ _ => True) (vx_Q Qc XC mc ms free)
def vx_Post (XC : String → State → State → Prop) (mc ms : Nat) (free : Addr → Prop) : Pt → Array Value → Addr → Pt → Prop := fun A a q B =>
  ∃ (g : JFrame) (mk : MethodId) (t : State) (L : List Loc) (E : String) (ce : Cell), B.U.heap = t.heap ∧ B.U.vm = t.vm ∧ XC E (A.U.calling g mk a) t ∧ t.heap[q]? = some ce ∧ ce.vm = .none ∧ A.U.vm.findClass E = some ce.cls ∧ B.locs = A.locs ++ L ∧ (∀ z ∈ L, free z.base) ∧ B.cells = A.cells + mc ∧ B.slots = A.slots + ms
def vx_Back (l : Launch) (R : Room) (p : Program) (e : Env) (below : List Frame) (s : State) (sargs : Array Value) (y : MethodName) (len W9 : Nat)
    (Pre : Pt → Array Value → Prop) (Post : Pt → Array Value → Option Value → Pt → Prop) (PostX : Pt → Array Value → Addr → Pt → Prop) : Prop :=
  ∀ (m : MethodId) (meth : Method) (c : Code) (A : Pt) (g : JFrame) (ig : Instr) (mk : MethodId) (a : Array Value),
    Stand p l e R s m sargs below meth c A.U A.locs A.cells A.slots → g.method = m → g.locals.size = c.maxLocals → decode c.code g.pc = .ok (ig, len) →
    2 * g.monitorRoom + (g.stack.map fun v => v.category).sum ≤ W9 → A.U.methodNamed? y = some mk → Pre A a →
    (∃ (v : Option Value) (B : Pt), Stand p l e R s m sargs below meth c B.U B.locs B.cells B.slots ∧ Post A a v B ∧
      Steps p.tables e below (doInvoke e (A.U.setTop g) [] mk a).1 (B.U.setTop { g with pc := g.pc + len, stack := v.toList ++ g.stack })) ∨
    (∃ (q : Addr) (B : Pt), Stand p l e R s m sargs below meth c B.U B.locs B.cells B.slots ∧ PostX A a q B ∧
      Steps p.tables e below (doInvoke e (A.U.setTop g) [] mk a).1 ((B.U.setTop g).pushFrame (.throwing q)))
section Payer
variable {l : Launch} {R : Room} {p : Program} {e : Env} {below : List Frame} {s : State} {sargs : Array Value} {y : MethodName} {len W9 : Nat}
theorem vx_back {ws : List Cond} {rm : Room} {Pc : Array Value → State → Prop} {Qc : Array Value → State → Outcome → State → Prop} {XC : String → State → State → Prop} {mc ms : Nat} {free : Addr → Prop} {bytes : ByteArray} {maxL : Nat} {ret : Option FieldType}
    (hM : vx_Met l y ws rm Pc Qc XC mc ms free) (hblind : FrameBlind Pc) (hrc : rm.cells = mc) (hrs : rm.slots = ms)
    (hframes : rm.frames + 1 ≤ R.frames) (hlocals : W9 + (maxL + 11) + rm.locals ≤ R.locals)
    (hws : ∀ w ∈ ws, ∀ a' U, s.WarmedH U.vm → w.before a' U = true) (hcode : Cond.code y bytes maxL ret ∈ ws) (hinit : ∀ a' U, s.WarmedH U.vm → (Cond.initialized y.cls).before a' U = true) :
    vx_Back l R p e below s sargs y len W9 (PreOf R mc ms Pc) (PostOf Qc mc ms free) (vx_Post XC mc ms free) := by
  intro m meth c A g ig mk a X hg hsize hdg hW hn hp
  have h1 : (headSpec ws rm).pre.before a A.U = true := atoms_intro fun w hw => hws w hw _ _ X.warmed
  have h2 : (Cond.code y bytes maxL ret).before a A.U = true := hws _ hcode _ _ X.warmed
  have h3 : (Cond.initialized y.cls).before a A.U = true := hinit _ _ X.warmed
  have h4 : A.cells + (headSpec ws rm).room.cells ≤ R.cells := by rw [show (headSpec ws rm).room.cells = mc from hrc]; exact hp.1
  have h5 : A.slots + (headSpec ws rm).room.slots ≤ R.slots := by rw [show (headSpec ws rm).room.slots = ms from hrs]; exact hp.2.1
  have hPc : Pc a (A.U.calling g mk a) := hblind _ _ _ _ hp.2.2
  obtain ⟨U, Ls, c0, s0⟩ := A
  dsimp only [Pt.U, Pt.locs, Pt.cells, Pt.slots] at h1 h2 h3 h4 h5 X hn hPc ⊢
  obtain ⟨methY, cY, hmY, hcY, -, hlY, -, -, -, -⟩ := Cond.code_spec hn h2
  obtain ⟨kY, hkY, -⟩ := className_of_methodNamed hn
  have hinitY : kY.init = .initialized := Cond.initialized_spec (findClass_of_methodNamed hn) hkY h3
  have h : At U g.method c below := by rw [hg]; exact X.here
  have hlocals9 : W9 + (maxL + 11) + (headSpec ws rm).room.locals ≤ R.locals := hlocals
  have happ : (headSpec ws rm).appliesLoose y e.platform (U.calling g mk a) = true :=
    Spec.appliesLoose_calling (g := g) h hdg hn hkY hinitY
      (X.room_calling (g := g) (R' := (headSpec ws rm).room) hsize hmY hcY hframes (by rw [hlY]; omega) h4 h5) h1
  obtain ⟨mid, hmid⟩ := h.above
  have hfr : (U.setTop g).frames = (.java g :: mid) ++ below := by rw [State.frames_setTop' g h.top, hmid]; rfl
  obtain ⟨o, s₂, hsteps, -, hend, hq⟩ := Steps.callFree hM p X.admits X.cas X.clock (acts := []) hfr happ hPc trivial
  have hq' : vx_Q Qc XC mc ms free a (U.calling g mk a) o s₂ := hq
  rw [State.frames_setTop' g h.top] at hend
  obtain ⟨g₀, hg0⟩ := Option.isSome_iff_exists.mp h.top
  obtain ⟨r, hr⟩ := State.topJava?_eq_some.mp hg0
  have hr' : (({ U with heap := s₂.heap, slotsUsed := s₂.slotsUsed } : State).setVm s₂.vm).frames = .java g₀ :: r := hr
  rcases hq' with ⟨hqc, L, hfe, hL⟩ | ⟨q, rfl, E, ce, L, hx, hce, hcv, hcl, hW₂, hsm, hL⟩
  · obtain ⟨⟨v, rfl⟩, hW₂, e2, q2, q3, q4, q5, q6⟩ := id hfe
    have e3 : s₂ = ({ (U.calling g mk a).setFrames s₂.frames with heap := s₂.heap, slotsUsed := s₂.slotsUsed } : State).setVm s₂.vm := by
      have : s₂ = ({ s₂ with vm := (U.calling g mk a).vm } : State).setVm s₂.vm := rfl
      rw [e2] at this
      exact this
    obtain ⟨c₂, i₂, len₂, hc₂, hd₂, hf₂⟩ := hend
    have hW' : U.WarmedH s₂.vm := hW₂
    have hcc : c₂ = c := by
      have h1 : s₂.code? g.method = U.code? g.method := by
        rw [State.code?_eq, State.code?_eq, hW'.alike.method?]
      exact Option.some.inj (hc₂.symm.trans (h1.trans h.code))
    subst hcc
    have hlen : len₂ = len := by rw [hdg] at hd₂; cases hd₂; rfl
    subst hlen
    have hs₂ : s₂ = (({ U with heap := s₂.heap, slotsUsed := s₂.slotsUsed } : State).setVm s₂.vm).setTop { g with pc := g.pc + len₂, stack := v.toList ++ g.stack } := by
      refine e3.trans ?_
      rw [hf₂, State.calling_eq h.top, State.setFrames_setFrames, State.setTop_of_frames _ hr', hr]
      rfl
    have hsame : U.sameButNew ({ U with heap := s₂.heap, slotsUsed := s₂.slotsUsed } : State) L mc ms := by
      refine ⟨?_, q2, q3, q4, q5, q6⟩
      obtain ⟨t, ht, -⟩ := State.frames_cons hr
      show ({ U with heap := s₂.heap, slotsUsed := s₂.slotsUsed } : State) = { U.setFrames U.frames with heap := s₂.heap, slotsUsed := s₂.slotsUsed }
      rw [State.setFrames_self ht]
    subst hg
    refine Or.inl ⟨v, ⟨(({ U with heap := s₂.heap, slotsUsed := s₂.slotsUsed } : State).setVm s₂.vm), Ls ++ L, c0 + mc, s0 + ms⟩,
      ⟨X.admits, X.cas, X.clock, X.frames, X.room, X.hears, X.method, X.code, (X.here.setHeapUsed s₂.heap s₂.slotsUsed).setVm hW'.alike, X.tail, State.WarmedH.trans X.warmed hW', X.limits, X.bytes, X.same.trans (hsame.setVm s.vm)⟩,
      ⟨g, mk, s₂, L, rfl, rfl, hqc, rfl, hL, rfl, rfl⟩, ?_⟩
    show Steps p.tables e below _ ((({ U with heap := s₂.heap, slotsUsed := s₂.slotsUsed } : State).setVm s₂.vm).setTop { g with pc := g.pc + len₂, stack := v.toList ++ g.stack })
    rw [← hs₂]
    exact hsteps
  · obtain ⟨e2, q2, q3, q4, q5, q6⟩ := id hsm
    have e3 : s₂ = ({ (U.calling g mk a).setFrames s₂.frames with heap := s₂.heap, slotsUsed := s₂.slotsUsed } : State).setVm s₂.vm := by
      have : s₂ = ({ s₂ with vm := (U.calling g mk a).vm } : State).setVm s₂.vm := rfl
      rw [e2] at this
      exact this
    have hf₂ : s₂.frames = .throwing q :: .java g :: U.frames.tail := hend
    have hW' : U.WarmedH s₂.vm := hW₂
    have hs₂ : s₂ = ((({ U with heap := s₂.heap, slotsUsed := s₂.slotsUsed } : State).setVm s₂.vm).setTop g).pushFrame (.throwing q) := by
      refine e3.trans ?_
      rw [hf₂, State.calling_eq h.top, State.setFrames_setFrames, State.pushFrame, State.frames_setTop _ hr', State.setTop_of_frames _ hr', State.setFrames_setFrames, hr]
      rfl
    have hsame : U.sameButNew ({ U with heap := s₂.heap, slotsUsed := s₂.slotsUsed } : State) L mc ms := by
      refine ⟨?_, q2, q3, q4, q5, q6⟩
      obtain ⟨t, ht, -⟩ := State.frames_cons hr
      show ({ U with heap := s₂.heap, slotsUsed := s₂.slotsUsed } : State) = { U.setFrames U.frames with heap := s₂.heap, slotsUsed := s₂.slotsUsed }
      rw [State.setFrames_self ht]
    subst hg
    refine Or.inr ⟨q, ⟨(({ U with heap := s₂.heap, slotsUsed := s₂.slotsUsed } : State).setVm s₂.vm), Ls ++ L, c0 + mc, s0 + ms⟩,
      ⟨X.admits, X.cas, X.clock, X.frames, X.room, X.hears, X.method, X.code, (X.here.setHeapUsed s₂.heap s₂.slotsUsed).setVm hW'.alike, X.tail, State.WarmedH.trans X.warmed hW', X.limits, X.bytes, X.same.trans (hsame.setVm s.vm)⟩,
      ⟨g, mk, s₂, L, E, ce, rfl, rfl, hx, hce, hcv, hcl, rfl, hL, rfl, rfl⟩, ?_⟩
    show Steps p.tables e below _ (((({ U with heap := s₂.heap, slotsUsed := s₂.slotsUsed } : State).setVm s₂.vm).setTop g).pushFrame (.throwing q))
    rw [← hs₂]
    exact hsteps
end Payer
section Calls
variable {p : Program} {l : Launch} {e : Env} {R : Room} {s : State} {m : MethodId} {args : Array Value} {below : List Frame} {meth : Method} {c : Code} {T : State} {locs : List Loc} {cells slots : Nat}
theorem vx_callV (X : Stand p l e R s m args below meth c T locs cells slots) (hexec : p.tables.exec = Jvm.exec) {own C : String} {index : Nat} {y : MethodName} {bytes : ByteArray} {maxL : Nat} {ret : Option FieldType}
    (hown : s.vm.findClass own = some m.cls) (hlink : (Cond.methodLink own index y).before args s = true) (hinst : (Cond.instanceMethod y).before args s = true) (hsel : (Cond.selects C y y).before args s = true)
    (hcode : (Cond.code y bytes maxL ret).before args s = true) (hy : y.cls ≠ "java/lang/invoke/MethodHandle" ∧ y.cls ≠ "java/lang/invoke/VarHandle")
    {W9 : Nat} {Pre : Pt → Array Value → Prop} {Post : Pt → Array Value → Option Value → Pt → Prop} {PostX : Pt → Array Value → Addr → Pt → Prop} (hK : vx_Back l R p e below s args y 3 W9 Pre Post PostX)
    {b : Addr} {cellB : Cell} (hcell : T.heap[b]? = some cellB) (hobj : cellB.vm.isStatics = false) (hcls : s.vm.findClass C = some cellB.cls)
    {g : JFrame} (hg : g.method = m) (hsize : g.locals.size = c.maxLocals) {argsL rest : List Value} (hlen : ∀ sig, parseMethodDescriptor y.desc = some sig → argsL.length = sig.parameters.length)
    (hstack : g.stack = argsL.reverse ++ .ref b :: rest) (hW : 2 * g.monitorRoom + (rest.map fun v => v.category).sum ≤ W9) (hdg : decode c.code g.pc = .ok (.invokevirtual index, 3))
    (hpre : ∀ vm₁, s.WarmedH vm₁ → Pre ⟨T.setVm vm₁, locs, cells, slots⟩ (Value.ref b :: argsL).toArray) :
    (∃ (v : Option Value) (vm₁ : Vm) (B : Pt), s.WarmedH vm₁ ∧ Stand p l e R s m args below meth c B.U B.locs B.cells B.slots ∧ Post ⟨T.setVm vm₁, locs, cells, slots⟩ (Value.ref b :: argsL).toArray v B ∧
      ∀ target, Steps p.tables e below (B.U.setTop { g with pc := g.pc + 3, stack := v.toList ++ rest }) target → Steps p.tables e below (T.setTop g) target) ∨
    (∃ (q : Addr) (vm₁ : Vm) (B : Pt), s.WarmedH vm₁ ∧ Stand p l e R s m args below meth c B.U B.locs B.cells B.slots ∧ PostX ⟨T.setVm vm₁, locs, cells, slots⟩ (Value.ref b :: argsL).toArray q B ∧
      Steps p.tables e below (T.setTop g) ((B.U.setTop { g with stack := rest }).pushFrame (.throwing q))) := by
  obtain ⟨mk, methM, hnamed, hmethM, hstM, habM⟩ := Cond.instanceMethod_spec hinst
  obtain ⟨methM', cM, hmethM', -, -, -, -, -, -, hsigM⟩ := Cond.code_spec hnamed hcode
  cases hmethM.symm.trans hmethM'
  obtain ⟨c2, r2, m2, q1, q2, q3, q4, kP, hkP, hkPi⟩ := Cond.selects_spec hsel
  cases hcls.symm.trans q1
  cases (State.methodFound?_of_named hnamed hy).symm.trans q2
  cases hnamed.symm.trans q3
  have hselP : selectMethod e.platform s.vm cellB.cls mk = .method mk := by rw [Launch.admits_selectMethod X.admits]; exact q4
  obtain ⟨vm₁, X₁, hstep₁⟩ := X.invokevirtual hexec hown hlink hnamed hmethM hstM hkP hkPi hy (a := b) (cell := cellB) hcell
    (fun z h => by rw [h] at hobj; cases hobj) hselP hmethM habM hkP hkPi (g := g) hg (argsL := argsL) (rest := rest) (hlen _ hsigM) hstack hdg
  rcases hK m meth c ⟨T.setVm vm₁, locs, cells, slots⟩ { g with stack := rest } (.invokevirtual index) mk (Value.ref b :: argsL).toArray X₁ hg hsize hdg hW (X₁.named hnamed) (hpre vm₁ X₁.warmed) with ⟨v, B, X', hpost, hsteps⟩ | ⟨q, B, X', hpost, hsteps⟩
  · exact Or.inl ⟨v, vm₁, B, X₁.warmed, X', hpost, fun target h => hstep₁ _ fun acts => by rw [doInvoke_state]; exact hsteps.trans h⟩
  · exact Or.inr ⟨q, vm₁, B, X₁.warmed, X', hpost, hstep₁ _ fun acts => by rw [doInvoke_state]; exact hsteps⟩
theorem vx_callS (X : Stand p l e R s m args below meth c T locs cells slots) (hexec : p.tables.exec = Jvm.exec) {own : String} {index : Nat} {y : MethodName} {bytes : ByteArray} {maxL : Nat} {ret : Option FieldType}
    (hown : s.vm.findClass own = some m.cls) (hlink : (Cond.methodLink own index y).before args s = true) (hstat : (Cond.static y).before args s = true) (hinit : (Cond.initialized y.cls).before args s = true)
    (hcode : (Cond.code y bytes maxL ret).before args s = true) (hy : y.cls ≠ "java/lang/invoke/MethodHandle" ∧ y.cls ≠ "java/lang/invoke/VarHandle")
    {W9 : Nat} {Pre : Pt → Array Value → Prop} {Post : Pt → Array Value → Option Value → Pt → Prop} {PostX : Pt → Array Value → Addr → Pt → Prop} (hK : vx_Back l R p e below s args y 3 W9 Pre Post PostX)
    {g : JFrame} (hg : g.method = m) (hsize : g.locals.size = c.maxLocals) {argsL rest : List Value} (hlen : ∀ sig, parseMethodDescriptor y.desc = some sig → argsL.length = sig.parameters.length)
    (hstack : g.stack = argsL.reverse ++ rest) (hW : 2 * g.monitorRoom + (rest.map fun v => v.category).sum ≤ W9) (hdg : decode c.code g.pc = .ok (.invokestatic index, 3))
    (hpre : ∀ vm₁, s.WarmedH vm₁ → Pre ⟨T.setVm vm₁, locs, cells, slots⟩ argsL.toArray) :
    (∃ (v : Option Value) (vm₁ : Vm) (B : Pt), s.WarmedH vm₁ ∧ Stand p l e R s m args below meth c B.U B.locs B.cells B.slots ∧ Post ⟨T.setVm vm₁, locs, cells, slots⟩ argsL.toArray v B ∧
      ∀ target, Steps p.tables e below (B.U.setTop { g with pc := g.pc + 3, stack := v.toList ++ rest }) target → Steps p.tables e below (T.setTop g) target) ∨
    (∃ (q : Addr) (vm₁ : Vm) (B : Pt), s.WarmedH vm₁ ∧ Stand p l e R s m args below meth c B.U B.locs B.cells B.slots ∧ PostX ⟨T.setVm vm₁, locs, cells, slots⟩ argsL.toArray q B ∧
      Steps p.tables e below (T.setTop g) ((B.U.setTop { g with stack := rest }).pushFrame (.throwing q))) := by
  obtain ⟨mk, hnamed⟩ := Cond.code_named hcode
  obtain ⟨methM, cM, hmethM, -, -, -, -, -, -, hsigM⟩ := Cond.code_spec hnamed hcode
  have hstatic : methM.isStatic = true := Cond.static_spec hnamed hmethM hstat
  obtain ⟨kP, hkP, -⟩ := className_of_methodNamed hnamed
  have hinitP : kP.init = .initialized := Cond.initialized_spec (findClass_of_methodNamed hnamed) hkP hinit
  obtain ⟨vm₁, X₁, hstep₁⟩ := X.invokestatic hexec hown hlink hnamed hmethM hstatic hkP hinitP hy (g := g) hg (argsL := argsL) (rest := rest) (hlen _ hsigM) hstack hdg
  rcases hK m meth c ⟨T.setVm vm₁, locs, cells, slots⟩ { g with stack := rest } (.invokestatic index) mk argsL.toArray X₁ hg hsize hdg hW (X₁.named hnamed) (hpre vm₁ X₁.warmed) with ⟨v, B, X', hpost, hsteps⟩ | ⟨q, B, X', hpost, hsteps⟩
  · exact Or.inl ⟨v, vm₁, B, X₁.warmed, X', hpost, fun target h => hstep₁ _ fun acts => by rw [doInvoke_state]; exact hsteps.trans h⟩
  · exact Or.inr ⟨q, vm₁, B, X₁.warmed, X', hpost, hstep₁ _ fun acts => by rw [doInvoke_state]; exact hsteps⟩
end Calls
theorem vx_cls {s : State} {T : State} {vm₁ : Vm} {E : String} {k : ClassId} (hW : s.WarmedH vm₁) (h : (T.setVm vm₁).vm.findClass E = some k) : s.vm.findClass E = some k := by
  have h1 : vm₁.findClass E = some k := h
  rw [hW.alike.findClass] at h1
  exact h1
/-- the method's frame g, with q thrown over it -/
def vx_W (p : Program) (l : Launch) (e : Env) (R : Room) (s : State) (m : MethodId) (args : Array Value) (below : List Frame) (meth : Method) (c : Code) (H : Heap) (locs : List Loc) (cells slots : Nat) (Q : State → Prop) (g : JFrame) (q : Addr) : Prop :=
  ∀ T : State, T.heap = H → Stand p l e R s m args below meth c T locs cells slots → ∃ t, Steps p.tables e below ((T.setTop g).pushFrame (.throwing q)) t ∧ Q t
def vx_Run (p : Program) (l : Launch) (e : Env) (R : Room) (s : State) (m : MethodId) (args : Array Value) (below : List Frame) (meth : Method) (c : Code) (H : Heap) (locs : List Loc) (cells slots mc ms : Nat) (g : JFrame) (rest : List Value) (Qa : State → Outcome → State → Prop) (XC : String → State → State → Prop) (free : Addr → Prop) : Prop :=
  ∀ T : State, T.heap = H → Stand p l e R s m args below meth c T locs cells slots →
    (∃ (v : Option Value) (st₀ t T' : State) (L : List Loc), st₀.heap = H ∧ Stand p l e R s m args below meth c T' (locs ++ L) (cells + mc) (slots + ms) ∧ (∀ q ∈ L, free q.base) ∧ T'.heap = t.heap ∧ T'.vm = t.vm ∧ Qa st₀ (.returned v) t ∧
      Goes p e below T g T' { g with pc := g.pc + 3, stack := v.toList ++ rest }) ∨
    (∃ (q : Addr) (st₀ t T' : State) (L : List Loc) (E : String) (ce : Cell), st₀.heap = H ∧ Stand p l e R s m args below meth c T' (locs ++ L) (cells + mc) (slots + ms) ∧ (∀ z ∈ L, free z.base) ∧ T'.heap = t.heap ∧ T'.vm = t.vm ∧ XC E st₀ t ∧ t.heap[q]? = some ce ∧ ce.vm = .none ∧ s.vm.findClass E = some ce.cls ∧
      Steps p.tables e below (T.setTop g) ((T'.setTop { g with stack := rest }).pushFrame (.throwing q)))
def vx_X {S : Type} (px : S → Prop) (B : String → S → State → Prop) (A : Nat → Prop) : String → State → State → Prop := fun E st t => ∃ u : S, px u ∧ B E u t ∧ va_F A st t
section Runs
variable {p : Program} {l : Launch} {e : Env} {R : Room} {s : State} {m : MethodId} {args : Array Value} {below : List Frame} {meth : Method} {c : Code} {H : Heap} {locs : List Loc} {cells slots : Nat}
variable {y : MethodName} {bytes cc : ByteArray} {maxL nL mc ms n index : Nat} {ret : Option FieldType} {ws : List Cond} {rm : Room} {Pc : Array Value → State → Prop} {Qc : Array Value → State → Outcome → State → Prop} {XC : String → State → State → Prop} {free : Addr → Prop} {Ts : List Cond} {own C : String} {b : Addr} {As rest : List Value} {g : JFrame}
theorem vx_callBack (cb : CallB R s args own index y bytes maxL ret ws rm mc ms n) (hM : vx_Met l y ws rm Pc Qc XC mc ms free) (hbl : FrameBlind Pc) : vx_Back l R p e below s args y 3 8 (PreOf R mc ms Pc) (PostOf Qc mc ms free) (vx_Post XC mc ms free) := by
  obtain ⟨hrc, hrs, hfr, hlo, hws, hcw, -, hini, -⟩ := cb
  exact vx_back (bytes := bytes) (maxL := maxL) (ret := ret) hM hbl hrc hrs hfr hlo hws hcw (fun a' U hW => word_at hW (Or.inl (by first | rfl | simp [Cond.onTables, Cond.keeps, Cond.steady])) hini)
theorem vx_runV (S : CallFix p m c cc nL s args Ts own) (hM : vx_Met l y ws rm Pc Qc XC mc ms free) (cw : CallW R s args own C index y bytes maxL ret ws rm mc ms n) (hp : PreV s H C b Pc As)
    (hg : g.method = m) (hn : As.length = n) (hsize : g.locals.size = nL) (hstack : g.stack = As.reverse ++ .ref b :: rest) (hW : 2 * g.monitorRoom + (rest.map fun v => v.category).sum ≤ 8) (hdg : decode cc g.pc = .ok (.invokevirtual index, 3)) (hf : cells + mc ≤ R.cells ∧ slots + ms ≤ R.slots) :
    vx_Run p l e R s m args below meth c H locs cells slots mc ms g rest (Qc (Value.ref b :: As).toArray) XC free := by
  have hK : vx_Back l R p e below s args y 3 8 (PreOf R mc ms Pc) (PostOf Qc mc ms free) (vx_Post XC mc ms free) := vx_callBack cw.1 hM hp.1
  obtain ⟨⟨-, -, -, -, -, -, hcode, -, hy, hlen, hl⟩, hin, hse⟩ := cw
  obtain ⟨hx, hb, hml, ho, -⟩ := S
  obtain ⟨-, ⟨cellB, hcB, hoB, hclB⟩, hPc⟩ := hp
  intro T hT X
  rcases vx_callV X hx (C := C) (bytes := bytes) (maxL := maxL) (ret := ret) ho hl hin hse hcode hy hK (by rw [hT]; exact hcB) hoB hclB hg (hsize.trans hml.symm) (argsL := As) (rest := rest) (fun sig h => hn.trans (hlen sig h)) hstack hW (by rw [hb]; exact hdg)
    (fun vm₁ hW₁ => ⟨hf.1, hf.2, hPc (T.setVm vm₁) hT hW₁⟩) with ⟨v, vm₁, ⟨U', l2, c2, s2⟩, hW₁, X', ⟨g', mk, t, L, e1, e2, hq, h1, hL, h2, h3⟩, st⟩ | ⟨q, vm₁, ⟨U', l2, c2, s2⟩, hW₁, X', ⟨g', mk, t, L, E, ce, e1, e2, hq, hce, hcv, hcl, h1, hL, h2, h3⟩, st⟩
  · dsimp only [Pt.U, Pt.locs, Pt.cells, Pt.slots] at X' e1 e2 h1 h2 h3 st
    subst h1; subst h2; subst h3
    exact Or.inl ⟨v, (T.setVm vm₁).calling g' mk (Value.ref b :: As).toArray, t, U', L, hT, X', hL, e1, e2, hq, st⟩
  · dsimp only [Pt.U, Pt.locs, Pt.cells, Pt.slots] at X' e1 e2 h1 h2 h3 st hcl
    subst h1; subst h2; subst h3
    exact Or.inr ⟨q, (T.setVm vm₁).calling g' mk (Value.ref b :: As).toArray, t, U', L, E, ce, hT, X', hL, e1, e2, hq, hce, hcv, vx_cls hW₁ hcl, st⟩
theorem vx_runS (S : CallFix p m c cc nL s args Ts own) (hM : vx_Met l y ws rm Pc Qc XC mc ms free) (cw : CallB R s args own index y bytes maxL ret ws rm mc ms n ∧ (Cond.static y).before args s = true) (hp : PreS s H Pc As)
    (hg : g.method = m) (hn : As.length = n) (hsize : g.locals.size = nL) (hstack : g.stack = As.reverse ++ rest) (hW : 2 * g.monitorRoom + (rest.map fun v => v.category).sum ≤ 8) (hdg : decode cc g.pc = .ok (.invokestatic index, 3)) (hf : cells + mc ≤ R.cells ∧ slots + ms ≤ R.slots) :
    vx_Run p l e R s m args below meth c H locs cells slots mc ms g rest (Qc As.toArray) XC free := by
  have hK : vx_Back l R p e below s args y 3 8 (PreOf R mc ms Pc) (PostOf Qc mc ms free) (vx_Post XC mc ms free) := vx_callBack cw.1 hM hp.1
  obtain ⟨⟨-, -, -, -, -, -, hcode, hini, hy, hlen, hl⟩, hstt⟩ := cw
  obtain ⟨hx, hb, hml, ho, -⟩ := S
  intro T hT X
  rcases vx_callS X hx (bytes := bytes) (maxL := maxL) (ret := ret) ho hl hstt hini hcode hy hK hg (hsize.trans hml.symm) (argsL := As) (rest := rest) (fun sig h => hn.trans (hlen sig h)) hstack hW (by rw [hb]; exact hdg)
    (fun vm₁ hW₁ => ⟨hf.1, hf.2, hp.2 (T.setVm vm₁) hT hW₁⟩) with ⟨v, vm₁, ⟨U', l2, c2, s2⟩, hW₁, X', ⟨g', mk, t, L, e1, e2, hq, h1, hL, h2, h3⟩, st⟩ | ⟨q, vm₁, ⟨U', l2, c2, s2⟩, hW₁, X', ⟨g', mk, t, L, E, ce, e1, e2, hq, hce, hcv, hcl, h1, hL, h2, h3⟩, st⟩
  · dsimp only [Pt.U, Pt.locs, Pt.cells, Pt.slots] at X' e1 e2 h1 h2 h3 st
    subst h1; subst h2; subst h3
    exact Or.inl ⟨v, (T.setVm vm₁).calling g' mk As.toArray, t, U', L, hT, X', hL, e1, e2, hq, st⟩
  · dsimp only [Pt.U, Pt.locs, Pt.cells, Pt.slots] at X' e1 e2 h1 h2 h3 st hcl
    subst h1; subst h2; subst h3
    exact Or.inr ⟨q, (T.setVm vm₁).calling g' mk As.toArray, t, U', L, E, ce, hT, X', hL, e1, e2, hq, hce, hcv, vx_cls hW₁ hcl, st⟩
end Runs
section Rows
variable {p : Program} {l : Launch} {e : Env} {R : Room} {s : State} {m : MethodId} {args : Array Value} {below : List Frame} {meth : Method} {c : Code} {H : Heap} {locs : List Loc} {cells slots : Nat} {Q : State → Prop}
variable {mc ms : Nat} {free : Addr → Prop} {A0 A1 : Nat → Prop} {H0 : Heap} {a : Array Value} {pc : Nat} {ls : Array Slot} {st0 rest : List Value}
theorem vx_keep {st₀ t T' : State} {L : List Loc} (h0 : st₀.heap = H) (e1 : T'.heap = t.heap) (hS : va_S A0 H0 H locs) (hA : ∀ q, q < H.size → A1 q → A0 q) (hf : ∀ q, free q → A0 q) (hL : ∀ q ∈ L, free q.base) (hF : va_F A1 st₀ t) :
    H.size ≤ T'.heap.size ∧ (∀ q : Nat, q < H.size → ¬ A1 q → T'.heap[q]? = H[q]?) ∧ va_S A0 H0 T'.heap (locs ++ L) := by
  obtain ⟨hz, hk⟩ := hF
  rw [h0] at hz hk
  exact ⟨by rw [e1]; exact hz, fun q h1 h2 => by rw [e1]; exact hk q h1 h2,
    ⟨Nat.le_trans hS.1 (by rw [e1]; exact hz), fun q h1 h2 => by rw [e1, hk q (Nat.lt_of_lt_of_le h1 hS.1) (fun z => h2 (hA q (Nat.lt_of_lt_of_le h1 hS.1) z))]; exact hS.2.1 q h1 h2, fun q hq => by
      rcases List.mem_append.mp hq with h | h
      · exact hS.2.2 q h
      · exact hf _ (hL q h)⟩⟩
theorem vx_calli {S SX : Type} {post : Int32 → S → Prop} {px : SX → Prop} {B : S → State → Prop} {BX : String → SX → State → Prop} {AX : Nat → Prop} (hr : vx_Run p l e R s m args below meth c H locs cells slots mc ms (F0 m pc ls st0) rest (va_Qi post B A1 a) (vx_X px BX AX) free) (hS : va_S A0 H0 H locs) (hA : ∀ q, q < H.size → A1 q → A0 q) (hf : ∀ q, free q → A0 q) (hAX : ∀ q, q < H.size → AX q → A0 q)
    (kx : ∀ (E : String) (ce : Cell) (q9 : Addr) (u : SX) (t : State) (H1 : Heap) (locs1 : List Loc), t.heap = H1 → s.vm.Alike t.vm → px u → BX E u t → H.size ≤ H1.size → (∀ q : Nat, q < H.size → ¬ AX q → H1[q]? = H[q]?) → va_S A0 H0 H1 locs1 → H1[q9]? = some ce → ce.vm = .none → s.vm.findClass E = some ce.cls → vx_W p l e R s m args below meth c H1 locs1 (cells + mc) (slots + ms) Q (F0 m pc ls rest) q9)
    (kk : ∀ (r : Int32) (u : S) (t : State) (H1 : Heap) (locs1 : List Loc), t.heap = H1 → s.vm.Alike t.vm → post r u → B u t → H.size ≤ H1.size → (∀ q : Nat, q < H.size → ¬ A1 q → H1[q]? = H[q]?) → va_S A0 H0 H1 locs1 → W p l e R s m args below meth c H1 locs1 (cells + mc) (slots + ms) Q (F0 m (pc + 3) ls (.int r :: rest))) : W p l e R s m args below meth c H locs cells slots Q (F0 m pc ls st0) := by
  intro T hT X
  rcases hr T hT X with ⟨v, st₀, t, T', L, h0, X', hL, e1, e2, ⟨⟨r, u, hv, hp, hb⟩, hF⟩, st⟩ | ⟨q, st₀, t, T', L, E, ce, h0, X', hL, e1, e2, ⟨u, hp, hb, hF⟩, hce, hcv, hcl, st⟩
  · cases hv
    obtain ⟨k1, k2, k3⟩ := vx_keep h0 e1 hS hA hf hL hF
    obtain ⟨t2, a1, b1⟩ := kk r u t T'.heap (locs ++ L) e1.symm (by rw [← e2]; exact X'.warmed.alike) hp hb k1 k2 k3 T' rfl X'
    exact ⟨t2, st t2 a1, b1⟩
  · obtain ⟨k1, k2, k3⟩ := vx_keep h0 e1 hS hAX hf hL hF
    obtain ⟨t2, a1, b1⟩ := kx E ce q u t T'.heap (locs ++ L) e1.symm (by rw [← e2]; exact X'.warmed.alike) hp hb k1 k2 k3 (by rw [e1]; exact hce) hcv hcl T' rfl X'
    exact ⟨t2, st.trans a1, b1⟩
theorem vx_calll {S SX : Type} {post : Int64 → S → Prop} {px : SX → Prop} {B : S → State → Prop} {BX : String → SX → State → Prop} {AX : Nat → Prop} (hr : vx_Run p l e R s m args below meth c H locs cells slots mc ms (F0 m pc ls st0) rest (va_Ql post B A1 a) (vx_X px BX AX) free) (hS : va_S A0 H0 H locs) (hA : ∀ q, q < H.size → A1 q → A0 q) (hf : ∀ q, free q → A0 q) (hAX : ∀ q, q < H.size → AX q → A0 q)
    (kx : ∀ (E : String) (ce : Cell) (q9 : Addr) (u : SX) (t : State) (H1 : Heap) (locs1 : List Loc), t.heap = H1 → s.vm.Alike t.vm → px u → BX E u t → H.size ≤ H1.size → (∀ q : Nat, q < H.size → ¬ AX q → H1[q]? = H[q]?) → va_S A0 H0 H1 locs1 → H1[q9]? = some ce → ce.vm = .none → s.vm.findClass E = some ce.cls → vx_W p l e R s m args below meth c H1 locs1 (cells + mc) (slots + ms) Q (F0 m pc ls rest) q9)
    (kk : ∀ (r : Int64) (u : S) (t : State) (H1 : Heap) (locs1 : List Loc), t.heap = H1 → s.vm.Alike t.vm → post r u → B u t → H.size ≤ H1.size → (∀ q : Nat, q < H.size → ¬ A1 q → H1[q]? = H[q]?) → va_S A0 H0 H1 locs1 → W p l e R s m args below meth c H1 locs1 (cells + mc) (slots + ms) Q (F0 m (pc + 3) ls (.long r :: rest))) : W p l e R s m args below meth c H locs cells slots Q (F0 m pc ls st0) := by
  intro T hT X
  rcases hr T hT X with ⟨v, st₀, t, T', L, h0, X', hL, e1, e2, ⟨⟨r, u, hv, hp, hb⟩, hF⟩, st⟩ | ⟨q, st₀, t, T', L, E, ce, h0, X', hL, e1, e2, ⟨u, hp, hb, hF⟩, hce, hcv, hcl, st⟩
  · cases hv
    obtain ⟨k1, k2, k3⟩ := vx_keep h0 e1 hS hA hf hL hF
    obtain ⟨t2, a1, b1⟩ := kk r u t T'.heap (locs ++ L) e1.symm (by rw [← e2]; exact X'.warmed.alike) hp hb k1 k2 k3 T' rfl X'
    exact ⟨t2, st t2 a1, b1⟩
  · obtain ⟨k1, k2, k3⟩ := vx_keep h0 e1 hS hAX hf hL hF
    obtain ⟨t2, a1, b1⟩ := kx E ce q u t T'.heap (locs ++ L) e1.symm (by rw [← e2]; exact X'.warmed.alike) hp hb k1 k2 k3 (by rw [e1]; exact hce) hcv hcl T' rfl X'
    exact ⟨t2, st.trans a1, b1⟩
theorem vx_callf {S SX : Type} {post : UInt32 → S → Prop} {px : SX → Prop} {B : S → State → Prop} {BX : String → SX → State → Prop} {AX : Nat → Prop} (hr : vx_Run p l e R s m args below meth c H locs cells slots mc ms (F0 m pc ls st0) rest (va_Qf post B A1 a) (vx_X px BX AX) free) (hS : va_S A0 H0 H locs) (hA : ∀ q, q < H.size → A1 q → A0 q) (hf : ∀ q, free q → A0 q) (hAX : ∀ q, q < H.size → AX q → A0 q)
    (kx : ∀ (E : String) (ce : Cell) (q9 : Addr) (u : SX) (t : State) (H1 : Heap) (locs1 : List Loc), t.heap = H1 → s.vm.Alike t.vm → px u → BX E u t → H.size ≤ H1.size → (∀ q : Nat, q < H.size → ¬ AX q → H1[q]? = H[q]?) → va_S A0 H0 H1 locs1 → H1[q9]? = some ce → ce.vm = .none → s.vm.findClass E = some ce.cls → vx_W p l e R s m args below meth c H1 locs1 (cells + mc) (slots + ms) Q (F0 m pc ls rest) q9)
    (kk : ∀ (r : UInt32) (u : S) (t : State) (H1 : Heap) (locs1 : List Loc), t.heap = H1 → s.vm.Alike t.vm → post r u → B u t → H.size ≤ H1.size → (∀ q : Nat, q < H.size → ¬ A1 q → H1[q]? = H[q]?) → va_S A0 H0 H1 locs1 → W p l e R s m args below meth c H1 locs1 (cells + mc) (slots + ms) Q (F0 m (pc + 3) ls (.float r :: rest))) : W p l e R s m args below meth c H locs cells slots Q (F0 m pc ls st0) := by
  intro T hT X
  rcases hr T hT X with ⟨v, st₀, t, T', L, h0, X', hL, e1, e2, ⟨⟨r, u, hv, hp, hb⟩, hF⟩, st⟩ | ⟨q, st₀, t, T', L, E, ce, h0, X', hL, e1, e2, ⟨u, hp, hb, hF⟩, hce, hcv, hcl, st⟩
  · cases hv
    obtain ⟨k1, k2, k3⟩ := vx_keep h0 e1 hS hA hf hL hF
    obtain ⟨t2, a1, b1⟩ := kk r u t T'.heap (locs ++ L) e1.symm (by rw [← e2]; exact X'.warmed.alike) hp hb k1 k2 k3 T' rfl X'
    exact ⟨t2, st t2 a1, b1⟩
  · obtain ⟨k1, k2, k3⟩ := vx_keep h0 e1 hS hAX hf hL hF
    obtain ⟨t2, a1, b1⟩ := kx E ce q u t T'.heap (locs ++ L) e1.symm (by rw [← e2]; exact X'.warmed.alike) hp hb k1 k2 k3 (by rw [e1]; exact hce) hcv hcl T' rfl X'
    exact ⟨t2, st.trans a1, b1⟩
theorem vx_calld {S SX : Type} {post : UInt64 → S → Prop} {px : SX → Prop} {B : S → State → Prop} {BX : String → SX → State → Prop} {AX : Nat → Prop} (hr : vx_Run p l e R s m args below meth c H locs cells slots mc ms (F0 m pc ls st0) rest (va_Qd post B A1 a) (vx_X px BX AX) free) (hS : va_S A0 H0 H locs) (hA : ∀ q, q < H.size → A1 q → A0 q) (hf : ∀ q, free q → A0 q) (hAX : ∀ q, q < H.size → AX q → A0 q)
    (kx : ∀ (E : String) (ce : Cell) (q9 : Addr) (u : SX) (t : State) (H1 : Heap) (locs1 : List Loc), t.heap = H1 → s.vm.Alike t.vm → px u → BX E u t → H.size ≤ H1.size → (∀ q : Nat, q < H.size → ¬ AX q → H1[q]? = H[q]?) → va_S A0 H0 H1 locs1 → H1[q9]? = some ce → ce.vm = .none → s.vm.findClass E = some ce.cls → vx_W p l e R s m args below meth c H1 locs1 (cells + mc) (slots + ms) Q (F0 m pc ls rest) q9)
    (kk : ∀ (r : UInt64) (u : S) (t : State) (H1 : Heap) (locs1 : List Loc), t.heap = H1 → s.vm.Alike t.vm → post r u → B u t → H.size ≤ H1.size → (∀ q : Nat, q < H.size → ¬ A1 q → H1[q]? = H[q]?) → va_S A0 H0 H1 locs1 → W p l e R s m args below meth c H1 locs1 (cells + mc) (slots + ms) Q (F0 m (pc + 3) ls (.double r :: rest))) : W p l e R s m args below meth c H locs cells slots Q (F0 m pc ls st0) := by
  intro T hT X
  rcases hr T hT X with ⟨v, st₀, t, T', L, h0, X', hL, e1, e2, ⟨⟨r, u, hv, hp, hb⟩, hF⟩, st⟩ | ⟨q, st₀, t, T', L, E, ce, h0, X', hL, e1, e2, ⟨u, hp, hb, hF⟩, hce, hcv, hcl, st⟩
  · cases hv
    obtain ⟨k1, k2, k3⟩ := vx_keep h0 e1 hS hA hf hL hF
    obtain ⟨t2, a1, b1⟩ := kk r u t T'.heap (locs ++ L) e1.symm (by rw [← e2]; exact X'.warmed.alike) hp hb k1 k2 k3 T' rfl X'
    exact ⟨t2, st t2 a1, b1⟩
  · obtain ⟨k1, k2, k3⟩ := vx_keep h0 e1 hS hAX hf hL hF
    obtain ⟨t2, a1, b1⟩ := kx E ce q u t T'.heap (locs ++ L) e1.symm (by rw [← e2]; exact X'.warmed.alike) hp hb k1 k2 k3 (by rw [e1]; exact hce) hcv hcl T' rfl X'
    exact ⟨t2, st.trans a1, b1⟩
theorem vx_callv {S SX : Type} {post : S → Prop} {px : SX → Prop} {B : S → State → Prop} {BX : String → SX → State → Prop} {AX : Nat → Prop} (hr : vx_Run p l e R s m args below meth c H locs cells slots mc ms (F0 m pc ls st0) rest (va_Qv post B A1 a) (vx_X px BX AX) free) (hS : va_S A0 H0 H locs) (hA : ∀ q, q < H.size → A1 q → A0 q) (hf : ∀ q, free q → A0 q) (hAX : ∀ q, q < H.size → AX q → A0 q)
    (kx : ∀ (E : String) (ce : Cell) (q9 : Addr) (u : SX) (t : State) (H1 : Heap) (locs1 : List Loc), t.heap = H1 → s.vm.Alike t.vm → px u → BX E u t → H.size ≤ H1.size → (∀ q : Nat, q < H.size → ¬ AX q → H1[q]? = H[q]?) → va_S A0 H0 H1 locs1 → H1[q9]? = some ce → ce.vm = .none → s.vm.findClass E = some ce.cls → vx_W p l e R s m args below meth c H1 locs1 (cells + mc) (slots + ms) Q (F0 m pc ls rest) q9)
    (kk : ∀ (u : S) (t : State) (H1 : Heap) (locs1 : List Loc), t.heap = H1 → s.vm.Alike t.vm → post u → B u t → H.size ≤ H1.size → (∀ q : Nat, q < H.size → ¬ A1 q → H1[q]? = H[q]?) → va_S A0 H0 H1 locs1 → W p l e R s m args below meth c H1 locs1 (cells + mc) (slots + ms) Q (F0 m (pc + 3) ls (rest))) : W p l e R s m args below meth c H locs cells slots Q (F0 m pc ls st0) := by
  intro T hT X
  rcases hr T hT X with ⟨v, st₀, t, T', L, h0, X', hL, e1, e2, ⟨⟨u, hv, hp, hb⟩, hF⟩, st⟩ | ⟨q, st₀, t, T', L, E, ce, h0, X', hL, e1, e2, ⟨u, hp, hb, hF⟩, hce, hcv, hcl, st⟩
  · cases hv
    obtain ⟨k1, k2, k3⟩ := vx_keep h0 e1 hS hA hf hL hF
    obtain ⟨t2, a1, b1⟩ := kk u t T'.heap (locs ++ L) e1.symm (by rw [← e2]; exact X'.warmed.alike) hp hb k1 k2 k3 T' rfl X'
    exact ⟨t2, st t2 a1, b1⟩
  · obtain ⟨k1, k2, k3⟩ := vx_keep h0 e1 hS hAX hf hL hF
    obtain ⟨t2, a1, b1⟩ := kx E ce q u t T'.heap (locs ++ L) e1.symm (by rw [← e2]; exact X'.warmed.alike) hp hb k1 k2 k3 (by rw [e1]; exact hce) hcv hcl T' rfl X'
    exact ⟨t2, st.trans a1, b1⟩
/-- caught by the row x of this method's table; the rows ahead don't take it -/
theorem vx_catch {own name : String} {E : String} {ce : Cell} {q : Addr} (hown : s.vm.findClass own = some m.cls) (pre : List ExceptionTableEntry) (x : ExceptionTableEntry) (suf : List ExceptionTableEntry) (hsplit : c.exceptionTable.toList = pre ++ x :: suf)
    (hpass : ∀ z ∈ pre, covers z pc = false ∨ (z.catchType ≠ 0 ∧ ∃ nm : String, (Cond.classLink own z.catchType nm).before args s = true ∧ va_Nc E nm s)) (hx : covers x pc = true) (h0 : x.catchType ≠ 0)
    (hlink : (Cond.classLink own x.catchType name).before args s = true) (hcast : (Cond.castable E name).before args s = true) (hcell : H[q]? = some ce) (hv : ce.vm = .none) (hcl : s.vm.findClass E = some ce.cls)
    (kk : W p l e R s m args below meth c H locs cells slots Q (F0 m x.handlerPc ls [.ref q])) : vx_W p l e R s m args below meth c H locs cells slots Q (F0 m pc ls rest) q := by
  intro T hT X
  have hpl : e.platform.magicAccessors = ({} : Platform).magicAccessors := by rw [X.admits.platform]
  obtain ⟨c3, c4, hc3, hc4, hasg⟩ := Cond.castable_spec hcast
  cases Option.some.inj (hc3.symm.trans hcl)
  obtain ⟨c5, hc5, hcl5⟩ := Cond.classLink_spec hown hlink e.platform hpl
  cases Option.some.inj (hc4.symm.trans hc5)
  obtain ⟨vm', X', st⟩ := X.thenCaughtThrough q (g := F0 m pc ls rest) rfl (Steps.refl _) (by rw [hT]; exact hcell) (by rw [hv]; rfl) (by obtain ⟨k9, h9, -⟩ := Vm.findClass_spec hcl; exact ⟨k9, h9⟩) pre x suf hsplit
    (fun z hz => by
      rcases hpass z hz with h | ⟨hz0, nm, hl1, hn1⟩
      · exact Or.inl h
      · obtain ⟨c6, hc6, hcl6⟩ := Cond.classLink_spec hown hl1 e.platform hpl
        obtain ⟨a8, b8, h1, h2, h3⟩ := hn1
        cases Option.some.inj (h1.symm.trans hcl)
        cases Option.some.inj (h2.symm.trans hc6)
        exact Or.inr ⟨hz0, _, hcl6, h3⟩) hx (Or.inr ⟨h0, c4, hcl5, hasg⟩)
  obtain ⟨t, a1, b1⟩ := kk (T.setVm vm') hT X'
  exact ⟨t, st.trans a1, b1⟩
end Rows
section Ends
variable {p : Program} {l : Launch} {e : Env} {R : Room} {s : State} {m : MethodId} {args : Array Value} {below : List Frame} {meth : Method} {c : Code} {H : Heap} {locs : List Loc} {cells slots : Nat} {Q : State → Prop}
variable {mc ms : Nat} {free : Addr → Prop} {A0 A1 : Nat → Prop} {H0 : Heap} {a : Array Value} {ls : Array Slot} {st0 rest : List Value}
variable {Qc : Array Value → State → Outcome → State → Prop} {XC : String → State → State → Prop}
/-- what a body that may throw owes at its end -/
def vx_MQ (below : List Frame) (Qc : Array Value → State → Outcome → State → Prop) (XC : String → State → State → Prop) (a : Array Value) (s : State) (mc ms : Nat) (free : Addr → Prop) : State → Prop := fun t =>
  ∃ o, t.status = .running ∧ Ended t below o ∧ vx_Q Qc XC mc ms free a s o t
theorem vx_ret {g : JFrame} {mc ms : Nat} (k : W p l e R s m args below meth c H locs cells slots (MQ below Qc args s mc ms free) g) : W p l e R s m args below meth c H locs cells slots (vx_MQ below Qc XC args s mc ms free) g := by
  intro T hT X
  obtain ⟨t, a1, o, b1, b2, b3, b4⟩ := k T hT X
  exact ⟨t, a1, o, b1, b2, Or.inl ⟨b3, b4⟩⟩
/-- not caught here: it goes on to the caller -/
theorem vx_widen {g : JFrame} {q : Addr} {k n : Nat} (h1 : cells ≤ k) (h2 : slots ≤ n) (kk : vx_W p l e R s m args below meth c H locs k n Q g q) : vx_W p l e R s m args below meth c H locs cells slots Q g q := fun T hT X => kk T hT (stand_widen X h1 h2)
theorem vx_out {pc : Nat} {E : String} {ce : Cell} {q : Addr} {mc ms : Nat} (hout : ∀ x ∈ c.exceptionTable.toList, covers x pc = false) (hlocks : meth.locks = false) (hcell : H[q]? = some ce) (hv : ce.vm = .none) (hcl : s.vm.findClass E = some ce.cls)
    (hx : ∀ t : State, t.heap = H → s.vm.Alike t.vm → XC E s t) (hf : ∀ z ∈ locs, free z.base) (hc : cells ≤ mc) (hs : slots ≤ ms) :
    vx_W p l e R s m args below meth c H locs cells slots (vx_MQ below Qc XC args s mc ms free) (F0 m pc ls rest) q := by
  intro T hT X
  obtain ⟨st1, hrun, hend, hW, hsm⟩ := X.leaveThrown q (g := F0 m pc ls rest) rfl rfl rfl hout hlocks
  have hcell9 : (T.setFrames (.throwing q :: below)).heap[q]? = some ce := by
    show T.heap[q]? = some ce
    rw [hT]; exact hcell
  exact ⟨_, st1, .threw q, hrun, hend, Or.inr ⟨q, rfl, E, ce, locs, hx _ hT hW.alike, hcell9, hv, hcl, hW, hsm.mono hc hs, hf⟩⟩
theorem vx_frame {U : State} {k n : Nat} (h : s.sameButNew ({ U with vm := s.vm } : State) locs k n) : s.heap.size ≤ U.heap.size ∧ ∀ q : Nat, q < s.heap.size → (∀ z ∈ locs, z.base ≠ q) → U.heap[q]? = s.heap[q]? := by
  obtain ⟨-, h2, -, -, -, h6⟩ := h
  refine ⟨h2, fun q hq hz => ?_⟩
  obtain ⟨c9, e1, e2, e3, e4⟩ := h6 q _ (Array.getElem?_eq_getElem hq)
  have hs : c9.slots = (s.heap[q]).slots := Array.ext_getElem? fun i => e4 i fun hm => hz _ hm rfl
  have h9 : c9 = s.heap[q] := by
    rw [hs] at e2
    exact e2
  have e5 : U.heap[q]? = some c9 := e1
  rw [e5, h9, Array.getElem?_eq_getElem hq]
/-- the words of a throw but the four that speak of the heap -/
def vx_no (w : Cond) : Bool := decide (w ≠ .isRef (.static Bundle.tN "UNASSIGNED_STACK" Bundle.steD)) && decide (w ≠ .isRef (.static Bundle.tN "SUPPRESSED_SENTINEL" Bundle.listD)) && decide (w ≠ .laysStatic Bundle.tN "UNASSIGNED_STACK" Bundle.steD) && decide (w ≠ .laysStatic Bundle.tN "SUPPRESSED_SENTINEL" Bundle.listD)
def vx_at0 (own : String) (ic : Nat) (X : String) (names : List String) : List Cond := (Bundle.ownAtoms0 own ic X names).filter vx_no
def vx_atS (own : String) (ic : Nat) (X : String) (names : List String) : List Cond := (Bundle.ownAtoms own ic X names).filter vx_no
/-- a word that the tables alone decide, or a good one -/
def vx_ot (w : Cond) : Bool := w.onTables || goodWord w
theorem vx_ot_at {args a' : Array Value} {s U : State} {w : Cond} (hW : s.WarmedH U.vm) (hvm : s.vm = U.vm) (hg : vx_ot w = true) (h : w.before args s = true) : w.before a' U = true := by
  simp only [vx_ot, Bool.or_eq_true] at hg
  rcases hg with hg | hg
  · exact va_tabs hg hvm h
  · exact word_at hW (good_of_word hg) h
/-- a list's words: the good ones out of the method's own list, the others by premises of their own -/
theorem vx_hat {args : Array Value} {s : State} {L B : List Cond} (h1 : ∀ w ∈ L.filter goodWord, w.before args s = true) (h2 : ∀ w ∈ L.filter (fun w => !goodWord w), w ∈ B) (h3 : ∀ w ∈ B, w.before args s = true) : ∀ w ∈ L, w.before args s = true := by
  intro w hw
  by_cases g : goodWord w = true
  · exact h1 w (List.mem_filter.mpr ⟨hw, g⟩)
  · refine h3 w (h2 w (List.mem_filter.mpr ⟨hw, ?_⟩))
    show (!goodWord w) = true
    cases hgw : goodWord w
    · rfl
    · exact absurd hgw g
theorem vx_c {args : Array Value} {s : State} {w : Cond} {B : List Cond} (h : w.before args s = true) (t : ∀ w ∈ B, w.before args s = true) : ∀ w' ∈ w :: B, w'.before args s = true := fun w' h' => (List.mem_cons.mp h').elim (fun e => by rw [e]; exact h) (t w')
theorem vx_n {args : Array Value} {s : State} : ∀ w ∈ ([] : List Cond), w.before args s = true := fun _ h => nomatch h
theorem vx_own {args : Array Value} {s : State} {L : List Cond} (h1 : ∀ w ∈ L.filter vx_no, w.before args s = true)
    (hU : (Cond.isRef (.static Bundle.tN "UNASSIGNED_STACK" Bundle.steD)).before args s = true) (hN : (Cond.isRef (.static Bundle.tN "SUPPRESSED_SENTINEL" Bundle.listD)).before args s = true)
    (lU : (Cond.laysStatic Bundle.tN "UNASSIGNED_STACK" Bundle.steD).before args s = true) (lN : (Cond.laysStatic Bundle.tN "SUPPRESSED_SENTINEL" Bundle.listD).before args s = true) : ∀ w ∈ L, w.before args s = true := by
  intro w hw
  by_cases e1 : w = .isRef (.static Bundle.tN "UNASSIGNED_STACK" Bundle.steD)
  · rw [e1]; exact hU
  · by_cases e2 : w = .isRef (.static Bundle.tN "SUPPRESSED_SENTINEL" Bundle.listD)
    · rw [e2]; exact hN
    · by_cases e3 : w = .laysStatic Bundle.tN "UNASSIGNED_STACK" Bundle.steD
      · rw [e3]; exact lU
      · by_cases e4 : w = .laysStatic Bundle.tN "SUPPRESSED_SENTINEL" Bundle.listD
        · rw [e4]; exact lN
        · exact h1 w (List.mem_filter.mpr ⟨hw, by unfold vx_no; rw [decide_eq_true e1, decide_eq_true e2, decide_eq_true e3, decide_eq_true e4]; rfl⟩)
/-- where a static field lies, its class's statics cell in H -/
def vx_L (C n d : String) (A : Nat → Prop) (U : State) (H : Heap) : Prop := ∃ (c : ClassId) (k : Class) (i : Nat) (f : Field) (a : Nat) (cell : Cell), U.vm.findClass C = some c ∧ U.fieldFound? C n d = some (c, k, i, f) ∧ f.isStatic = true ∧ k.statics = some a ∧ H[a]? = some cell ∧ cell.vm.isStatics = true ∧ cell.cls = c ∧ f.slot < cell.slots.size ∧ k.staticTypes[f.slot]? = some f.type ∧ ¬ A a
theorem vx_L.moved {C n d : String} {A : Nat → Prop} {u U : State} {H : Heap} (hvm : u.vm.Alike U.vm) (h : vx_L C n d A u H) : vx_L C n d A U H := by
  obtain ⟨c, k, i, f, a, cell, h1, h2, h3, h4, h5, h6, h7, h8, h9, h10⟩ := h
  obtain ⟨k', hi', he⟩ := State.fieldFound?_setVm hvm h2
  exact ⟨c, k', i, f, a, cell, by rw [hvm.findClass]; exact h1, hi', h3, by rw [he]; exact h4, h5, h6, h7, h8, by rw [he]; exact h9, h10⟩
theorem vx_L.kept {C n d : String} {A : Nat → Prop} {U : State} {H H1 : Heap} (h : vx_L C n d A U H) (hq : ∀ a : Nat, a < H.size → ¬ A a → H1[a]? = H[a]?) : vx_L C n d A U H1 := by
  obtain ⟨c, k, i, f, a, cell, h1, h2, h3, h4, h5, h6, h7, h8, h9, h10⟩ := h
  exact ⟨c, k, i, f, a, cell, h1, h2, h3, h4, by rw [hq a (Array.getElem?_eq_some_iff.mp h5).1 h10]; exact h5, h6, h7, h8, h9, h10⟩
theorem vx_L.narrow {C n d : String} {A B : Nat → Prop} {U : State} {H : Heap} (h : vx_L C n d A U H) (hAB : ∀ q, B q → A q) : vx_L C n d B U H := by
  obtain ⟨c, k, i, f, a, cell, h1, h2, h3, h4, h5, h6, h7, h8, h9, h10⟩ := h
  exact ⟨c, k, i, f, a, cell, h1, h2, h3, h4, h5, h6, h7, h8, h9, fun z => h10 (hAB _ z)⟩
theorem vx_L.word {C n d : String} {A : Nat → Prop} {s : State} {args : Array Value} (h : vx_L C n d A s s.heap) : (Cond.laysStatic C n d).before args s = true := by
  obtain ⟨c, k, i, f, a, cell, h1, h2, h3, h4, h5, h6, h7, h8, h9, -⟩ := h
  show (Cond.laysStatic C n d).holds args s none s [] = true
  exact Cond.laysStatic_of h1 h2 h3 h4 h5 h6 h7 h8 h9
/-- .. and what it holds: null or some reference -/
def vx_Zq (C n d : String) (A : Nat → Prop) (U : State) (H : Heap) : Prop := va_Zq C n d A U H ∧ vx_L C n d A U H
theorem vx_Zq.moved {C n d : String} {A : Nat → Prop} {u U : State} {H : Heap} (hvm : u.vm.Alike U.vm) (h : vx_Zq C n d A u H) : vx_Zq C n d A U H := ⟨va_Zq.moved hvm h.1, vx_L.moved hvm h.2⟩
theorem vx_Zq.kept {C n d : String} {A : Nat → Prop} {U : State} {H H1 : Heap} (h : vx_Zq C n d A U H) (hq : ∀ a : Nat, a < H.size → ¬ A a → H1[a]? = H[a]?) : vx_Zq C n d A U H1 := ⟨va_Zq.kept h.1 hq, vx_L.kept h.2 hq⟩
theorem vx_Zq.narrow {C n d : String} {A B : Nat → Prop} {U : State} {H : Heap} (h : vx_Zq C n d A U H) (hAB : ∀ q, B q → A q) : vx_Zq C n d B U H := ⟨va_Zq.narrow h.1 hAB, vx_L.narrow h.2 hAB⟩
theorem vx_Zqof {args : Array Value} {s : State} {C n d : String} {A : Nat → Prop} (hl : (Cond.laysStatic C n d).before args s = true) (hini : (Cond.initialized C).before args s = true) (h : (Cond.isRef (.static C n d)).before args s = true) (hA : ∀ a : Nat, a < s.heap.size → ¬ A a) : vx_Zq C n d A s s.heap := by
  refine ⟨va_Zqof hl hini h hA, ?_⟩
  obtain ⟨c, k, i, f, a, cell, h1, h2, h3, h4, h5, h6, h7, h8, h9⟩ := Cond.laysStatic_spec hl
  exact ⟨c, k, i, f, a, cell, h1, h2, h3, h4, h5, h6, h7, h8, h9, hA a (Array.getElem?_eq_some_iff.mp h5).1⟩
theorem vx_isRef {C n d : String} {v : Value} {A : Nat → Prop} {s : State} {args : Array Value} (h : va_Z C n d v A s s.heap) (hv : v.isRef = true) : (Cond.isRef (.static C n d)).before args s = true := by
  obtain ⟨cf, kf, fi, f, a, cell, h1, h2, h3, h4, h5, h6, h7, -⟩ := h
  have he : (Term.static C n d).eval args s none [] s = some v := by
    simp [Term.eval, State.fieldNamed?, h1, h2, h4, h5, h6, h7]
  simp only [Cond.before, Cond.holds, Cond.value, he]
  cases v <;> simp_all [Value.isRef]
theorem vx_isRefq {C n d : String} {A : Nat → Prop} {s : State} {args : Array Value} (h : va_Zq C n d A s s.heap) : (Cond.isRef (.static C n d)).before args s = true := by
  rcases h with h | ⟨t, h⟩
  · exact vx_isRef h rfl
  · exact vx_isRef h rfl
/-- the same frame, seen from here: as if the method were called anew in this heap -/
theorem vx_rebase {T : State} (X : Stand p l e R s m args below meth c T locs cells slots) {R' : Room} (hf : R'.frames ≤ R.frames) (hl : R'.locals ≤ R.locals) (hc : cells + R'.cells ≤ R.cells) (hs : slots + R'.slots ≤ R.slots) :
    Stand p l e R' ((T.setVm s.vm).setFrames (.invoking m args :: below)) m args below meth c T [] 0 0 := by
  have htop : (T.setVm s.vm).topJava?.isSome := X.here.top
  have hF : ((T.setVm s.vm).setFrames (.invoking m args :: below)).frames = .invoking m args :: below := State.frames_setFrames _ (State.cur_lt_of_top htop)
  obtain ⟨g₀, hg0⟩ := Option.isSome_iff_exists.mp htop
  obtain ⟨r, hr⟩ := State.topJava?_eq_some.mp hg0
  have hl9 : e.platform.stackLimits (T.setVm s.vm).me = e.platform.stackLimits s.me := X.limits
  have hb9 : (T.setVm s.vm).me.stackBytes = s.me.stackBytes := X.bytes
  refine ⟨X.admits, X.cas, X.clock, hF, ?_, X.hears, X.method, X.code, X.here, X.tail, X.warmed, ?_, ?_, ?_⟩
  · have h := X.room
    have hU : ((T.setVm s.vm).setFrames (.invoking m args :: below)).localsInUse = s.localsInUse := by
      rw [State.localsInUse_invoking hF (meth := meth) (c := c) X.method X.code, State.localsInUse_invoking X.frames X.method X.code]
    simp only [State.hasRoom, Bool.and_eq_true, decide_eq_true_eq] at h ⊢
    obtain ⟨⟨⟨⟨h1, h2, h3, h4, h5, h6⟩, h7⟩, h8⟩, h9⟩ := h
    rw [X.frames, List.length_cons] at h2 h3
    have q1 := X.heapSize
    have q2 := X.used
    simp only [hF, hU, List.length_cons, State.stackLimits_setFrames, State.stackBytes_setFrames, hl9, hb9]
    refine ⟨⟨⟨⟨by omega, by omega, by omega, by omega, by omega, h6⟩, ?_⟩, ?_⟩, X.book⟩
    · show T.heap.size + R'.cells ≤ e.platform.maxCells
      omega
    · show T.slotsUsed + R'.slots ≤ e.platform.maxSlots
      omega
  · rw [State.stackLimits_setFrames]; rfl
  · rw [State.stackBytes_setFrames]; rfl
  · refine ⟨?_, Nat.le_refl _, Nat.le_refl _, ?_, ?_, fun a c9 h9 => ⟨c9, h9, rfl, rfl, fun _ _ => rfl⟩⟩
    · obtain ⟨t, ht, -⟩ := State.frames_cons hr
      show T.setVm s.vm = { ((T.setVm s.vm).setFrames (.invoking m args :: below)).setFrames (T.setVm s.vm).frames with heap := T.heap, slotsUsed := T.slotsUsed }
      rw [State.setFrames_setFrames, State.setFrames_self ht]
      rfl
    · show T.slotsUsed = T.slotsUsed + ((T.heap.toList.drop T.heap.size).map (·.slots.size)).sum
      rw [List.drop_eq_nil_of_le (Nat.le_of_eq Array.length_toList)]
      rfl
    · show ((T.heap.toList.drop T.heap.size).map (·.slots.size)).sum ≤ 0
      rw [List.drop_eq_nil_of_le (Nat.le_of_eq Array.length_toList)]
      exact Nat.le_refl _
/-- 'throw new E()': new; dup; invokespecial; athrow -/
theorem vx_throw0 {cc : ByteArray} {pc : Nat} (hexec : p.tables.exec = Jvm.exec) (hb : c.code = cc) (hl : l.stackTraces = false) {own cls : String} {names : List String} {ik ic mc ms : Nat} {A : Nat → Prop}
    (hown : s.vm.findClass own = some m.cls) (hcls : Bundle.fit cls = true) (hnames : ∀ n ∈ names, Bundle.fit n = true)
    (hk : (Cond.classLink own ik cls).before args s = true) (hini : (Cond.initialized cls).before args s = true) (hat : ∀ w ∈ vx_at0 own ic cls names, w.before args s = true)
    (hgood : ∀ w ∈ Cond.classLink own ik cls :: Cond.initialized cls :: vx_at0 own ic cls names, vx_ot w = true)
    (hU : vx_Zq Bundle.tN "UNASSIGNED_STACK" Bundle.steD A s s.heap) (hN : vx_Zq Bundle.tN "SUPPRESSED_SENTINEL" Bundle.listD A s s.heap) (hS : va_S A s.heap H locs) (hsize : ls.size = c.maxLocals)
    (d0 : decode cc pc = .ok (.new ik, 3)) (d3 : decode cc (pc + 3) = .ok (.dup, 1)) (d4 : decode cc (pc + 4) = .ok (.invokespecial ic, 3)) (d7 : decode cc (pc + 7) = .ok (.athrow, 1))
    (hout : ∀ x ∈ c.exceptionTable.toList, covers x (pc + 7) = false)
    (hRframes : names.length + 3 < R.frames) (hRlocals : (rest.map fun v => v.category).sum + (13 * (names.length + 1) + 42) ≤ R.locals) (hRcells : cells + 1 ≤ R.cells) (hRslots : slots + 6 ≤ R.slots) (hlocks : meth.locks = false)
    (hx : ∀ t : State, s.vm.Alike t.vm → H.size ≤ t.heap.size → (∀ q : Nat, q < H.size → t.heap[q]? = H[q]?) → XC cls s t)
    (hf : ∀ z ∈ locs, free z.base) (hc : cells + 1 ≤ mc) (hs : slots + 6 ≤ ms) :
    W p l e R s m args below meth c H locs cells slots (vx_MQ below Qc XC args s mc ms free) (F0 m pc ls rest) := by
  intro T hT X
  have htr : e.platform.stackTraces = false := (show e.platform.stackTraces = l.stackTraces by rw [X.admits.platform]).trans hl
  have Y := vx_rebase X (R' := { frames := R.frames, locals := R.locals, cells := 1, slots := 6 }) (Nat.le_refl _) (Nat.le_refl _) hRcells hRslots
  obtain ⟨s', hA⟩ : ∃ z, z = (T.setVm s.vm).setFrames (.invoking m args :: below) := ⟨_, rfl⟩
  rw [← hA] at Y
  have hvm : s'.vm = s.vm := by rw [hA]; rfl
  have hhp : s'.heap = H := by rw [hA]; exact hT
  have hW0 : s.WarmedH s'.vm := by rw [hvm]; exact State.WarmedH.refl s
  have hat' : ∀ w ∈ vx_at0 own ic cls names, w.before args s' = true := fun w hw => vx_ot_at hW0 hvm.symm (hgood w (List.mem_cons_of_mem _ (List.mem_cons_of_mem _ hw))) (hat w hw)
  have hk' : (Cond.classLink own ik cls).before args s' = true := vx_ot_at hW0 hvm.symm (hgood _ List.mem_cons_self) hk
  have hini' : (Cond.initialized cls).before args s' = true := vx_ot_at hW0 hvm.symm (hgood _ (List.mem_cons_of_mem _ List.mem_cons_self)) hini
  have hU' : vx_Zq Bundle.tN "UNASSIGNED_STACK" Bundle.steD A s' s'.heap := by rw [hhp]; exact vx_Zq.moved hW0.alike (hU.kept hS.2.1)
  have hN' : vx_Zq Bundle.tN "SUPPRESSED_SENTINEL" Bundle.listD A s' s'.heap := by rw [hhp]; exact vx_Zq.moved hW0.alike (hN.kept hS.2.1)
  have h : ∀ w ∈ Bundle.ownAtoms0 own ic cls names, w.before args s' = true := vx_own hat' (vx_isRefq hU'.1) (vx_isRefq hN'.1) hU'.2.word hN'.2.word
  have hown' : s'.vm.findClass own = some m.cls := by rw [hvm]; exact hown
  have hins : (Cond.instantiable cls 6).before args s' = true := h _ (by simp [Bundle.ownAtoms0])
  obtain ⟨vm₁, cX, kX, hfX, hkX, -, -, X₁, st1⟩ := Y.newCold hexec (own := own) (C := cls) (index := ik) (n := 6) hown' hk' hins hini'
    (g := F0 m pc ls rest) rfl (by rw [hb]; exact d0) (Nat.le_refl _) (Nat.le_refl _)
  generalize hT1 : (T.setVm vm₁).pushCell { cls := cX, slots := kX.instanceTypes.map defaultValue, vm := .none } = T1 at X₁ st1
  have hcat : (Value.ref T.heap.size).category = 1 := rfl
  have hcellA : T1.heap[T.heap.size]? = some (freshCell cX kX) := by rw [← hT1]; exact State.heap_pushCell_size _ _
  have d3' : decode c.code (pc + 3) = .ok (.dup, 1) := by rw [hb]; exact d3
  obtain ⟨U, hsteps, hrun, hend, hW, hsame, ce, hce, hO⟩ := X₁.ctorThrow0 hexec htr (own := own) (cls := cls) (names := names) (ic := ic) hown' hcls hnames h (fun x hx => nomatch hx) hfX hkX hcellA (by rw [hhp, hT]; exact Nat.le_refl _)
    (g := { method := m, pc := pc + 4, locals := ls, stack := .ref T.heap.size :: .ref T.heap.size :: rest, locked := none }) rfl hsize rfl rfl (rest := rest) rfl
    (by rw [hb]; exact d4) (by rw [hb]; exact d7) hout hRframes (by simp only [List.map_cons, List.sum_cons, hcat]; omega) hlocks
  obtain ⟨f1, f2⟩ := vx_frame hsame
  rw [hhp] at f1 f2
  have hWs : s.WarmedH U.vm := State.WarmedH.trans hW0 hW
  have hcl : s.vm.findClass cls = some ce.cls := by
    have h9 := hO.cls
    rw [hvm] at h9
    exact h9
  have hall : s.sameButNew ({ U with vm := s.vm } : State) locs mc ms := by
    subst hA
    obtain ⟨e1, e2⟩ := hsame
    rw [State.setFrames_setFrames] at e1
    have h2 : (T.setVm s.vm).sameButNew ({ U with vm := s.vm } : State) [] (0 + 1) (0 + 6) := ⟨e1, e2⟩
    have h3 := X.same.trans h2
    rw [List.append_nil] at h3
    exact h3.mono hc hs
  refine ⟨U, ?_, .threw T.heap.size, hrun, hend, Or.inr ⟨T.heap.size, rfl, cls, ce, locs, hx U hWs.alike f1 (fun q hq => f2 q hq (fun z hz => nomatch hz)), hce, hO.vm, hcl, hWs, hall, hf⟩⟩
  refine st1 _ ?_
  show Steps p.tables e below (T1.setTop { method := m, pc := pc + 3, locals := ls, stack := .ref T.heap.size :: rest, locked := none }) _
  jvm_step X₁.here [X₁.here.top, hexec, d3', Value.category]
  exact hsteps
/-- 'throw new E("text")': new; dup; ldc; invokespecial; athrow -/
theorem vx_throwS {cc : ByteArray} {pc : Nat} (hexec : p.tables.exec = Jvm.exec) (hb : c.code = cc) (hl : l.stackTraces = false) {own cls text : String} {names : List String} {ik is ic mc ms sa : Nat} {A : Nat → Prop}
    (hown : s.vm.findClass own = some m.cls) (hcls : Bundle.fit cls = true) (hnames : ∀ n ∈ names, Bundle.fit n = true)
    (hk : (Cond.classLink own ik cls).before args s = true) (hini : (Cond.initialized cls).before args s = true) (hstr : vk_R own is text sa s) (hat : ∀ w ∈ vx_atS own ic cls names, w.before args s = true)
    (hgood : ∀ w ∈ Cond.classLink own ik cls :: Cond.initialized cls :: vx_atS own ic cls names, vx_ot w = true)
    (hU : vx_Zq Bundle.tN "UNASSIGNED_STACK" Bundle.steD A s s.heap) (hN : vx_Zq Bundle.tN "SUPPRESSED_SENTINEL" Bundle.listD A s s.heap) (hS : va_S A s.heap H locs) (hsize : ls.size = c.maxLocals)
    (d0 : decode cc pc = .ok (.new ik, 3)) (d3 : decode cc (pc + 3) = .ok (.dup, 1)) (d4 : decode cc (pc + 4) = .ok (.ldc is, 2)) (d6 : decode cc (pc + 6) = .ok (.invokespecial ic, 3)) (d9 : decode cc (pc + 9) = .ok (.athrow, 1))
    (hout : ∀ x ∈ c.exceptionTable.toList, covers x (pc + 9) = false)
    (hRframes : names.length + 3 < R.frames) (hRlocals : (rest.map fun v => v.category).sum + (13 * (names.length + 1) + 43) ≤ R.locals) (hRcells : cells + 1 ≤ R.cells) (hRslots : slots + 6 ≤ R.slots) (hlocks : meth.locks = false)
    (hx : ∀ t : State, s.vm.Alike t.vm → H.size ≤ t.heap.size → (∀ q : Nat, q < H.size → t.heap[q]? = H[q]?) → XC cls s t)
    (hf : ∀ z ∈ locs, free z.base) (hc : cells + 1 ≤ mc) (hs : slots + 6 ≤ ms) :
    W p l e R s m args below meth c H locs cells slots (vx_MQ below Qc XC args s mc ms free) (F0 m pc ls rest) := by
  intro T hT X
  have htr : e.platform.stackTraces = false := (show e.platform.stackTraces = l.stackTraces by rw [X.admits.platform]).trans hl
  have Y := vx_rebase X (R' := { frames := R.frames, locals := R.locals, cells := 1, slots := 6 }) (Nat.le_refl _) (Nat.le_refl _) hRcells hRslots
  obtain ⟨s', hA⟩ : ∃ z, z = (T.setVm s.vm).setFrames (.invoking m args :: below) := ⟨_, rfl⟩
  rw [← hA] at Y
  have hvm : s'.vm = s.vm := by rw [hA]; rfl
  have hhp : s'.heap = H := by rw [hA]; exact hT
  have hW0 : s.WarmedH s'.vm := by rw [hvm]; exact State.WarmedH.refl s
  have hat' : ∀ w ∈ vx_atS own ic cls names, w.before args s' = true := fun w hw => vx_ot_at hW0 hvm.symm (hgood w (List.mem_cons_of_mem _ (List.mem_cons_of_mem _ hw))) (hat w hw)
  have hk' : (Cond.classLink own ik cls).before args s' = true := vx_ot_at hW0 hvm.symm (hgood _ List.mem_cons_self) hk
  have hini' : (Cond.initialized cls).before args s' = true := vx_ot_at hW0 hvm.symm (hgood _ (List.mem_cons_of_mem _ List.mem_cons_self)) hini
  have hU' : vx_Zq Bundle.tN "UNASSIGNED_STACK" Bundle.steD A s' s'.heap := by rw [hhp]; exact vx_Zq.moved hW0.alike (hU.kept hS.2.1)
  have hN' : vx_Zq Bundle.tN "SUPPRESSED_SENTINEL" Bundle.listD A s' s'.heap := by rw [hhp]; exact vx_Zq.moved hW0.alike (hN.kept hS.2.1)
  have h : ∀ w ∈ Bundle.ownAtoms own ic cls names, w.before args s' = true := vx_own hat' (vx_isRefq hU'.1) (vx_isRefq hN'.1) hU'.2.word hN'.2.word
  have hown' : s'.vm.findClass own = some m.cls := by rw [hvm]; exact hown
  have hins : (Cond.instantiable cls 6).before args s' = true := h _ (by simp [Bundle.ownAtoms])
  obtain ⟨vm₁, cX, kX, hfX, hkX, -, -, X₁, st1⟩ := Y.newCold hexec (own := own) (C := cls) (index := ik) (n := 6) hown' hk' hins hini'
    (g := F0 m pc ls rest) rfl (by rw [hb]; exact d0) (Nat.le_refl _) (Nat.le_refl _)
  generalize hT1 : (T.setVm vm₁).pushCell { cls := cX, slots := kX.instanceTypes.map defaultValue, vm := .none } = T1 at X₁ st1
  have hcat : (Value.ref T.heap.size).category = 1 := rfl
  have hcellA : T1.heap[T.heap.size]? = some (freshCell cX kX) := by rw [← hT1]; exact State.heap_pushCell_size _ _
  have d3' : decode c.code (pc + 3) = .ok (.dup, 1) := by rw [hb]; exact d3
  have d4' : decode c.code (pc + 4) = .ok (.ldc is, 2) := by rw [hb]; exact d4
  have hstr' : vk_R own is text sa s' := vk_R.warm hW0 hstr
  obtain ⟨U, hsteps, hrun, hend, hW, hsame, ce, hce, hO⟩ := X₁.ctorThrowS hexec htr (own := own) (cls := cls) (names := names) (ic := ic) hown' hcls hnames h (fun x hx => nomatch hx) hfX hkX hcellA (by rw [hhp, hT]; exact Nat.le_refl _) (msg := .ref sa) rfl
    (g := { method := m, pc := pc + 6, locals := ls, stack := .ref sa :: .ref T.heap.size :: .ref T.heap.size :: rest, locked := none }) rfl hsize rfl rfl (rest := rest) rfl
    (by rw [hb]; exact d6) (by rw [hb]; exact d9) hout hRframes (by simp only [List.map_cons, List.sum_cons, hcat]; omega) hlocks
  obtain ⟨f1, f2⟩ := vx_frame hsame
  rw [hhp] at f1 f2
  have hWs : s.WarmedH U.vm := State.WarmedH.trans hW0 hW
  have hcl : s.vm.findClass cls = some ce.cls := by
    have h9 := hO.cls
    rw [hvm] at h9
    exact h9
  have hall : s.sameButNew ({ U with vm := s.vm } : State) locs mc ms := by
    subst hA
    obtain ⟨e1, e2⟩ := hsame
    rw [State.setFrames_setFrames] at e1
    have h2 : (T.setVm s.vm).sameButNew ({ U with vm := s.vm } : State) [] (0 + 1) (0 + 6) := ⟨e1, e2⟩
    have h3 := X.same.trans h2
    rw [List.append_nil] at h3
    exact h3.mono hc hs
  refine ⟨U, ?_, .threw T.heap.size, hrun, hend, Or.inr ⟨T.heap.size, rfl, cls, ce, locs, hx U hWs.alike f1 (fun q hq => f2 q hq (fun z hz => nomatch hz)), hce, hO.vm, hcl, hWs, hall, hf⟩⟩
  refine st1 _ ?_
  show Steps p.tables e below (T1.setTop { method := m, pc := pc + 3, locals := ls, stack := .ref T.heap.size :: rest, locked := none }) _
  jvm_step X₁.here [X₁.here.top, hexec, d3', Value.category]
  exact X₁.ldcString hexec (own := own) (text := text) (index := is) (a := sa) hown' hstr'.1 hstr'.2
    (g := { method := m, pc := pc + 4, locals := ls, stack := .ref T.heap.size :: .ref T.heap.size :: rest, locked := none }) rfl d4' _ hsteps
/-- 'throw new E("text")', the text by a wide index -/
theorem vx_throwSW {cc : ByteArray} {pc : Nat} (hexec : p.tables.exec = Jvm.exec) (hb : c.code = cc) (hl : l.stackTraces = false) {own cls text : String} {names : List String} {ik is ic mc ms sa : Nat} {A : Nat → Prop}
    (hown : s.vm.findClass own = some m.cls) (hcls : Bundle.fit cls = true) (hnames : ∀ n ∈ names, Bundle.fit n = true)
    (hk : (Cond.classLink own ik cls).before args s = true) (hini : (Cond.initialized cls).before args s = true) (hstr : vk_R own is text sa s) (hat : ∀ w ∈ vx_atS own ic cls names, w.before args s = true)
    (hgood : ∀ w ∈ Cond.classLink own ik cls :: Cond.initialized cls :: vx_atS own ic cls names, vx_ot w = true)
    (hU : vx_Zq Bundle.tN "UNASSIGNED_STACK" Bundle.steD A s s.heap) (hN : vx_Zq Bundle.tN "SUPPRESSED_SENTINEL" Bundle.listD A s s.heap) (hS : va_S A s.heap H locs) (hsize : ls.size = c.maxLocals)
    (d0 : decode cc pc = .ok (.new ik, 3)) (d3 : decode cc (pc + 3) = .ok (.dup, 1)) (d4 : decode cc (pc + 4) = .ok (.ldc_w is, 3)) (d7 : decode cc (pc + 7) = .ok (.invokespecial ic, 3)) (d10 : decode cc (pc + 10) = .ok (.athrow, 1))
    (hout : ∀ x ∈ c.exceptionTable.toList, covers x (pc + 10) = false)
    (hRframes : names.length + 3 < R.frames) (hRlocals : (rest.map fun v => v.category).sum + (13 * (names.length + 1) + 43) ≤ R.locals) (hRcells : cells + 1 ≤ R.cells) (hRslots : slots + 6 ≤ R.slots) (hlocks : meth.locks = false)
    (hx : ∀ t : State, s.vm.Alike t.vm → H.size ≤ t.heap.size → (∀ q : Nat, q < H.size → t.heap[q]? = H[q]?) → XC cls s t)
    (hf : ∀ z ∈ locs, free z.base) (hc : cells + 1 ≤ mc) (hs : slots + 6 ≤ ms) :
    W p l e R s m args below meth c H locs cells slots (vx_MQ below Qc XC args s mc ms free) (F0 m pc ls rest) := by
  intro T hT X
  have htr : e.platform.stackTraces = false := (show e.platform.stackTraces = l.stackTraces by rw [X.admits.platform]).trans hl
  have Y := vx_rebase X (R' := { frames := R.frames, locals := R.locals, cells := 1, slots := 6 }) (Nat.le_refl _) (Nat.le_refl _) hRcells hRslots
  obtain ⟨s', hA⟩ : ∃ z, z = (T.setVm s.vm).setFrames (.invoking m args :: below) := ⟨_, rfl⟩
  rw [← hA] at Y
  have hvm : s'.vm = s.vm := by rw [hA]; rfl
  have hhp : s'.heap = H := by rw [hA]; exact hT
  have hW0 : s.WarmedH s'.vm := by rw [hvm]; exact State.WarmedH.refl s
  have hat' : ∀ w ∈ vx_atS own ic cls names, w.before args s' = true := fun w hw => vx_ot_at hW0 hvm.symm (hgood w (List.mem_cons_of_mem _ (List.mem_cons_of_mem _ hw))) (hat w hw)
  have hk' : (Cond.classLink own ik cls).before args s' = true := vx_ot_at hW0 hvm.symm (hgood _ List.mem_cons_self) hk
  have hini' : (Cond.initialized cls).before args s' = true := vx_ot_at hW0 hvm.symm (hgood _ (List.mem_cons_of_mem _ List.mem_cons_self)) hini
  have hU' : vx_Zq Bundle.tN "UNASSIGNED_STACK" Bundle.steD A s' s'.heap := by rw [hhp]; exact vx_Zq.moved hW0.alike (hU.kept hS.2.1)
  have hN' : vx_Zq Bundle.tN "SUPPRESSED_SENTINEL" Bundle.listD A s' s'.heap := by rw [hhp]; exact vx_Zq.moved hW0.alike (hN.kept hS.2.1)
  have h : ∀ w ∈ Bundle.ownAtoms own ic cls names, w.before args s' = true := vx_own hat' (vx_isRefq hU'.1) (vx_isRefq hN'.1) hU'.2.word hN'.2.word
  have hown' : s'.vm.findClass own = some m.cls := by rw [hvm]; exact hown
  have hins : (Cond.instantiable cls 6).before args s' = true := h _ (by simp [Bundle.ownAtoms])
  obtain ⟨vm₁, cX, kX, hfX, hkX, -, -, X₁, st1⟩ := Y.newCold hexec (own := own) (C := cls) (index := ik) (n := 6) hown' hk' hins hini'
    (g := F0 m pc ls rest) rfl (by rw [hb]; exact d0) (Nat.le_refl _) (Nat.le_refl _)
  generalize hT1 : (T.setVm vm₁).pushCell { cls := cX, slots := kX.instanceTypes.map defaultValue, vm := .none } = T1 at X₁ st1
  have hcat : (Value.ref T.heap.size).category = 1 := rfl
  have hcellA : T1.heap[T.heap.size]? = some (freshCell cX kX) := by rw [← hT1]; exact State.heap_pushCell_size _ _
  have d3' : decode c.code (pc + 3) = .ok (.dup, 1) := by rw [hb]; exact d3
  have d4' : decode c.code (pc + 4) = .ok (.ldc_w is, 3) := by rw [hb]; exact d4
  have hstr' : vk_R own is text sa s' := vk_R.warm hW0 hstr
  obtain ⟨U, hsteps, hrun, hend, hW, hsame, ce, hce, hO⟩ := X₁.ctorThrowS hexec htr (own := own) (cls := cls) (names := names) (ic := ic) hown' hcls hnames h (fun x hx => nomatch hx) hfX hkX hcellA (by rw [hhp, hT]; exact Nat.le_refl _) (msg := .ref sa) rfl
    (g := { method := m, pc := pc + 7, locals := ls, stack := .ref sa :: .ref T.heap.size :: .ref T.heap.size :: rest, locked := none }) rfl hsize rfl rfl (rest := rest) rfl
    (by rw [hb]; exact d7) (by rw [hb]; exact d10) hout hRframes (by simp only [List.map_cons, List.sum_cons, hcat]; omega) hlocks
  obtain ⟨f1, f2⟩ := vx_frame hsame
  rw [hhp] at f1 f2
  have hWs : s.WarmedH U.vm := State.WarmedH.trans hW0 hW
  have hcl : s.vm.findClass cls = some ce.cls := by
    have h9 := hO.cls
    rw [hvm] at h9
    exact h9
  have hall : s.sameButNew ({ U with vm := s.vm } : State) locs mc ms := by
    subst hA
    obtain ⟨e1, e2⟩ := hsame
    rw [State.setFrames_setFrames] at e1
    have h2 : (T.setVm s.vm).sameButNew ({ U with vm := s.vm } : State) [] (0 + 1) (0 + 6) := ⟨e1, e2⟩
    have h3 := X.same.trans h2
    rw [List.append_nil] at h3
    exact h3.mono hc hs
  refine ⟨U, ?_, .threw T.heap.size, hrun, hend, Or.inr ⟨T.heap.size, rfl, cls, ce, locs, hx U hWs.alike f1 (fun q hq => f2 q hq (fun z hz => nomatch hz)), hce, hO.vm, hcl, hWs, hall, hf⟩⟩
  refine st1 _ ?_
  show Steps p.tables e below (T1.setTop { method := m, pc := pc + 3, locals := ls, stack := .ref T.heap.size :: rest, locked := none }) _
  jvm_step X₁.here [X₁.here.top, hexec, d3', Value.category]
  exact X₁.ldcStringW hexec (own := own) (text := text) (index := is) (a := sa) hown' hstr'.1 hstr'.2
    (g := { method := m, pc := pc + 4, locals := ls, stack := .ref T.heap.size :: .ref T.heap.size :: rest, locked := none }) rfl d4' _ hsteps
end Ends
section Bodies
variable {l : Launch}
theorem vx_ofW {y : MethodName} {ws ws' : List Cond} {rm : Room} {Pc : Array Value → State → Prop} {Qc : Array Value → State → Outcome → State → Prop} {XC : String → State → State → Prop} {mc ms : Nat} {free : Addr → Prop} {cc : ByteArray} {maxL : Nat} {ret : Option FieldType}
    (hy : plainName y.cls = true) (hw : ws = Cond.code y cc maxL ret :: ws')
    (body : ∀ p e s m args below meth c s₁, BodyLoose p l y (headSpec ws rm) cc maxL ret e s m args below meth c s₁ → c.maxLocals = maxL → (∀ x ∈ c.exceptionTable.toList, False) → Pc args s →
      W p l e (headSpec ws rm).room s m args below meth c s.heap [] 0 0 (vx_MQ below Qc XC args s mc ms free) (entryFrame m args maxL)) : vx_Met l y ws rm Pc Qc XC mc ms free := by
  refine MetFree.of_bodyS (code := cc) (maxLocals := maxL) (ret := ret) hy ?_ ?_
  · intro args s m h hn
    obtain ⟨meth, c, h1, h2, h3, h4, h5, h6, -, -⟩ := Cond.code_spec hn (atoms_spec (ws := ws) h _ (by rw [hw]; exact List.mem_cons_self))
    exact ⟨meth, c, h1, h2, h3, h4, h5, h6⟩
  · intro p e s m args below meth c s₁ B hml hP _
    have hh0 : s₁.heap = s.heap := by rw [B.state]; rfl
    have ht : ∀ x ∈ c.exceptionTable.toList, False := by
      obtain ⟨meth9, c9, h1, h2, -, -, -, -, h7, -⟩ := Cond.code_spec B.named (atoms_spec (ws := ws) B.pre _ (by rw [hw]; exact List.mem_cons_self))
      cases Option.some.inj (h1.symm.trans B.method)
      cases Option.some.inj (h2.symm.trans (Stand.of_body B).code)
      intro x hx
      rw [Array.isEmpty_iff.mp h7] at hx
      cases hx
    obtain ⟨t, a1, o, b1, b2, b3⟩ := body p e s m args below meth c s₁ B hml ht hP s₁ hh0 (Stand.of_body B)
    exact ⟨t, o, a1, b1, b2, b3⟩
/-- the table of a body with handlers -/
theorem vx_table {p : Program} {x y : MethodName} {S : Spec} {cc bytes : ByteArray} {maxL maxL' : Nat} {ret ret' : Option FieldType} {e : Env} {s s₁ : State} {m : MethodId} {args : Array Value} {below : List Frame} {meth : Method} {c : Code} {hh : List (Nat × Nat × Nat × Nat)}
    (B : BodyLoose p l y S cc maxL ret e s m args below meth c s₁) (h : (Cond.codeWith y bytes maxL' ret' hh).before args s = true) : c.exceptionTable.toList = tableOf hh := by
  obtain ⟨m9, meth9, c9, hn9, h1, h2, -, -, h6, -⟩ := Cond.codeWith_spec h
  cases Option.some.inj (hn9.symm.trans B.named)
  cases Option.some.inj (h1.symm.trans B.method)
  cases Option.some.inj (h2.symm.trans (Stand.of_body B).code)
  rw [← h6, table_eq]
end Bodies
end VXA
/-! ===== END ===== -/
/-! ===== BEGIN a static call of a method with an exception table ===== -/
section VXS
variable {p : Program} {l : Launch} {e : Env} {R : Room} {s : State} {m : MethodId} {args : Array Value} {below : List Frame} {meth : Method} {c : Code} {T : State} {H : Heap} {locs : List Loc} {cells slots : Nat}
abbrev vx_CSW (R : Room) (s : State) (args : Array Value) (own : String) (index : Nat) (y : MethodName) (bytes : ByteArray) (maxL : Nat) (ret : Option FieldType) (hh : List (Nat × Nat × Nat × Nat)) (ws : List Cond) (rm : Room) (mc ms n : Nat) : Prop :=
  (rm.cells = mc ∧ rm.slots = ms ∧ rm.frames + 1 ≤ R.frames ∧ 8 + (maxL + 11) + rm.locals ≤ R.locals ∧ (∀ w ∈ ws, ∀ (a' : Array Value) (U : State), s.WarmedH U.vm → w.before a' U = true) ∧ Cond.codeWith y bytes maxL ret hh ∈ ws) ∧
  (Cond.codeWith y bytes maxL ret hh).before args s = true ∧ (Cond.initialized y.cls).before args s = true ∧ (y.cls ≠ "java/lang/invoke/MethodHandle" ∧ y.cls ≠ "java/lang/invoke/VarHandle") ∧
  (∀ sig, parseMethodDescriptor y.desc = some sig → n = sig.parameters.length) ∧ (Cond.methodLink own index y).before args s = true ∧ (Cond.static y).before args s = true
theorem vx_cwSW {own : String} {index maxL mc ms : Nat} {y : MethodName} {bytes : ByteArray} {ret : Option FieldType} {hh : List (Nat × Nat × Nat × Nat)} {Ts ws ws' : List Cond} {rm : Room} (n : Nat) (ht : ∀ w ∈ Ts, w.before args s = true) (hT : GoodIn Ts (va_wsS own index y ws)) (hw : ws = Cond.codeWith y bytes maxL ret hh :: ws') (hrc : rm.cells = mc) (hrs : rm.slots = ms)
    (hd : y.cls ≠ "java/lang/invoke/MethodHandle" ∧ y.cls ≠ "java/lang/invoke/VarHandle" ∧ (parseMethodDescriptor y.desc).map (fun d => d.parameters.length) = some n) (hR : rm.frames + 1 ≤ R.frames ∧ 8 + (maxL + 11) + rm.locals ≤ R.locals) :
    vx_CSW R s args own index y bytes maxL ret hh ws rm mc ms n := by
  have ok : ∀ w ∈ va_wsS own index y ws, w.before args s = true := fun w h => ht w (hT w h).1
  have hG : GoodIn Ts ws := fun w h => hT w (by unfold va_wsS; exact List.mem_append_right _ h)
  have hc : Cond.codeWith y bytes maxL ret hh ∈ ws := by rw [hw]; exact List.mem_cons_self
  refine ⟨⟨hrc, hrs, hR.1, hR.2, pay_in ht hG, hc⟩, ht _ (hG _ hc).1, ok _ (by simp [va_wsS]), ⟨hd.1, hd.2.1⟩, fun sig h => ?_, ok _ (by simp [va_wsS]), ok _ (by simp [va_wsS])⟩
  have h2 := hd.2.2
  rw [h] at h2
  exact (Option.some.inj h2).symm
theorem vx_callSW (X : Stand p l e R s m args below meth c T locs cells slots) (hexec : p.tables.exec = Jvm.exec) {own : String} {index : Nat} {y : MethodName} {bytes : ByteArray} {maxL : Nat} {ret : Option FieldType} {hh : List (Nat × Nat × Nat × Nat)}
    (hown : s.vm.findClass own = some m.cls) (hlink : (Cond.methodLink own index y).before args s = true) (hstat : (Cond.static y).before args s = true) (hinit : (Cond.initialized y.cls).before args s = true)
    (hcode : (Cond.codeWith y bytes maxL ret hh).before args s = true) (hy : y.cls ≠ "java/lang/invoke/MethodHandle" ∧ y.cls ≠ "java/lang/invoke/VarHandle")
    {W9 : Nat} {Pre : Pt → Array Value → Prop} {Post : Pt → Array Value → Option Value → Pt → Prop} (hK : Back l R p e below s args y 3 W9 Pre Post)
    {g : JFrame} (hg : g.method = m) (hsize : g.locals.size = c.maxLocals) {argsL rest : List Value} (hlen : ∀ sig, parseMethodDescriptor y.desc = some sig → argsL.length = sig.parameters.length)
    (hstack : g.stack = argsL.reverse ++ rest) (hW : 2 * g.monitorRoom + (rest.map fun v => v.category).sum ≤ W9) (hdg : decode c.code g.pc = .ok (.invokestatic index, 3))
    (hpre : ∀ vm₁, s.WarmedH vm₁ → Pre ⟨T.setVm vm₁, locs, cells, slots⟩ argsL.toArray) :
    ∃ (v : Option Value) (vm₁ : Vm) (B : Pt), s.WarmedH vm₁ ∧ Stand p l e R s m args below meth c B.U B.locs B.cells B.slots ∧ Post ⟨T.setVm vm₁, locs, cells, slots⟩ argsL.toArray v B ∧
      ∀ target, Steps p.tables e below (B.U.setTop { g with pc := g.pc + 3, stack := v.toList ++ rest }) target → Steps p.tables e below (T.setTop g) target := by
  obtain ⟨mk, methM, cM, hnamed, hmethM, -, -, -, -, -, -, hsigM⟩ := Cond.codeWith_spec hcode
  have hstatic : methM.isStatic = true := Cond.static_spec hnamed hmethM hstat
  obtain ⟨kP, hkP, -⟩ := className_of_methodNamed hnamed
  have hinitP : kP.init = .initialized := Cond.initialized_spec (findClass_of_methodNamed hnamed) hkP hinit
  obtain ⟨vm₁, X₁, hstep₁⟩ := X.invokestatic hexec hown hlink hnamed hmethM hstatic hkP hinitP hy (g := g) hg (argsL := argsL) (rest := rest) (hlen _ hsigM) hstack hdg
  obtain ⟨v, B, X', hpost, hsteps⟩ := hK m meth c ⟨T.setVm vm₁, locs, cells, slots⟩ { g with stack := rest } (.invokestatic index) mk argsL.toArray X₁ hg hsize hdg hW (X₁.named hnamed) (hpre vm₁ X₁.warmed)
  exact ⟨v, vm₁, B, X₁.warmed, X', hpost, fun target h => hstep₁ _ fun acts => by rw [doInvoke_state]; exact hsteps.trans h⟩
theorem vx_runSW {y : MethodName} {bytes cc : ByteArray} {maxL nL mc ms n index : Nat} {ret : Option FieldType} {hh : List (Nat × Nat × Nat × Nat)} {ws : List Cond} {rm : Room} {Pc : Array Value → State → Prop} {Qc : Array Value → State → Outcome → State → Prop} {free : Addr → Prop} {Ts : List Cond} {own : String} {As rest : List Value} {g : JFrame}
    (S : CallFix p m c cc nL s args Ts own) (hM : Met l y ws rm Pc Qc mc ms free) (cw : vx_CSW R s args own index y bytes maxL ret hh ws rm mc ms n) (hp : PreS s H Pc As)
    (hg : g.method = m) (hn : As.length = n) (hsize : g.locals.size = nL) (hstack : g.stack = As.reverse ++ rest) (hW : 2 * g.monitorRoom + (rest.map fun v => v.category).sum ≤ 8) (hdg : decode cc g.pc = .ok (.invokestatic index, 3)) (hf : cells + mc ≤ R.cells ∧ slots + ms ≤ R.slots) :
    va_Run p l e R s m args below meth c H locs cells slots mc ms g rest (Qc As.toArray) (free) := by
  obtain ⟨⟨hrc, hrs, hfr, hlo, hws, hcw⟩, hcode, hini, hy, hlen, hl, hstt⟩ := cw
  have hK : Back l R p e below s args y 3 8 (PreOf R mc ms Pc) (PostOf Qc mc ms free) := va_backW (hh := hh) (bytes := bytes) (maxL := maxL) (ret := ret) hM hp.1 hrc hrs hfr hlo hws hcw (fun a' U hW => word_at hW (Or.inl (by first | rfl | simp [Cond.onTables, Cond.keeps, Cond.steady])) hini)
  obtain ⟨hx, hb, hml, ho, -⟩ := S
  intro T hT X
  obtain ⟨v, vm₁, ⟨U', l2, c2, s2⟩, hW₁, X', ⟨g', mk, t, L, e1, e2, hq, h1, hL, h2, h3⟩, st⟩ := vx_callSW X hx (hh := hh) (bytes := bytes) (maxL := maxL) (ret := ret) ho hl hstt hini hcode hy hK hg (hsize.trans hml.symm) (argsL := As) (rest := rest) (fun sig h => hn.trans (hlen sig h)) hstack hW (by rw [hb]; exact hdg)
    (fun vm₁ hW₁ => ⟨hf.1, hf.2, hp.2 (T.setVm vm₁) hT hW₁⟩)
  dsimp only [Pt.U, Pt.locs, Pt.cells, Pt.slots] at X' e1 e2 h1 h2 h3 st
  subst h1; subst h2; subst h3
  exact ⟨v, (T.setVm vm₁).calling g' mk As.toArray, t, U', L, hT, X', hL, e1, e2, hq, st⟩
/-- not caught here, past rows that name other classes: it goes on to the caller -/
theorem vx_outP {p : Program} {l : Launch} {e : Env} {R : Room} {s : State} {m : MethodId} {args : Array Value} {below : List Frame} {meth : Method} {c : Code} {H : Heap} {locs : List Loc} {cells slots : Nat} {free : Addr → Prop} {ls : Array Slot} {rest : List Value} {Qc : Array Value → State → Outcome → State → Prop} {XC : String → State → State → Prop}
    {pc : Nat} {own E : String} {ce : Cell} {q : Addr} {mc ms : Nat} (hown : s.vm.findClass own = some m.cls) (hlocks : meth.locks = false)
    (hpass : ∀ z ∈ c.exceptionTable.toList, covers z pc = false ∨ (z.catchType ≠ 0 ∧ ∃ nm : String, (Cond.classLink own z.catchType nm).before args s = true ∧ va_Nc E nm s)) (hcell : H[q]? = some ce) (hv : ce.vm = .none) (hcl : s.vm.findClass E = some ce.cls)
    (hx : ∀ t : State, t.heap = H → s.vm.Alike t.vm → XC E s t) (hf : ∀ z ∈ locs, free z.base) (hc : cells ≤ mc) (hs : slots ≤ ms) :
    vx_W p l e R s m args below meth c H locs cells slots (vx_MQ below Qc XC args s mc ms free) (F0 m pc ls rest) q := by
  intro T hT X
  have hpl : e.platform.magicAccessors = ({} : Platform).magicAccessors := by rw [X.admits.platform]
  obtain ⟨vm', hW', X', st⟩ := X.outThrough hlocks q (g := F0 m pc ls rest) rfl rfl rfl (cell := ce) (by rw [hT]; exact hcell) (by rw [hv]; rfl)
    (by obtain ⟨k9, h9, -⟩ := Vm.findClass_spec hcl; exact ⟨k9, h9⟩) (fun z hz => by
      rcases hpass z hz with h | ⟨hz0, nm, hl1, hn1⟩
      · exact Or.inl h
      · obtain ⟨c6, hc6, hcl6⟩ := Cond.classLink_spec hown hl1 e.platform hpl
        obtain ⟨a8, b8, h1, h2, h3⟩ := hn1
        cases Option.some.inj (h1.symm.trans hcl)
        cases Option.some.inj (h2.symm.trans hc6)
        exact Or.inr ⟨hz0, _, hcl6, h3⟩)
  obtain ⟨g₀, hfr⟩ := X'.frames_eq
  have hcell9 : ((T.setVm vm').setFrames (.throwing q :: below)).heap[q]? = some ce := by
    show T.heap[q]? = some ce
    rw [hT]; exact hcell
  have hend : Ended ((T.setVm vm').setFrames (.throwing q :: below)) below (.threw q) := State.frames_setFrames _ (State.cur_lt_of_frames hfr)
  refine ⟨(T.setVm vm').setFrames (.throwing q :: below), ?_, .threw q, X'.here.running, hend, Or.inr ⟨q, rfl, E, ce, locs, hx _ hT (X'.ends _).1.alike, hcell9, hv, hcl, (X'.ends _).1, (X'.ends _).2.mono hc hs, hf⟩⟩
  rw [X.pushThrowing_eq]
  exact st
/-- a thing of a world lies in the heap -/
theorem vx_lt {D : va_G} {cl : List vw_C} {ws : va_W} {H1 : Heap} (h : va_P D cl ws H1) {k : Nat} {q : Nat × va_E} (hk : ws[k]? = some q) : q.1 < H1.size := (h k q hk).lt
end VXS
/-! ===== END ===== -/
/-! ===== BEGIN methods with a table of their own: called by a name, returning or throwing ===== -/
section VXH
/-! vx_backW, vx_callVX, vx_callSX, vx_callVW, vx_runVW, vx_runVX, vx_runSX, vx_ofWH follow the same proofs as their sisters above (Free/Laws.lean, Shelf42/LK1.lean); vx_outP calls Shelf42/NT130.lean (outThrough). -/
section
variable {l : Launch} {R : Room} {p : Program} {e : Env} {below : List Frame} {s : State} {sargs : Array Value} {y : MethodName} {len W9 : Nat}
theorem vx_backW {ws : List Cond} {rm : Room} {Pc : Array Value → State → Prop} {Qc : Array Value → State → Outcome → State → Prop} {XC : String → State → State → Prop} {mc ms : Nat} {free : Addr → Prop} {bytes : ByteArray} {maxL : Nat} {ret : Option FieldType} {hh : List (Nat × Nat × Nat × Nat)}
    (hM : vx_Met l y ws rm Pc Qc XC mc ms free) (hblind : FrameBlind Pc) (hrc : rm.cells = mc) (hrs : rm.slots = ms)
    (hframes : rm.frames + 1 ≤ R.frames) (hlocals : W9 + (maxL + 11) + rm.locals ≤ R.locals)
    (hws : ∀ w ∈ ws, ∀ a' U, s.WarmedH U.vm → w.before a' U = true) (hcode : Cond.codeWith y bytes maxL ret hh ∈ ws) (hinit : ∀ a' U, s.WarmedH U.vm → (Cond.initialized y.cls).before a' U = true) :
    vx_Back l R p e below s sargs y len W9 (PreOf R mc ms Pc) (PostOf Qc mc ms free) (vx_Post XC mc ms free) := by
  intro m meth c A g ig mk a X hg hsize hdg hW hn hp
  have h1 : (headSpec ws rm).pre.before a A.U = true := atoms_intro fun w hw => hws w hw _ _ X.warmed
  have h2 : (Cond.codeWith y bytes maxL ret hh).before a A.U = true := hws _ hcode _ _ X.warmed
  have h3 : (Cond.initialized y.cls).before a A.U = true := hinit _ _ X.warmed
  have h4 : A.cells + (headSpec ws rm).room.cells ≤ R.cells := by rw [show (headSpec ws rm).room.cells = mc from hrc]; exact hp.1
  have h5 : A.slots + (headSpec ws rm).room.slots ≤ R.slots := by rw [show (headSpec ws rm).room.slots = ms from hrs]; exact hp.2.1
  have hPc : Pc a (A.U.calling g mk a) := hblind _ _ _ _ hp.2.2
  obtain ⟨U, Ls, c0, s0⟩ := A
  dsimp only [Pt.U, Pt.locs, Pt.cells, Pt.slots] at h1 h2 h3 h4 h5 X hn hPc ⊢
  obtain ⟨m9, methY, cY, hn9, hmY, hcY, -, hlY, -⟩ := Cond.codeWith_spec h2
  cases Option.some.inj (hn9.symm.trans hn)
  obtain ⟨kY, hkY, -⟩ := className_of_methodNamed hn
  have hinitY : kY.init = .initialized := Cond.initialized_spec (findClass_of_methodNamed hn) hkY h3
  have h : At U g.method c below := by rw [hg]; exact X.here
  have hlocals9 : W9 + (maxL + 11) + (headSpec ws rm).room.locals ≤ R.locals := hlocals
  have happ : (headSpec ws rm).appliesLoose y e.platform (U.calling g mk a) = true :=
    Spec.appliesLoose_calling (g := g) h hdg hn hkY hinitY
      (X.room_calling (g := g) (R' := (headSpec ws rm).room) hsize hmY hcY hframes (by rw [hlY]; omega) h4 h5) h1
  obtain ⟨mid, hmid⟩ := h.above
  have hfr : (U.setTop g).frames = (.java g :: mid) ++ below := by rw [State.frames_setTop' g h.top, hmid]; rfl
  obtain ⟨o, s₂, hsteps, -, hend, hq⟩ := Steps.callFree hM p X.admits X.cas X.clock (acts := []) hfr happ hPc trivial
  have hq' : vx_Q Qc XC mc ms free a (U.calling g mk a) o s₂ := hq
  rw [State.frames_setTop' g h.top] at hend
  obtain ⟨g₀, hg0⟩ := Option.isSome_iff_exists.mp h.top
  obtain ⟨r, hr⟩ := State.topJava?_eq_some.mp hg0
  have hr' : (({ U with heap := s₂.heap, slotsUsed := s₂.slotsUsed } : State).setVm s₂.vm).frames = .java g₀ :: r := hr
  rcases hq' with ⟨hqc, L, hfe, hL⟩ | ⟨q, rfl, E, ce, L, hx, hce, hcv, hcl, hW₂, hsm, hL⟩
  · obtain ⟨⟨v, rfl⟩, hW₂, e2, q2, q3, q4, q5, q6⟩ := id hfe
    have e3 : s₂ = ({ (U.calling g mk a).setFrames s₂.frames with heap := s₂.heap, slotsUsed := s₂.slotsUsed } : State).setVm s₂.vm := by
      have : s₂ = ({ s₂ with vm := (U.calling g mk a).vm } : State).setVm s₂.vm := rfl
      rw [e2] at this
      exact this
    obtain ⟨c₂, i₂, len₂, hc₂, hd₂, hf₂⟩ := hend
    have hW' : U.WarmedH s₂.vm := hW₂
    have hcc : c₂ = c := by
      have h1 : s₂.code? g.method = U.code? g.method := by
        rw [State.code?_eq, State.code?_eq, hW'.alike.method?]
      exact Option.some.inj (hc₂.symm.trans (h1.trans h.code))
    subst hcc
    have hlen : len₂ = len := by rw [hdg] at hd₂; cases hd₂; rfl
    subst hlen
    have hs₂ : s₂ = (({ U with heap := s₂.heap, slotsUsed := s₂.slotsUsed } : State).setVm s₂.vm).setTop { g with pc := g.pc + len₂, stack := v.toList ++ g.stack } := by
      refine e3.trans ?_
      rw [hf₂, State.calling_eq h.top, State.setFrames_setFrames, State.setTop_of_frames _ hr', hr]
      rfl
    have hsame : U.sameButNew ({ U with heap := s₂.heap, slotsUsed := s₂.slotsUsed } : State) L mc ms := by
      refine ⟨?_, q2, q3, q4, q5, q6⟩
      obtain ⟨t, ht, -⟩ := State.frames_cons hr
      show ({ U with heap := s₂.heap, slotsUsed := s₂.slotsUsed } : State) = { U.setFrames U.frames with heap := s₂.heap, slotsUsed := s₂.slotsUsed }
      rw [State.setFrames_self ht]
    subst hg
    refine Or.inl ⟨v, ⟨(({ U with heap := s₂.heap, slotsUsed := s₂.slotsUsed } : State).setVm s₂.vm), Ls ++ L, c0 + mc, s0 + ms⟩,
      ⟨X.admits, X.cas, X.clock, X.frames, X.room, X.hears, X.method, X.code, (X.here.setHeapUsed s₂.heap s₂.slotsUsed).setVm hW'.alike, X.tail, State.WarmedH.trans X.warmed hW', X.limits, X.bytes, X.same.trans (hsame.setVm s.vm)⟩,
      ⟨g, mk, s₂, L, rfl, rfl, hqc, rfl, hL, rfl, rfl⟩, ?_⟩
    show Steps p.tables e below _ ((({ U with heap := s₂.heap, slotsUsed := s₂.slotsUsed } : State).setVm s₂.vm).setTop { g with pc := g.pc + len₂, stack := v.toList ++ g.stack })
    rw [← hs₂]
    exact hsteps
  · obtain ⟨e2, q2, q3, q4, q5, q6⟩ := id hsm
    have e3 : s₂ = ({ (U.calling g mk a).setFrames s₂.frames with heap := s₂.heap, slotsUsed := s₂.slotsUsed } : State).setVm s₂.vm := by
      have : s₂ = ({ s₂ with vm := (U.calling g mk a).vm } : State).setVm s₂.vm := rfl
      rw [e2] at this
      exact this
    have hf₂ : s₂.frames = .throwing q :: .java g :: U.frames.tail := hend
    have hW' : U.WarmedH s₂.vm := hW₂
    have hs₂ : s₂ = ((({ U with heap := s₂.heap, slotsUsed := s₂.slotsUsed } : State).setVm s₂.vm).setTop g).pushFrame (.throwing q) := by
      refine e3.trans ?_
      rw [hf₂, State.calling_eq h.top, State.setFrames_setFrames, State.pushFrame, State.frames_setTop _ hr', State.setTop_of_frames _ hr', State.setFrames_setFrames, hr]
      rfl
    have hsame : U.sameButNew ({ U with heap := s₂.heap, slotsUsed := s₂.slotsUsed } : State) L mc ms := by
      refine ⟨?_, q2, q3, q4, q5, q6⟩
      obtain ⟨t, ht, -⟩ := State.frames_cons hr
      show ({ U with heap := s₂.heap, slotsUsed := s₂.slotsUsed } : State) = { U.setFrames U.frames with heap := s₂.heap, slotsUsed := s₂.slotsUsed }
      rw [State.setFrames_self ht]
    subst hg
    refine Or.inr ⟨q, ⟨(({ U with heap := s₂.heap, slotsUsed := s₂.slotsUsed } : State).setVm s₂.vm), Ls ++ L, c0 + mc, s0 + ms⟩,
      ⟨X.admits, X.cas, X.clock, X.frames, X.room, X.hears, X.method, X.code, (X.here.setHeapUsed s₂.heap s₂.slotsUsed).setVm hW'.alike, X.tail, State.WarmedH.trans X.warmed hW', X.limits, X.bytes, X.same.trans (hsame.setVm s.vm)⟩,
      ⟨g, mk, s₂, L, E, ce, rfl, rfl, hx, hce, hcv, hcl, rfl, hL, rfl, rfl⟩, ?_⟩
    show Steps p.tables e below _ (((({ U with heap := s₂.heap, slotsUsed := s₂.slotsUsed } : State).setVm s₂.vm).setTop g).pushFrame (.throwing q))
    rw [← hs₂]
    exact hsteps
end
variable {p : Program} {l : Launch} {e : Env} {R : Room} {s : State} {m : MethodId} {args : Array Value} {below : List Frame} {meth : Method} {c : Code} {T : State} {H : Heap} {locs : List Loc} {cells slots : Nat}
theorem vx_callVX (X : Stand p l e R s m args below meth c T locs cells slots) (hexec : p.tables.exec = Jvm.exec) {own C : String} {index : Nat} {y : MethodName} {bytes : ByteArray} {maxL : Nat} {ret : Option FieldType} {hh : List (Nat × Nat × Nat × Nat)}
    (hown : s.vm.findClass own = some m.cls) (hlink : (Cond.methodLink own index y).before args s = true) (hinst : (Cond.instanceMethod y).before args s = true) (hsel : (Cond.selects C y y).before args s = true)
    (hcode : (Cond.codeWith y bytes maxL ret hh).before args s = true) (hy : y.cls ≠ "java/lang/invoke/MethodHandle" ∧ y.cls ≠ "java/lang/invoke/VarHandle")
    {W9 : Nat} {Pre : Pt → Array Value → Prop} {Post : Pt → Array Value → Option Value → Pt → Prop} {PostX : Pt → Array Value → Addr → Pt → Prop} (hK : vx_Back l R p e below s args y 3 W9 Pre Post PostX)
    {b : Addr} {cellB : Cell} (hcell : T.heap[b]? = some cellB) (hobj : cellB.vm.isStatics = false) (hcls : s.vm.findClass C = some cellB.cls)
    {g : JFrame} (hg : g.method = m) (hsize : g.locals.size = c.maxLocals) {argsL rest : List Value} (hlen : ∀ sig, parseMethodDescriptor y.desc = some sig → argsL.length = sig.parameters.length)
    (hstack : g.stack = argsL.reverse ++ .ref b :: rest) (hW : 2 * g.monitorRoom + (rest.map fun v => v.category).sum ≤ W9) (hdg : decode c.code g.pc = .ok (.invokevirtual index, 3))
    (hpre : ∀ vm₁, s.WarmedH vm₁ → Pre ⟨T.setVm vm₁, locs, cells, slots⟩ (Value.ref b :: argsL).toArray) :
    (∃ (v : Option Value) (vm₁ : Vm) (B : Pt), s.WarmedH vm₁ ∧ Stand p l e R s m args below meth c B.U B.locs B.cells B.slots ∧ Post ⟨T.setVm vm₁, locs, cells, slots⟩ (Value.ref b :: argsL).toArray v B ∧
      ∀ target, Steps p.tables e below (B.U.setTop { g with pc := g.pc + 3, stack := v.toList ++ rest }) target → Steps p.tables e below (T.setTop g) target) ∨
    (∃ (q : Addr) (vm₁ : Vm) (B : Pt), s.WarmedH vm₁ ∧ Stand p l e R s m args below meth c B.U B.locs B.cells B.slots ∧ PostX ⟨T.setVm vm₁, locs, cells, slots⟩ (Value.ref b :: argsL).toArray q B ∧
      Steps p.tables e below (T.setTop g) ((B.U.setTop { g with stack := rest }).pushFrame (.throwing q))) := by
  obtain ⟨mk, methM, hnamed, hmethM, hstM, habM⟩ := Cond.instanceMethod_spec hinst
  obtain ⟨m8, methM', cM, hn8, hmethM', -, -, -, -, -, -, hsigM⟩ := Cond.codeWith_spec hcode
  cases Option.some.inj (hn8.symm.trans hnamed)
  cases hmethM.symm.trans hmethM'
  obtain ⟨c2, r2, m2, q1, q2, q3, q4, kP, hkP, hkPi⟩ := Cond.selects_spec hsel
  cases hcls.symm.trans q1
  cases (State.methodFound?_of_named hnamed hy).symm.trans q2
  cases hnamed.symm.trans q3
  have hselP : selectMethod e.platform s.vm cellB.cls mk = .method mk := by rw [Launch.admits_selectMethod X.admits]; exact q4
  obtain ⟨vm₁, X₁, hstep₁⟩ := X.invokevirtual hexec hown hlink hnamed hmethM hstM hkP hkPi hy (a := b) (cell := cellB) hcell
    (fun z h => by rw [h] at hobj; cases hobj) hselP hmethM habM hkP hkPi (g := g) hg (argsL := argsL) (rest := rest) (hlen _ hsigM) hstack hdg
  rcases hK m meth c ⟨T.setVm vm₁, locs, cells, slots⟩ { g with stack := rest } (.invokevirtual index) mk (Value.ref b :: argsL).toArray X₁ hg hsize hdg hW (X₁.named hnamed) (hpre vm₁ X₁.warmed) with ⟨v, B, X', hpost, hsteps⟩ | ⟨q, B, X', hpost, hsteps⟩
  · exact Or.inl ⟨v, vm₁, B, X₁.warmed, X', hpost, fun target h => hstep₁ _ fun acts => by rw [doInvoke_state]; exact hsteps.trans h⟩
  · exact Or.inr ⟨q, vm₁, B, X₁.warmed, X', hpost, hstep₁ _ fun acts => by rw [doInvoke_state]; exact hsteps⟩
theorem vx_callSX (X : Stand p l e R s m args below meth c T locs cells slots) (hexec : p.tables.exec = Jvm.exec) {own : String} {index : Nat} {y : MethodName} {bytes : ByteArray} {maxL : Nat} {ret : Option FieldType} {hh : List (Nat × Nat × Nat × Nat)}
    (hown : s.vm.findClass own = some m.cls) (hlink : (Cond.methodLink own index y).before args s = true) (hstat : (Cond.static y).before args s = true) (hinit : (Cond.initialized y.cls).before args s = true)
    (hcode : (Cond.codeWith y bytes maxL ret hh).before args s = true) (hy : y.cls ≠ "java/lang/invoke/MethodHandle" ∧ y.cls ≠ "java/lang/invoke/VarHandle")
    {W9 : Nat} {Pre : Pt → Array Value → Prop} {Post : Pt → Array Value → Option Value → Pt → Prop} {PostX : Pt → Array Value → Addr → Pt → Prop} (hK : vx_Back l R p e below s args y 3 W9 Pre Post PostX)
    {g : JFrame} (hg : g.method = m) (hsize : g.locals.size = c.maxLocals) {argsL rest : List Value} (hlen : ∀ sig, parseMethodDescriptor y.desc = some sig → argsL.length = sig.parameters.length)
    (hstack : g.stack = argsL.reverse ++ rest) (hW : 2 * g.monitorRoom + (rest.map fun v => v.category).sum ≤ W9) (hdg : decode c.code g.pc = .ok (.invokestatic index, 3))
    (hpre : ∀ vm₁, s.WarmedH vm₁ → Pre ⟨T.setVm vm₁, locs, cells, slots⟩ argsL.toArray) :
    (∃ (v : Option Value) (vm₁ : Vm) (B : Pt), s.WarmedH vm₁ ∧ Stand p l e R s m args below meth c B.U B.locs B.cells B.slots ∧ Post ⟨T.setVm vm₁, locs, cells, slots⟩ argsL.toArray v B ∧
      ∀ target, Steps p.tables e below (B.U.setTop { g with pc := g.pc + 3, stack := v.toList ++ rest }) target → Steps p.tables e below (T.setTop g) target) ∨
    (∃ (q : Addr) (vm₁ : Vm) (B : Pt), s.WarmedH vm₁ ∧ Stand p l e R s m args below meth c B.U B.locs B.cells B.slots ∧ PostX ⟨T.setVm vm₁, locs, cells, slots⟩ argsL.toArray q B ∧
      Steps p.tables e below (T.setTop g) ((B.U.setTop { g with stack := rest }).pushFrame (.throwing q))) := by
  obtain ⟨mk, methM, cM, hnamed, hmethM, -, -, -, -, -, -, hsigM⟩ := Cond.codeWith_spec hcode
  have hstatic : methM.isStatic = true := Cond.static_spec hnamed hmethM hstat
  obtain ⟨kP, hkP, -⟩ := className_of_methodNamed hnamed
  have hinitP : kP.init = .initialized := Cond.initialized_spec (findClass_of_methodNamed hnamed) hkP hinit
  obtain ⟨vm₁, X₁, hstep₁⟩ := X.invokestatic hexec hown hlink hnamed hmethM hstatic hkP hinitP hy (g := g) hg (argsL := argsL) (rest := rest) (hlen _ hsigM) hstack hdg
  rcases hK m meth c ⟨T.setVm vm₁, locs, cells, slots⟩ { g with stack := rest } (.invokestatic index) mk argsL.toArray X₁ hg hsize hdg hW (X₁.named hnamed) (hpre vm₁ X₁.warmed) with ⟨v, B, X', hpost, hsteps⟩ | ⟨q, B, X', hpost, hsteps⟩
  · exact Or.inl ⟨v, vm₁, B, X₁.warmed, X', hpost, fun target h => hstep₁ _ fun acts => by rw [doInvoke_state]; exact hsteps.trans h⟩
  · exact Or.inr ⟨q, vm₁, B, X₁.warmed, X', hpost, hstep₁ _ fun acts => by rw [doInvoke_state]; exact hsteps⟩
theorem vx_callVW (X : Stand p l e R s m args below meth c T locs cells slots) (hexec : p.tables.exec = Jvm.exec) {own C : String} {index : Nat} {y : MethodName} {bytes : ByteArray} {maxL : Nat} {ret : Option FieldType} {hh : List (Nat × Nat × Nat × Nat)}
    (hown : s.vm.findClass own = some m.cls) (hlink : (Cond.methodLink own index y).before args s = true) (hinst : (Cond.instanceMethod y).before args s = true) (hsel : (Cond.selects C y y).before args s = true)
    (hcode : (Cond.codeWith y bytes maxL ret hh).before args s = true) (hy : y.cls ≠ "java/lang/invoke/MethodHandle" ∧ y.cls ≠ "java/lang/invoke/VarHandle")
    {W9 : Nat} {Pre : Pt → Array Value → Prop} {Post : Pt → Array Value → Option Value → Pt → Prop} (hK : Back l R p e below s args y 3 W9 Pre Post)
    {b : Addr} {cellB : Cell} (hcell : T.heap[b]? = some cellB) (hobj : cellB.vm.isStatics = false) (hcls : s.vm.findClass C = some cellB.cls)
    {g : JFrame} (hg : g.method = m) (hsize : g.locals.size = c.maxLocals) {argsL rest : List Value} (hlen : ∀ sig, parseMethodDescriptor y.desc = some sig → argsL.length = sig.parameters.length)
    (hstack : g.stack = argsL.reverse ++ .ref b :: rest) (hW : 2 * g.monitorRoom + (rest.map fun v => v.category).sum ≤ W9) (hdg : decode c.code g.pc = .ok (.invokevirtual index, 3))
    (hpre : ∀ vm₁, s.WarmedH vm₁ → Pre ⟨T.setVm vm₁, locs, cells, slots⟩ (Value.ref b :: argsL).toArray) :
    ∃ (v : Option Value) (vm₁ : Vm) (B : Pt), s.WarmedH vm₁ ∧ Stand p l e R s m args below meth c B.U B.locs B.cells B.slots ∧ Post ⟨T.setVm vm₁, locs, cells, slots⟩ (Value.ref b :: argsL).toArray v B ∧
      ∀ target, Steps p.tables e below (B.U.setTop { g with pc := g.pc + 3, stack := v.toList ++ rest }) target → Steps p.tables e below (T.setTop g) target := by
  obtain ⟨mk, methM, hnamed, hmethM, hstM, habM⟩ := Cond.instanceMethod_spec hinst
  obtain ⟨m8, methM', cM, hn8, hmethM', -, -, -, -, -, -, hsigM⟩ := Cond.codeWith_spec hcode
  cases Option.some.inj (hn8.symm.trans hnamed)
  cases hmethM.symm.trans hmethM'
  obtain ⟨c2, r2, m2, q1, q2, q3, q4, kP, hkP, hkPi⟩ := Cond.selects_spec hsel
  cases hcls.symm.trans q1
  cases (State.methodFound?_of_named hnamed hy).symm.trans q2
  cases hnamed.symm.trans q3
  have hselP : selectMethod e.platform s.vm cellB.cls mk = .method mk := by rw [Launch.admits_selectMethod X.admits]; exact q4
  obtain ⟨vm₁, X₁, hstep₁⟩ := X.invokevirtual hexec hown hlink hnamed hmethM hstM hkP hkPi hy (a := b) (cell := cellB) hcell
    (fun z h => by rw [h] at hobj; cases hobj) hselP hmethM habM hkP hkPi (g := g) hg (argsL := argsL) (rest := rest) (hlen _ hsigM) hstack hdg
  obtain ⟨v, B, X', hpost, hsteps⟩ := hK m meth c ⟨T.setVm vm₁, locs, cells, slots⟩ { g with stack := rest } (.invokevirtual index) mk (Value.ref b :: argsL).toArray X₁ hg hsize hdg hW (X₁.named hnamed) (hpre vm₁ X₁.warmed)
  exact ⟨v, vm₁, B, X₁.warmed, X', hpost, fun target h => hstep₁ _ fun acts => by rw [doInvoke_state]; exact hsteps.trans h⟩
abbrev vx_CVW (R : Room) (s : State) (args : Array Value) (own C : String) (index : Nat) (y : MethodName) (bytes : ByteArray) (maxL : Nat) (ret : Option FieldType) (hh : List (Nat × Nat × Nat × Nat)) (ws : List Cond) (rm : Room) (mc ms n : Nat) : Prop :=
  (rm.cells = mc ∧ rm.slots = ms ∧ rm.frames + 1 ≤ R.frames ∧ 8 + (maxL + 11) + rm.locals ≤ R.locals ∧ (∀ w ∈ ws, ∀ (a' : Array Value) (U : State), s.WarmedH U.vm → w.before a' U = true) ∧ Cond.codeWith y bytes maxL ret hh ∈ ws) ∧
  (Cond.codeWith y bytes maxL ret hh).before args s = true ∧ (Cond.initialized y.cls).before args s = true ∧ (y.cls ≠ "java/lang/invoke/MethodHandle" ∧ y.cls ≠ "java/lang/invoke/VarHandle") ∧
  (∀ sig, parseMethodDescriptor y.desc = some sig → n = sig.parameters.length) ∧ (Cond.methodLink own index y).before args s = true ∧ (Cond.instanceMethod y).before args s = true ∧ (Cond.selects C y y).before args s = true
theorem vx_cwVW {own C : String} {index maxL mc ms : Nat} {y : MethodName} {bytes : ByteArray} {ret : Option FieldType} {hh : List (Nat × Nat × Nat × Nat)} {Ts ws ws' : List Cond} {rm : Room} (n : Nat) (ht : ∀ w ∈ Ts, w.before args s = true) (hT : GoodIn Ts (wsV own index C y ws)) (hw : ws = Cond.codeWith y bytes maxL ret hh :: ws') (hrc : rm.cells = mc) (hrs : rm.slots = ms)
    (hd : y.cls = C ∧ y.cls ≠ "java/lang/invoke/MethodHandle" ∧ y.cls ≠ "java/lang/invoke/VarHandle" ∧ (parseMethodDescriptor y.desc).map (fun d => d.parameters.length) = some n) (hR : rm.frames + 1 ≤ R.frames ∧ 8 + (maxL + 11) + rm.locals ≤ R.locals) :
    vx_CVW R s args own C index y bytes maxL ret hh ws rm mc ms n := by
  obtain ⟨hC, hd⟩ := hd
  subst hC
  have ok : ∀ w ∈ wsV own index y.cls y ws, w.before args s = true := fun w h => ht w (hT w h).1
  have hG : GoodIn Ts ws := fun w h => hT w (by unfold wsV; exact List.mem_append_right _ h)
  have hc : Cond.codeWith y bytes maxL ret hh ∈ ws := by rw [hw]; exact List.mem_cons_self
  refine ⟨⟨hrc, hrs, hR.1, hR.2, pay_in ht hG, hc⟩, ht _ (hG _ hc).1, ok _ (by simp [wsV]), ⟨hd.1, hd.2.1⟩, fun sig h => ?_, ok _ (by simp [wsV]), ok _ (by simp [wsV]), ok _ (by simp [wsV])⟩
  have h2 := hd.2.2
  rw [h] at h2
  exact (Option.some.inj h2).symm
theorem vx_runVW {y : MethodName} {bytes cc : ByteArray} {maxL nL mc ms n index : Nat} {ret : Option FieldType} {hh : List (Nat × Nat × Nat × Nat)} {ws : List Cond} {rm : Room} {Pc : Array Value → State → Prop} {Qc : Array Value → State → Outcome → State → Prop} {free : Addr → Prop} {Ts : List Cond} {own C : String} {b : Addr} {As rest : List Value} {g : JFrame}
    (S : CallFix p m c cc nL s args Ts own) (hM : Met l y ws rm Pc Qc mc ms free) (cw : vx_CVW R s args own C index y bytes maxL ret hh ws rm mc ms n) (hp : PreV s H C b Pc As)
    (hg : g.method = m) (hn : As.length = n) (hsize : g.locals.size = nL) (hstack : g.stack = As.reverse ++ .ref b :: rest) (hW : 2 * g.monitorRoom + (rest.map fun v => v.category).sum ≤ 8) (hdg : decode cc g.pc = .ok (.invokevirtual index, 3)) (hf : cells + mc ≤ R.cells ∧ slots + ms ≤ R.slots) :
    va_Run p l e R s m args below meth c H locs cells slots mc ms g rest (Qc (Value.ref b :: As).toArray) free := by
  obtain ⟨⟨hrc, hrs, hfr, hlo, hws, hcw⟩, hcode, hini, hy, hlen, hl, hin, hse⟩ := cw
  have hK : Back l R p e below s args y 3 8 (PreOf R mc ms Pc) (PostOf Qc mc ms free) := va_backW (hh := hh) (bytes := bytes) (maxL := maxL) (ret := ret) hM hp.1 hrc hrs hfr hlo hws hcw (fun a' U hW => word_at hW (Or.inl (by first | rfl | simp [Cond.onTables, Cond.keeps, Cond.steady])) hini)
  obtain ⟨hx, hb, hml, ho, -⟩ := S
  obtain ⟨-, ⟨cellB, hcB, hoB, hclB⟩, hPc⟩ := hp
  intro T hT X
  obtain ⟨v, vm₁, ⟨U', l2, c2, s2⟩, hW₁, X', ⟨g', mk, t, L, e1, e2, hq, h1, hL, h2, h3⟩, st⟩ := vx_callVW X hx (C := C) (hh := hh) (bytes := bytes) (maxL := maxL) (ret := ret) ho hl hin hse hcode hy hK (by rw [hT]; exact hcB) hoB hclB hg (hsize.trans hml.symm) (argsL := As) (rest := rest) (fun sig h => hn.trans (hlen sig h)) hstack hW (by rw [hb]; exact hdg)
    (fun vm₁ hW₁ => ⟨hf.1, hf.2, hPc (T.setVm vm₁) hT hW₁⟩)
  dsimp only [Pt.U, Pt.locs, Pt.cells, Pt.slots] at X' e1 e2 h1 h2 h3 st
  subst h1; subst h2; subst h3
  exact ⟨v, (T.setVm vm₁).calling g' mk (Value.ref b :: As).toArray, t, U', L, hT, X', hL, e1, e2, hq, st⟩
section
variable {y : MethodName} {bytes cc : ByteArray} {maxL nL mc ms n index : Nat} {ret : Option FieldType} {ws : List Cond} {rm : Room} {Pc : Array Value → State → Prop} {Qc : Array Value → State → Outcome → State → Prop} {XC : String → State → State → Prop} {free : Addr → Prop} {Ts : List Cond} {own C : String} {b : Addr} {As rest : List Value} {g : JFrame}
theorem vx_runVX {hh : List (Nat × Nat × Nat × Nat)} (S : CallFix p m c cc nL s args Ts own) (hM : vx_Met l y ws rm Pc Qc XC mc ms free) (cw : vx_CVW R s args own C index y bytes maxL ret hh ws rm mc ms n) (hp : PreV s H C b Pc As)
    (hg : g.method = m) (hn : As.length = n) (hsize : g.locals.size = nL) (hstack : g.stack = As.reverse ++ .ref b :: rest) (hW : 2 * g.monitorRoom + (rest.map fun v => v.category).sum ≤ 8) (hdg : decode cc g.pc = .ok (.invokevirtual index, 3)) (hf : cells + mc ≤ R.cells ∧ slots + ms ≤ R.slots) :
    vx_Run p l e R s m args below meth c H locs cells slots mc ms g rest (Qc (Value.ref b :: As).toArray) XC free := by
  obtain ⟨⟨hrc, hrs, hfr, hlo, hws, hcw⟩, hcode, hini, hy, hlen, hl, hin, hse⟩ := cw
  have hK : vx_Back l R p e below s args y 3 8 (PreOf R mc ms Pc) (PostOf Qc mc ms free) (vx_Post XC mc ms free) := vx_backW (hh := hh) (bytes := bytes) (maxL := maxL) (ret := ret) hM hp.1 hrc hrs hfr hlo hws hcw (fun a' U hW => word_at hW (Or.inl (by first | rfl | simp [Cond.onTables, Cond.keeps, Cond.steady])) hini)
  obtain ⟨hx, hb, hml, ho, -⟩ := S
  obtain ⟨-, ⟨cellB, hcB, hoB, hclB⟩, hPc⟩ := hp
  intro T hT X
  rcases vx_callVX X hx (C := C) (hh := hh) (bytes := bytes) (maxL := maxL) (ret := ret) ho hl hin hse hcode hy hK (by rw [hT]; exact hcB) hoB hclB hg (hsize.trans hml.symm) (argsL := As) (rest := rest) (fun sig h => hn.trans (hlen sig h)) hstack hW (by rw [hb]; exact hdg)
    (fun vm₁ hW₁ => ⟨hf.1, hf.2, hPc (T.setVm vm₁) hT hW₁⟩) with ⟨v, vm₁, ⟨U', l2, c2, s2⟩, hW₁, X', ⟨g', mk, t, L, e1, e2, hq, h1, hL, h2, h3⟩, st⟩ | ⟨q, vm₁, ⟨U', l2, c2, s2⟩, hW₁, X', ⟨g', mk, t, L, E, ce, e1, e2, hq, hce, hcv, hcl, h1, hL, h2, h3⟩, st⟩
  · dsimp only [Pt.U, Pt.locs, Pt.cells, Pt.slots] at X' e1 e2 h1 h2 h3 st
    subst h1; subst h2; subst h3
    exact Or.inl ⟨v, (T.setVm vm₁).calling g' mk (Value.ref b :: As).toArray, t, U', L, hT, X', hL, e1, e2, hq, st⟩
  · dsimp only [Pt.U, Pt.locs, Pt.cells, Pt.slots] at X' e1 e2 h1 h2 h3 st hcl
    subst h1; subst h2; subst h3
    exact Or.inr ⟨q, (T.setVm vm₁).calling g' mk (Value.ref b :: As).toArray, t, U', L, E, ce, hT, X', hL, e1, e2, hq, hce, hcv, vx_cls hW₁ hcl, st⟩
theorem vx_runSX {hh : List (Nat × Nat × Nat × Nat)} (S : CallFix p m c cc nL s args Ts own) (hM : vx_Met l y ws rm Pc Qc XC mc ms free) (cw : vx_CSW R s args own index y bytes maxL ret hh ws rm mc ms n) (hp : PreS s H Pc As)
    (hg : g.method = m) (hn : As.length = n) (hsize : g.locals.size = nL) (hstack : g.stack = As.reverse ++ rest) (hW : 2 * g.monitorRoom + (rest.map fun v => v.category).sum ≤ 8) (hdg : decode cc g.pc = .ok (.invokestatic index, 3)) (hf : cells + mc ≤ R.cells ∧ slots + ms ≤ R.slots) :
    vx_Run p l e R s m args below meth c H locs cells slots mc ms g rest (Qc As.toArray) XC free := by
  obtain ⟨⟨hrc, hrs, hfr, hlo, hws, hcw⟩, hcode, hini, hy, hlen, hl, hstt⟩ := cw
  have hK : vx_Back l R p e below s args y 3 8 (PreOf R mc ms Pc) (PostOf Qc mc ms free) (vx_Post XC mc ms free) := vx_backW (hh := hh) (bytes := bytes) (maxL := maxL) (ret := ret) hM hp.1 hrc hrs hfr hlo hws hcw (fun a' U hW => word_at hW (Or.inl (by first | rfl | simp [Cond.onTables, Cond.keeps, Cond.steady])) hini)
  obtain ⟨hx, hb, hml, ho, -⟩ := S
  intro T hT X
  rcases vx_callSX X hx (hh := hh) (bytes := bytes) (maxL := maxL) (ret := ret) ho hl hstt hini hcode hy hK hg (hsize.trans hml.symm) (argsL := As) (rest := rest) (fun sig h => hn.trans (hlen sig h)) hstack hW (by rw [hb]; exact hdg)
    (fun vm₁ hW₁ => ⟨hf.1, hf.2, hp.2 (T.setVm vm₁) hT hW₁⟩) with ⟨v, vm₁, ⟨U', l2, c2, s2⟩, hW₁, X', ⟨g', mk, t, L, e1, e2, hq, h1, hL, h2, h3⟩, st⟩ | ⟨q, vm₁, ⟨U', l2, c2, s2⟩, hW₁, X', ⟨g', mk, t, L, E, ce, e1, e2, hq, hce, hcv, hcl, h1, hL, h2, h3⟩, st⟩
  · dsimp only [Pt.U, Pt.locs, Pt.cells, Pt.slots] at X' e1 e2 h1 h2 h3 st
    subst h1; subst h2; subst h3
    exact Or.inl ⟨v, (T.setVm vm₁).calling g' mk As.toArray, t, U', L, hT, X', hL, e1, e2, hq, st⟩
  · dsimp only [Pt.U, Pt.locs, Pt.cells, Pt.slots] at X' e1 e2 h1 h2 h3 st hcl
    subst h1; subst h2; subst h3
    exact Or.inr ⟨q, (T.setVm vm₁).calling g' mk As.toArray, t, U', L, E, ce, hT, X', hL, e1, e2, hq, hce, hcv, vx_cls hW₁ hcl, st⟩
end
end VXH
theorem vx_ofWH {l : Launch} {y : MethodName} {ws ws' : List Cond} {rm : Room} {Pc : Array Value → State → Prop} {Qc : Array Value → State → Outcome → State → Prop} {XC : String → State → State → Prop} {mc ms : Nat} {free : Addr → Prop} {cc : ByteArray} {maxL : Nat} {ret : Option FieldType} {hh : List (Nat × Nat × Nat × Nat)}
    (hy : plainName y.cls = true) (hw : ws = Cond.codeWith y cc maxL ret hh :: ws')
    (body : ∀ p e s m args below meth c s₁, BodyLoose p l y (headSpec ws rm) cc maxL ret e s m args below meth c s₁ → c.maxLocals = maxL → Pc args s →
      W p l e (headSpec ws rm).room s m args below meth c s.heap [] 0 0 (vx_MQ below Qc XC args s mc ms free) (entryFrame m args maxL)) : vx_Met l y ws rm Pc Qc XC mc ms free := by
  refine MetFree.of_bodyS (code := cc) (maxLocals := maxL) (ret := ret) hy ?_ ?_
  · intro args s m h hn
    obtain ⟨m9, meth, c, hn9, h1, h2, h3, h4, -, h5, h6, -⟩ := Cond.codeWith_spec (atoms_spec (ws := ws) h _ (by rw [hw]; exact List.mem_cons_self))
    cases hn.symm.trans hn9
    exact ⟨meth, c, h1, h2, h3, h4, h5, h6⟩
  · intro p e s m args below meth c s₁ B hml hP _
    have hh0 : s₁.heap = s.heap := by rw [B.state]; rfl
    obtain ⟨t, a1, o, b1, b2, b3⟩ := body p e s m args below meth c s₁ B hml hP s₁ hh0 (Stand.of_body B)
    exact ⟨t, o, a1, b1, b2, b3⟩
/-! ===== END ===== -/

/-! ===== BEGIN printed: names, fields, word lists, decode rows ===== -/
def RX0 : String := "AgedAssets$Course"
def TX0 : u_T := fun k => match k with
  | 0 => ("AgedAssets$Course", "stretch", "LAgedAssets$Stretch;", true)
  | 1 => ("AgedAssets$Course", "method", "I", false)
  | 2 => ("AgedAssets$Course", "rate", "I", false)
  | 3 => ("AgedAssets$Course", "cost", "J", false)
  | 4 => ("AgedAssets$Course", "allowance", "J", false)
  | 5 => ("AgedAssets$Course", "reserve", "J", false)
  | 6 => ("AgedAssets$Course", "losses", "J", false)
  | 7 => ("AgedAssets$Course", "residual", "J", false)
  | 8 => ("AgedAssets$Course", "restOfLife", "I", false)
  | 9 => ("AgedAssets$Course", "held", "Z", false)
  | 10 => ("AgedAssets$Course", "gone", "Z", false)
  | 11 => ("AgedAssets$Course", "breached", "Z", false)
  | 12 => ("AgedAssets$Course", "chargedUnits", "J", false)
  | 13 => ("AgedAssets$Course", "lastCharge", "J", false)
  | _ => ("AgedAssets$Course", "allCharges", "J", false)
def tyX0 : Nat → FieldType := fun k => match k with
  | 0 => .object "AgedAssets$Stretch"
  | 1 => .int
  | 2 => .int
  | 3 => .long
  | 4 => .long
  | 5 => .long
  | 6 => .long
  | 7 => .long
  | 8 => .int
  | 9 => .boolean
  | 10 => .boolean
  | 11 => .boolean
  | 12 => .long
  | 13 => .long
  | _ => .long
abbrev wsX00 : List Cond := u_ws RX0 TX0 15
theorem nmX0 : ∀ a, a < 15 → ∀ b, b < 15 → a ≠ b → (TX0 a).2.1 ≠ (TX0 b).2.1 := by decide +kernel
theorem tyX0_ok : ∀ k, k < 15 → parseFieldDescriptor (TX0 k).2.2.1 = some (tyX0 k) := by decide +kernel
abbrev cX0_init : ByteArray := prog_2_method_1_code
def yX0_init : MethodName := ⟨RX0, "<init>", "()V"⟩
abbrev cX0_open : ByteArray := prog_2_method_2_code
def yX0_open : MethodName := ⟨RX0, "open", "(LAgedAssets$Part;)V"⟩
abbrev cX0_book : ByteArray := prog_2_method_3_code
def yX0_book : MethodName := ⟨RX0, "book", "()J"⟩
abbrev cX0_bookOrNone : ByteArray := prog_2_method_4_code
def yX0_bookOrNone : MethodName := ⟨RX0, "bookOrNone", "()J"⟩
abbrev cX0_meet : ByteArray := prog_2_method_5_code
def yX0_meet : MethodName := ⟨RX0, "meet", "(LAgedAssets$Event;J)V"⟩
abbrev cX0_chargeMonth : ByteArray := prog_2_method_6_code
def yX0_chargeMonth : MethodName := ⟨RX0, "chargeMonth", "(I)V"⟩
abbrev cX0_isBreach : ByteArray := prog_2_method_7_code
def yX0_isBreach : MethodName := ⟨RX0, "isBreach", "(LAgedAssets$Event;J)Z"⟩
abbrev cX0_apply : ByteArray := prog_2_method_8_code
def yX0_apply : MethodName := ⟨RX0, "apply", "(LAgedAssets$Event;)V"⟩
abbrev cX0_revalue : ByteArray := prog_2_method_9_code
def yX0_revalue : MethodName := ⟨RX0, "revalue", "(J)V"⟩
abbrev cX0_impair : ByteArray := prog_2_method_10_code
def yX0_impair : MethodName := ⟨RX0, "impair", "(J)V"⟩
abbrev cX0_lose : ByteArray := prog_2_method_11_code
def yX0_lose : MethodName := ⟨RX0, "lose", "(J)V"⟩
abbrev cX0_restore : ByteArray := prog_2_method_12_code
def yX0_restore : MethodName := ⟨RX0, "restore", "(J)V"⟩
abbrev cX0_sell : ByteArray := prog_2_method_13_code
def yX0_sell : MethodName := ⟨RX0, "sell", "(I)V"⟩
abbrev cX0_beginStretch : ByteArray := prog_2_method_14_code
def yX0_beginStretch : MethodName := ⟨RX0, "beginStretch", "()V"⟩
abbrev cX0_decliningCharge : ByteArray := prog_2_method_15_code
def yX0_decliningCharge : MethodName := ⟨RX0, "decliningCharge", "()J"⟩
def RX1 : String := "AgedAssets$Event"
def TX1 : u_T := fun k => match k with
  | 0 => ("AgedAssets$Event", "partNumber", "I", true)
  | 1 => ("AgedAssets$Event", "month", "I", true)
  | 2 => ("AgedAssets$Event", "kind", "I", true)
  | 3 => ("AgedAssets$Event", "amount", "J", true)
  | _ => ("AgedAssets$Event", "number", "I", true)
def tyX1 : Nat → FieldType := fun k => match k with
  | 0 => .int
  | 1 => .int
  | 2 => .int
  | 3 => .long
  | _ => .int
abbrev wsX10 : List Cond := u_ws RX1 TX1 5
theorem nmX1 : ∀ a, a < 5 → ∀ b, b < 5 → a ≠ b → (TX1 a).2.1 ≠ (TX1 b).2.1 := by decide +kernel
theorem tyX1_ok : ∀ k, k < 5 → parseFieldDescriptor (TX1 k).2.2.1 = some (tyX1 k) := by decide +kernel
abbrev cX1_init : ByteArray := prog_3_method_1_code
def yX1_init : MethodName := ⟨RX1, "<init>", "(IIIJI)V"⟩
def RX2 : String := "AgedAssets$Part"
def TX2 : u_T := fun k => match k with
  | 0 => ("AgedAssets$Part", "cost", "J", true)
  | 1 => ("AgedAssets$Part", "residual", "J", true)
  | 2 => ("AgedAssets$Part", "firstMonth", "I", true)
  | 3 => ("AgedAssets$Part", "life", "I", true)
  | 4 => ("AgedAssets$Part", "method", "I", true)
  | 5 => ("AgedAssets$Part", "rate", "I", true)
  | 6 => ("AgedAssets$Part", "unitsIn", "[I", true)
  | 7 => ("AgedAssets$Part", "eventIn", "[LAgedAssets$Event;", true)
  | 8 => ("AgedAssets$Part", "postedIn", "[J", true)
  | 9 => ("AgedAssets$Part", "eventCount", "I", false)
  | _ => ("AgedAssets$Part", "postedInAll", "J", false)
def tyX2 : Nat → FieldType := fun k => match k with
  | 0 => .long
  | 1 => .long
  | 2 => .int
  | 3 => .int
  | 4 => .int
  | 5 => .int
  | 6 => .array .int
  | 7 => .array (.object "AgedAssets$Event")
  | 8 => .array .long
  | 9 => .int
  | _ => .long
abbrev wsX20 : List Cond := u_ws RX2 TX2 11
theorem nmX2 : ∀ a, a < 11 → ∀ b, b < 11 → a ≠ b → (TX2 a).2.1 ≠ (TX2 b).2.1 := by decide +kernel
theorem tyX2_ok : ∀ k, k < 11 → parseFieldDescriptor (TX2 k).2.2.1 = some (tyX2 k) := by decide +kernel
abbrev cX2_init : ByteArray := prog_4_method_1_code
def yX2_init : MethodName := ⟨RX2, "<init>", "(JJIIII)V"⟩
def RX3 : String := "AgedAssets$Stretch"
def TX3 : u_T := fun k => match k with
  | 0 => ("AgedAssets$Stretch", "base", "J", false)
  | 1 => ("AgedAssets$Stretch", "length", "J", false)
  | 2 => ("AgedAssets$Stretch", "unitsLeft", "J", false)
  | 3 => ("AgedAssets$Stretch", "monthsCharged", "J", false)
  | 4 => ("AgedAssets$Stretch", "unitsCharged", "J", false)
  | _ => ("AgedAssets$Stretch", "charged", "J", false)
def tyX3 : Nat → FieldType := fun k => match k with
  | 0 => .long
  | 1 => .long
  | 2 => .long
  | 3 => .long
  | 4 => .long
  | _ => .long
abbrev wsX30 : List Cond := u_ws RX3 TX3 6
theorem nmX3 : ∀ a, a < 6 → ∀ b, b < 6 → a ≠ b → (TX3 a).2.1 ≠ (TX3 b).2.1 := by decide +kernel
theorem tyX3_ok : ∀ k, k < 6 → parseFieldDescriptor (TX3 k).2.2.1 = some (tyX3 k) := by decide +kernel
abbrev cX3_init : ByteArray := prog_5_method_1_code
def yX3_init : MethodName := ⟨RX3, "<init>", "()V"⟩
abbrev cX3_begin : ByteArray := prog_5_method_2_code
def yX3_begin : MethodName := ⟨RX3, "begin", "(JJJ)V"⟩
abbrev cX3_nextCharge : ByteArray := prog_5_method_3_code
def yX3_nextCharge : MethodName := ⟨RX3, "nextCharge", "(II)J"⟩
abbrev cX3_chargesTogether : ByteArray := prog_5_method_4_code
def yX3_chargesTogether : MethodName := ⟨RX3, "chargesTogether", "(I)J"⟩
abbrev cX3_sumUpTo : ByteArray := prog_5_method_5_code
def yX3_sumUpTo : MethodName := ⟨RX3, "sumUpTo", "(J)J"⟩
def RX4 : String := "AgedAssets"
def TX4 : u_T := fun k => match k with
  | 0 => ("AgedAssets", "partRow", "[LAgedAssets$Part;", true)
  | 1 => ("AgedAssets", "eventRow", "[LAgedAssets$Event;", true)
  | 2 => ("AgedAssets", "full", "LAgedAssets$Course;", true)
  | 3 => ("AgedAssets", "bare", "LAgedAssets$Course;", true)
  | 4 => ("AgedAssets", "partCount", "I", false)
  | 5 => ("AgedAssets", "eventCount", "I", false)
  | _ => ("AgedAssets", "monthCount", "I", false)
def tyX4 : Nat → FieldType := fun k => match k with
  | 0 => .array (.object "AgedAssets$Part")
  | 1 => .array (.object "AgedAssets$Event")
  | 2 => .object "AgedAssets$Course"
  | 3 => .object "AgedAssets$Course"
  | 4 => .int
  | 5 => .int
  | _ => .int
abbrev wsX40 : List Cond := u_ws RX4 TX4 7
theorem nmX4 : ∀ a, a < 7 → ∀ b, b < 7 → a ≠ b → (TX4 a).2.1 ≠ (TX4 b).2.1 := by decide +kernel
theorem tyX4_ok : ∀ k, k < 7 → parseFieldDescriptor (TX4 k).2.2.1 = some (tyX4 k) := by decide +kernel
abbrev cX4_init : ByteArray := prog_1_method_1_code
def yX4_init : MethodName := ⟨RX4, "<init>", "()V"⟩
abbrev cX4_part : ByteArray := prog_1_method_2_code
def yX4_part : MethodName := ⟨RX4, "part", "(JJIIII)I"⟩
abbrev cX4_units : ByteArray := prog_1_method_3_code
def yX4_units : MethodName := ⟨RX4, "units", "(III)I"⟩
abbrev cX4_event : ByteArray := prog_1_method_4_code
def yX4_event : MethodName := ⟨RX4, "event", "(IIIJI)I"⟩
abbrev cX4_strike : ByteArray := prog_1_method_5_code
def yX4_strike : MethodName := ⟨RX4, "strike", "(I)Z"⟩
abbrev cX4_told : ByteArray := prog_1_method_6_code
def yX4_told : MethodName := ⟨RX4, "told", "(II)I"⟩
abbrev cX4_value : ByteArray := prog_1_method_7_code
def yX4_value : MethodName := ⟨RX4, "value", "(III)J"⟩
abbrev cX4_charge : ByteArray := prog_1_method_8_code
def yX4_charge : MethodName := ⟨RX4, "charge", "(II)J"⟩
abbrev cX4_without : ByteArray := prog_1_method_9_code
def yX4_without : MethodName := ⟨RX4, "without", "(II)J"⟩
abbrev cX4_post : ByteArray := prog_1_method_10_code
def yX4_post : MethodName := ⟨RX4, "post", "()J"⟩
abbrev cX4_months : ByteArray := prog_1_method_11_code
def yX4_months : MethodName := ⟨RX4, "months", "()I"⟩
abbrev cX4_posted : ByteArray := prog_1_method_12_code
def yX4_posted : MethodName := ⟨RX4, "posted", "(II)J"⟩
abbrev cX4_total : ByteArray := prog_1_method_13_code
def yX4_total : MethodName := ⟨RX4, "total", "(I)J"⟩
abbrev cX4_parts : ByteArray := prog_1_method_14_code
def yX4_parts : MethodName := ⟨RX4, "parts", "()I"⟩
abbrev cX4_partOf : ByteArray := prog_1_method_15_code
def yX4_partOf : MethodName := ⟨RX4, "partOf", "(I)LAgedAssets$Part;"⟩
abbrev cX4_eventOf : ByteArray := prog_1_method_16_code
def yX4_eventOf : MethodName := ⟨RX4, "eventOf", "(I)LAgedAssets$Event;"⟩
abbrev cX4_hasBreach : ByteArray := prog_1_method_17_code
def yX4_hasBreach : MethodName := ⟨RX4, "hasBreach", "(LAgedAssets$Part;)Z"⟩
abbrev cX4_follow : ByteArray := prog_1_method_18_code
def yX4_follow : MethodName := ⟨RX4, "follow", "(LAgedAssets$Part;I)V"⟩
abbrev cX4_isWithin : ByteArray := prog_1_method_19_code
def yX4_isWithin : MethodName := ⟨RX4, "isWithin", "(JJJ)Z"⟩
abbrev cX4_isMonth : ByteArray := prog_1_method_20_code
def yX4_isMonth : MethodName := ⟨RX4, "isMonth", "(I)Z"⟩
abbrev cX4_isRateOf : ByteArray := prog_1_method_21_code
def yX4_isRateOf : MethodName := ⟨RX4, "isRateOf", "(II)Z"⟩
abbrev cX4_isEvent : ByteArray := prog_1_method_22_code
def yX4_isEvent : MethodName := ⟨RX4, "isEvent", "(IJI)Z"⟩
abbrev cX4_rounded : ByteArray := prog_1_method_23_code
def yX4_rounded : MethodName := ⟨RX4, "rounded", "(JJ)J"⟩
def RX5 : String := "AgedAssetsModel"
def TX5 : u_T := fun k => match k with
  | 0 => ("AgedAssetsModel", "code", "I", false)
  | 1 => ("AgedAssetsModel", "parts", "I", false)
  | 2 => ("AgedAssetsModel", "costs", "[J", true)
  | 3 => ("AgedAssetsModel", "residuals", "[J", true)
  | 4 => ("AgedAssetsModel", "firsts", "[I", true)
  | 5 => ("AgedAssetsModel", "lives", "[I", true)
  | 6 => ("AgedAssetsModel", "methods", "[I", true)
  | 7 => ("AgedAssetsModel", "rates", "[I", true)
  | 8 => ("AgedAssetsModel", "used", "[I", true)
  | 9 => ("AgedAssetsModel", "posted", "[J", true)
  | 10 => ("AgedAssetsModel", "months", "I", false)
  | 11 => ("AgedAssetsModel", "events", "I", false)
  | 12 => ("AgedAssetsModel", "of", "[I", true)
  | 13 => ("AgedAssetsModel", "when", "[I", true)
  | 14 => ("AgedAssetsModel", "kinds", "[I", true)
  | 15 => ("AgedAssetsModel", "amounts", "[J", true)
  | 16 => ("AgedAssetsModel", "numbers", "[I", true)
  | 17 => ("AgedAssetsModel", "cost", "J", false)
  | 18 => ("AgedAssetsModel", "allowance", "J", false)
  | 19 => ("AgedAssetsModel", "reserve", "J", false)
  | 20 => ("AgedAssetsModel", "losses", "J", false)
  | 21 => ("AgedAssetsModel", "residual", "J", false)
  | 22 => ("AgedAssetsModel", "rest", "I", false)
  | 23 => ("AgedAssetsModel", "held", "Z", false)
  | 24 => ("AgedAssetsModel", "gone", "Z", false)
  | 25 => ("AgedAssetsModel", "spent", "I", false)
  | 26 => ("AgedAssetsModel", "base", "J", false)
  | 27 => ("AgedAssetsModel", "length", "I", false)
  | 28 => ("AgedAssetsModel", "left", "I", false)
  | 29 => ("AgedAssetsModel", "charged", "I", false)
  | 30 => ("AgedAssetsModel", "stretchUnits", "I", false)
  | 31 => ("AgedAssetsModel", "done", "J", false)
  | 32 => ("AgedAssetsModel", "last", "J", false)
  | 33 => ("AgedAssetsModel", "sum", "J", false)
  | 34 => ("AgedAssetsModel", "before", "[J", true)
  | 35 => ("AgedAssetsModel", "behind", "[J", true)
  | _ => ("AgedAssetsModel", "bad", "I", false)
def tyX5 : Nat → FieldType := fun k => match k with
  | 0 => .int
  | 1 => .int
  | 2 => .array .long
  | 3 => .array .long
  | 4 => .array .int
  | 5 => .array .int
  | 6 => .array .int
  | 7 => .array .int
  | 8 => .array .int
  | 9 => .array .long
  | 10 => .int
  | 11 => .int
  | 12 => .array .int
  | 13 => .array .int
  | 14 => .array .int
  | 15 => .array .long
  | 16 => .array .int
  | 17 => .long
  | 18 => .long
  | 19 => .long
  | 20 => .long
  | 21 => .long
  | 22 => .int
  | 23 => .boolean
  | 24 => .boolean
  | 25 => .int
  | 26 => .long
  | 27 => .int
  | 28 => .int
  | 29 => .int
  | 30 => .int
  | 31 => .long
  | 32 => .long
  | 33 => .long
  | 34 => .array .long
  | 35 => .array .long
  | _ => .int
abbrev wsX50 : List Cond := u_ws RX5 TX5 37
theorem nmX5 : ∀ a, a < 37 → ∀ b, b < 37 → a ≠ b → (TX5 a).2.1 ≠ (TX5 b).2.1 := by decide +kernel
theorem tyX5_ok : ∀ k, k < 37 → parseFieldDescriptor (TX5 k).2.2.1 = some (tyX5 k) := by decide +kernel
abbrev cX5_init : ByteArray := prog_7_method_1_code
def yX5_init : MethodName := ⟨RX5, "<init>", "()V"⟩
abbrev cX5_thrown : ByteArray := prog_7_method_2_code
def yX5_thrown : MethodName := ⟨RX5, "thrown", "()I"⟩
abbrev cX5_isIn : ByteArray := prog_7_method_3_code
def yX5_isIn : MethodName := ⟨RX5, "isIn", "(JJJ)Z"⟩
abbrev cX5_rounded : ByteArray := prog_7_method_4_code
def yX5_rounded : MethodName := ⟨RX5, "rounded", "(JJ)J"⟩
abbrev cX5_isPart : ByteArray := prog_7_method_5_code
def yX5_isPart : MethodName := ⟨RX5, "isPart", "(I)Z"⟩
abbrev cX5_isMonth : ByteArray := prog_7_method_6_code
def yX5_isMonth : MethodName := ⟨RX5, "isMonth", "(I)Z"⟩
abbrev cX5_book : ByteArray := prog_7_method_7_code
def yX5_book : MethodName := ⟨RX5, "book", "()J"⟩
abbrev cX5_eventIn : ByteArray := prog_7_method_8_code
def yX5_eventIn : MethodName := ⟨RX5, "eventIn", "(II)I"⟩
abbrev cX5_stretch : ByteArray := prog_7_method_9_code
def yX5_stretch : MethodName := ⟨RX5, "stretch", "(I)V"⟩
abbrev cX5_fall : ByteArray := prog_7_method_10_code
def yX5_fall : MethodName := ⟨RX5, "fall", "(J)V"⟩
abbrev cX5_impairs : ByteArray := prog_7_method_11_code
def yX5_impairs : MethodName := ⟨RX5, "impairs", "(J)Z"⟩
abbrev cX5_restores : ByteArray := prog_7_method_12_code
def yX5_restores : MethodName := ⟨RX5, "restores", "(JI)Z"⟩
abbrev cX5_values : ByteArray := prog_7_method_13_code
def yX5_values : MethodName := ⟨RX5, "values", "(J)V"⟩
abbrev cX5_less : ByteArray := prog_7_method_14_code
def yX5_less : MethodName := ⟨RX5, "less", "(JI)J"⟩
abbrev cX5_sells : ByteArray := prog_7_method_15_code
def yX5_sells : MethodName := ⟨RX5, "sells", "(I)V"⟩
abbrev cX5_happens : ByteArray := prog_7_method_16_code
def yX5_happens : MethodName := ⟨RX5, "happens", "(II)Z"⟩
abbrev cX5_together : ByteArray := prog_7_method_17_code
def yX5_together : MethodName := ⟨RX5, "together", "(I)J"⟩
abbrev cX5_declining : ByteArray := prog_7_method_18_code
def yX5_declining : MethodName := ⟨RX5, "declining", "(II)J"⟩
abbrev cX5_writeOff : ByteArray := prog_7_method_19_code
def yX5_writeOff : MethodName := ⟨RX5, "writeOff", "(II)V"⟩
abbrev cX5_clear : ByteArray := prog_7_method_20_code
def yX5_clear : MethodName := ⟨RX5, "clear", "()V"⟩
abbrev cX5_go : ByteArray := prog_7_method_21_code
def yX5_go : MethodName := ⟨RX5, "go", "(IIZ)I"⟩
abbrev cX5_reckon : ByteArray := prog_7_method_22_code
def yX5_reckon : MethodName := ⟨RX5, "reckon", "(II)Z"⟩
abbrev cX5_part : ByteArray := prog_7_method_23_code
def yX5_part : MethodName := ⟨RX5, "part", "(JJIIII)I"⟩
abbrev cX5_units : ByteArray := prog_7_method_24_code
def yX5_units : MethodName := ⟨RX5, "units", "(III)I"⟩
abbrev cX5_countOf : ByteArray := prog_7_method_25_code
def yX5_countOf : MethodName := ⟨RX5, "countOf", "(I)I"⟩
abbrev cX5_event : ByteArray := prog_7_method_26_code
def yX5_event : MethodName := ⟨RX5, "event", "(IIIJI)I"⟩
abbrev cX5_isEvent : ByteArray := prog_7_method_27_code
def yX5_isEvent : MethodName := ⟨RX5, "isEvent", "(I)Z"⟩
abbrev cX5_strike : ByteArray := prog_7_method_28_code
def yX5_strike : MethodName := ⟨RX5, "strike", "(I)Z"⟩
abbrev cX5_told : ByteArray := prog_7_method_29_code
def yX5_told : MethodName := ⟨RX5, "told", "(II)I"⟩
abbrev cX5_value : ByteArray := prog_7_method_30_code
def yX5_value : MethodName := ⟨RX5, "value", "(III)J"⟩
abbrev cX5_charge : ByteArray := prog_7_method_31_code
def yX5_charge : MethodName := ⟨RX5, "charge", "(II)J"⟩
abbrev cX5_without : ByteArray := prog_7_method_32_code
def yX5_without : MethodName := ⟨RX5, "without", "(II)J"⟩
abbrev cX5_post : ByteArray := prog_7_method_33_code
def yX5_post : MethodName := ⟨RX5, "post", "()J"⟩
abbrev cX5_totalOf : ByteArray := prog_7_method_34_code
def yX5_totalOf : MethodName := ⟨RX5, "totalOf", "(I)J"⟩
abbrev cX5_months : ByteArray := prog_7_method_35_code
def yX5_months : MethodName := ⟨RX5, "months", "()I"⟩
abbrev cX5_posted : ByteArray := prog_7_method_36_code
def yX5_posted : MethodName := ⟨RX5, "posted", "(II)J"⟩
abbrev cX5_total : ByteArray := prog_7_method_37_code
def yX5_total : MethodName := ⟨RX5, "total", "(I)J"⟩
abbrev cX5_parts : ByteArray := prog_7_method_38_code
def yX5_parts : MethodName := ⟨RX5, "parts", "()I"⟩
def RJ9 : String := "java/lang/Math"
def TJ9 : u_T := fun k => match k with
  | _ => ("", "", "", false)
def tyJ9 : Nat → FieldType := fun k => match k with
  | _ => .int
abbrev wsJ90 : List Cond := u_ws RJ9 TJ9 0
theorem nmJ9 : ∀ a, a < 0 → ∀ b, b < 0 → a ≠ b → (TJ9 a).2.1 ≠ (TJ9 b).2.1 := by decide +kernel
theorem tyJ9_ok : ∀ k, k < 0 → parseFieldDescriptor (TJ9 k).2.2.1 = some (tyJ9 k) := by decide +kernel
abbrev cJ9_max_f86c9 : ByteArray := prog_11_method_66_code
def yJ9_max_f86c9 : MethodName := ⟨RJ9, "max", "(JJ)J"⟩
abbrev cJ9_min_f86c9 : ByteArray := prog_11_method_70_code
def yJ9_min_f86c9 : MethodName := ⟨RJ9, "min", "(JJ)J"⟩
def RJ0 : String := "java/lang/String"
def TJ0 : u_T := fun k => match k with
  | _ => ("", "", "", false)
def tyJ0 : Nat → FieldType := fun k => match k with
  | _ => .int
abbrev wsJ00 : List Cond := u_ws RJ0 TJ0 0
theorem nmJ0 : ∀ a, a < 0 → ∀ b, b < 0 → a ≠ b → (TJ0 a).2.1 ≠ (TJ0 b).2.1 := by decide +kernel
theorem tyJ0_ok : ∀ k, k < 0 → parseFieldDescriptor (TJ0 k).2.2.1 = some (tyJ0 k) := by decide +kernel
def RL : String := "AgedAssetsLaw"
abbrev cL_part : ByteArray := method_3_code
def yL_part : MethodName := ⟨RL, "part", "(LAgedAssets;JJIIII[J)I"⟩
abbrev cL_units : ByteArray := method_4_code
def yL_units : MethodName := ⟨RL, "units", "(LAgedAssets;III[J)I"⟩
abbrev cL_event : ByteArray := method_5_code
def yL_event : MethodName := ⟨RL, "event", "(LAgedAssets;IIIJI[J)I"⟩
abbrev cL_value : ByteArray := method_6_code
def yL_value : MethodName := ⟨RL, "value", "(LAgedAssets;III[J)I"⟩
abbrev cL_charge : ByteArray := method_7_code
def yL_charge : MethodName := ⟨RL, "charge", "(LAgedAssets;II[J)I"⟩
abbrev cL_without : ByteArray := method_8_code
def yL_without : MethodName := ⟨RL, "without", "(LAgedAssets;II[J)I"⟩
abbrev cL_post : ByteArray := method_9_code
def yL_post : MethodName := ⟨RL, "post", "(LAgedAssets;[J)I"⟩
abbrev cL_posted : ByteArray := method_10_code
def yL_posted : MethodName := ⟨RL, "posted", "(LAgedAssets;II[J)I"⟩
abbrev cL_total : ByteArray := method_11_code
def yL_total : MethodName := ⟨RL, "total", "(LAgedAssets;I[J)I"⟩
abbrev cL_law : ByteArray := code
def yL_law : MethodName := ⟨RL, "law", "([I)Z"⟩
def wsX3_init : List Cond := .code yX3_init cX3_init 1 none :: ([.methodLink RX3 3 objectInit, .instanceMethod objectInit, .code objectInit ⟨#[0xb1]⟩ 1 none])
def wsX0_init : List Cond := .code yX0_init cX0_init 1 none :: ([.methodLink RX0 3 objectInit, .instanceMethod objectInit, .code objectInit ⟨#[0xb1]⟩ 1 none, .classLink RX0 9 RX3, .instantiable RX3 6, .initialized RX3, .fieldLink RX0 12 "AgedAssets$Course" "stretch" "LAgedAssets$Stretch;", .instanceMethod yX3_init, .code yX3_init cX3_init 1 none, .methodLink RX3 3 objectInit] ++ wsX30 ++ wsX00)
def wsX0_book : List Cond := .code yX0_book cX0_book 1 (some .long) :: ([.fieldLink RX0 33 "AgedAssets$Course" "cost" "J", .fieldLink RX0 34 "AgedAssets$Course" "allowance" "J"] ++ wsX00)
def wsX3_begin : List Cond := .code yX3_begin cX3_begin 7 none :: ([.fieldLink RX3 9 "AgedAssets$Stretch" "base" "J", .fieldLink RX3 15 "AgedAssets$Stretch" "length" "J", .fieldLink RX3 18 "AgedAssets$Stretch" "unitsLeft" "J", .fieldLink RX3 21 "AgedAssets$Stretch" "monthsCharged" "J", .fieldLink RX3 24 "AgedAssets$Stretch" "unitsCharged" "J", .fieldLink RX3 27 "AgedAssets$Stretch" "charged" "J"] ++ wsX30)
def wsX0_beginStretch_r1 : List Cond := [Cond.fieldLink RX0 12 "AgedAssets$Course" "stretch" "LAgedAssets$Stretch;", Cond.fieldLink RX0 46 "AgedAssets$Course" "residual" "J", Cond.methodLink RX0 136 Lib.MathLoose.max_long.x, Cond.static Lib.MathLoose.max_long.x, Cond.initialized "java/lang/Math", Cond.code Lib.MathLoose.max_long.x Lib.MathLoose.max_long.code 4 (some .long), Cond.fieldLink RX0 50 "AgedAssets$Course" "restOfLife" "I", Cond.fieldLink RX0 28 "AgedAssets$Course" "rate" "I", Cond.fieldLink RX0 63 "AgedAssets$Course" "chargedUnits" "J", Cond.methodLink RX0 77 yX0_book, Cond.instanceMethod yX0_book, Cond.selects RX0 yX0_book yX0_book, Cond.initialized RX0, Cond.code yX0_book cX0_book 1 (some .long), Cond.fieldLink RX0 33 "AgedAssets$Course" "cost" "J", Cond.fieldLink RX0 34 "AgedAssets$Course" "allowance" "J", Cond.methodLink RX0 139 yX3_begin, Cond.instanceMethod yX3_begin, Cond.selects RX3 yX3_begin yX3_begin, Cond.initialized RX3, Cond.code yX3_begin cX3_begin 7 none, Cond.fieldLink RX3 9 "AgedAssets$Stretch" "base" "J", Cond.fieldLink RX3 15 "AgedAssets$Stretch" "length" "J", Cond.fieldLink RX3 18 "AgedAssets$Stretch" "unitsLeft" "J"]
def wsX0_beginStretch_r2 : List Cond := [Cond.fieldLink RX3 21 "AgedAssets$Stretch" "monthsCharged" "J", Cond.fieldLink RX3 24 "AgedAssets$Stretch" "unitsCharged" "J", Cond.fieldLink RX3 27 "AgedAssets$Stretch" "charged" "J"]
def wsX0_beginStretch : List Cond := .code yX0_beginStretch cX0_beginStretch 1 none :: ((wsX0_beginStretch_r1 ++ wsX0_beginStretch_r2) ++ wsX00 ++ wsX30)
def wsX0_open_r1 : List Cond := [Cond.fieldLink RX0 18 "AgedAssets$Part" "method" "I", Cond.fieldLink RX0 24 "AgedAssets$Course" "method" "I", Cond.fieldLink RX0 25 "AgedAssets$Part" "rate" "I", Cond.fieldLink RX0 28 "AgedAssets$Course" "rate" "I", Cond.fieldLink RX0 29 "AgedAssets$Part" "cost" "J", Cond.fieldLink RX0 33 "AgedAssets$Course" "cost" "J", Cond.fieldLink RX0 34 "AgedAssets$Course" "allowance" "J", Cond.fieldLink RX0 37 "AgedAssets$Course" "reserve" "J", Cond.fieldLink RX0 40 "AgedAssets$Course" "losses" "J", Cond.fieldLink RX0 43 "AgedAssets$Part" "residual" "J", Cond.fieldLink RX0 46 "AgedAssets$Course" "residual" "J", Cond.fieldLink RX0 47 "AgedAssets$Part" "life" "I", Cond.fieldLink RX0 50 "AgedAssets$Course" "restOfLife" "I", Cond.fieldLink RX0 53 "AgedAssets$Course" "held" "Z", Cond.fieldLink RX0 57 "AgedAssets$Course" "gone" "Z", Cond.fieldLink RX0 60 "AgedAssets$Course" "breached" "Z", Cond.fieldLink RX0 63 "AgedAssets$Course" "chargedUnits" "J", Cond.fieldLink RX0 66 "AgedAssets$Course" "lastCharge" "J", Cond.fieldLink RX0 69 "AgedAssets$Course" "allCharges" "J", Cond.methodLink RX0 72 yX0_beginStretch, Cond.instanceMethod yX0_beginStretch, Cond.selects RX0 yX0_beginStretch yX0_beginStretch, Cond.initialized RX0, Cond.code yX0_beginStretch cX0_beginStretch 1 none]
def wsX0_open_r2 : List Cond := [Cond.fieldLink RX0 12 "AgedAssets$Course" "stretch" "LAgedAssets$Stretch;", Cond.methodLink RX0 136 Lib.MathLoose.max_long.x, Cond.static Lib.MathLoose.max_long.x, Cond.initialized "java/lang/Math", Cond.code Lib.MathLoose.max_long.x Lib.MathLoose.max_long.code 4 (some .long), Cond.methodLink RX0 77 yX0_book, Cond.instanceMethod yX0_book, Cond.selects RX0 yX0_book yX0_book, Cond.code yX0_book cX0_book 1 (some .long), Cond.methodLink RX0 139 yX3_begin, Cond.instanceMethod yX3_begin, Cond.selects RX3 yX3_begin yX3_begin, Cond.initialized RX3, Cond.code yX3_begin cX3_begin 7 none, Cond.fieldLink RX3 9 "AgedAssets$Stretch" "base" "J", Cond.fieldLink RX3 15 "AgedAssets$Stretch" "length" "J", Cond.fieldLink RX3 18 "AgedAssets$Stretch" "unitsLeft" "J", Cond.fieldLink RX3 21 "AgedAssets$Stretch" "monthsCharged" "J", Cond.fieldLink RX3 24 "AgedAssets$Stretch" "unitsCharged" "J", Cond.fieldLink RX3 27 "AgedAssets$Stretch" "charged" "J"]
def wsX0_open : List Cond := .code yX0_open cX0_open 2 none :: ((wsX0_open_r1 ++ wsX0_open_r2) ++ wsX20 ++ wsX00 ++ wsX30)
def wsX0_bookOrNone : List Cond := .code yX0_bookOrNone cX0_bookOrNone 1 (some .long) :: ([.fieldLink RX0 60 "AgedAssets$Course" "breached" "Z", .constantLong RX0 75 (-1), .methodLink RX0 77 yX0_book, .instanceMethod yX0_book, .selects RX0 yX0_book yX0_book, .initialized RX0, .code yX0_book cX0_book 1 (some .long), .fieldLink RX0 33 "AgedAssets$Course" "cost" "J", .fieldLink RX0 34 "AgedAssets$Course" "allowance" "J"] ++ wsX00)
def wsX0_isBreach : List Cond := .code yX0_isBreach cX0_isBreach 4 (some .boolean) :: ([.fieldLink RX0 57 "AgedAssets$Course" "gone" "Z", .fieldLink RX0 53 "AgedAssets$Course" "held" "Z", .fieldLink RX0 89 "AgedAssets$Event" "kind" "I", .fieldLink RX0 50 "AgedAssets$Course" "restOfLife" "I", .fieldLink RX0 46 "AgedAssets$Course" "residual" "J", .fieldLink RX0 101 "AgedAssets$Event" "amount" "J", .fieldLink RX0 34 "AgedAssets$Course" "allowance" "J", .methodLink RX0 77 yX0_book, .instanceMethod yX0_book, .selects RX0 yX0_book yX0_book, .initialized RX0, .code yX0_book cX0_book 1 (some .long), .fieldLink RX0 33 "AgedAssets$Course" "cost" "J"] ++ wsX00 ++ wsX10)
def wsX0_lose : List Cond := .code yX0_lose cX0_lose 5 none :: ([.fieldLink RX0 37 "AgedAssets$Course" "reserve" "J", .methodLink RX0 124 Lib.MathLoose.min_long.x, .static Lib.MathLoose.min_long.x, .initialized "java/lang/Math", .code Lib.MathLoose.min_long.x Lib.MathLoose.min_long.code 4 (some .long), .fieldLink RX0 40 "AgedAssets$Course" "losses" "J"] ++ wsX00)
def wsX0_revalue : List Cond := .code yX0_revalue cX0_revalue 3 none :: ([.fieldLink RX0 37 "AgedAssets$Course" "reserve" "J", .fieldLink RX0 33 "AgedAssets$Course" "cost" "J", .fieldLink RX0 34 "AgedAssets$Course" "allowance" "J", .methodLink RX0 77 yX0_book, .instanceMethod yX0_book, .selects RX0 yX0_book yX0_book, .initialized RX0, .code yX0_book cX0_book 1 (some .long), .methodLink RX0 121 yX0_lose, .instanceMethod yX0_lose, .selects RX0 yX0_lose yX0_lose, .code yX0_lose cX0_lose 5 none, .methodLink RX0 124 Lib.MathLoose.min_long.x, .static Lib.MathLoose.min_long.x, .initialized "java/lang/Math", .code Lib.MathLoose.min_long.x Lib.MathLoose.min_long.code 4 (some .long), .fieldLink RX0 40 "AgedAssets$Course" "losses" "J"] ++ wsX00)
def wsX0_impair : List Cond := .code yX0_impair cX0_impair 3 none :: ([.fieldLink RX0 34 "AgedAssets$Course" "allowance" "J", .methodLink RX0 121 yX0_lose, .instanceMethod yX0_lose, .selects RX0 yX0_lose yX0_lose, .initialized RX0, .code yX0_lose cX0_lose 5 none, .fieldLink RX0 37 "AgedAssets$Course" "reserve" "J", .methodLink RX0 124 Lib.MathLoose.min_long.x, .static Lib.MathLoose.min_long.x, .initialized "java/lang/Math", .code Lib.MathLoose.min_long.x Lib.MathLoose.min_long.code 4 (some .long), .fieldLink RX0 40 "AgedAssets$Course" "losses" "J"] ++ wsX00)
def wsX0_restore : List Cond := .code yX0_restore cX0_restore 3 none :: ([.fieldLink RX0 34 "AgedAssets$Course" "allowance" "J", .fieldLink RX0 40 "AgedAssets$Course" "losses" "J", .methodLink RX0 124 Lib.MathLoose.min_long.x, .static Lib.MathLoose.min_long.x, .initialized "java/lang/Math", .code Lib.MathLoose.min_long.x Lib.MathLoose.min_long.code 4 (some .long)] ++ wsX00)
def wsX4_rounded : List Cond := .code yX4_rounded cX4_rounded 4 (some .long) :: ([.constantLong RX4 197 (2)])
def wsX0_sell : List Cond := .code yX0_sell cX0_sell 2 none :: ([.fieldLink RX0 33 "AgedAssets$Course" "cost" "J", .constantLong RX0 130 (1000000), .fieldLink RX0 34 "AgedAssets$Course" "allowance" "J", .fieldLink RX0 37 "AgedAssets$Course" "reserve" "J", .fieldLink RX0 46 "AgedAssets$Course" "residual" "J", .constant RX0 135 (1000000), .fieldLink RX0 57 "AgedAssets$Course" "gone" "Z", .static yX4_rounded, .initialized RX4, .code yX4_rounded cX4_rounded 4 (some .long), .constantLong RX4 197 (2)] ++ wsX00)
def wsX0_apply_r1 : List Cond := [Cond.fieldLink RX0 89 "AgedAssets$Event" "kind" "I", Cond.fieldLink RX0 33 "AgedAssets$Course" "cost" "J", Cond.fieldLink RX0 101 "AgedAssets$Event" "amount" "J", Cond.fieldLink RX0 46 "AgedAssets$Course" "residual" "J", Cond.fieldLink RX0 104 "AgedAssets$Event" "number" "I", Cond.fieldLink RX0 50 "AgedAssets$Course" "restOfLife" "I", Cond.fieldLink RX0 53 "AgedAssets$Course" "held" "Z", Cond.methodLink RX0 107 yX0_revalue, Cond.instanceMethod yX0_revalue, Cond.selects RX0 yX0_revalue yX0_revalue, Cond.initialized RX0, Cond.code yX0_revalue cX0_revalue 3 none, Cond.fieldLink RX0 37 "AgedAssets$Course" "reserve" "J", Cond.fieldLink RX0 34 "AgedAssets$Course" "allowance" "J", Cond.methodLink RX0 77 yX0_book, Cond.instanceMethod yX0_book, Cond.selects RX0 yX0_book yX0_book, Cond.code yX0_book cX0_book 1 (some .long), Cond.methodLink RX0 121 yX0_lose, Cond.instanceMethod yX0_lose, Cond.selects RX0 yX0_lose yX0_lose, Cond.code yX0_lose cX0_lose 5 none, Cond.methodLink RX0 124 Lib.MathLoose.min_long.x, Cond.static Lib.MathLoose.min_long.x]
def wsX0_apply_r2 : List Cond := [Cond.initialized "java/lang/Math", Cond.code Lib.MathLoose.min_long.x Lib.MathLoose.min_long.code 4 (some .long), Cond.fieldLink RX0 40 "AgedAssets$Course" "losses" "J", Cond.methodLink RX0 111 yX0_impair, Cond.instanceMethod yX0_impair, Cond.selects RX0 yX0_impair yX0_impair, Cond.code yX0_impair cX0_impair 3 none, Cond.methodLink RX0 114 yX0_restore, Cond.instanceMethod yX0_restore, Cond.selects RX0 yX0_restore yX0_restore, Cond.code yX0_restore cX0_restore 3 none, Cond.methodLink RX0 117 yX0_sell, Cond.instanceMethod yX0_sell, Cond.selects RX0 yX0_sell yX0_sell, Cond.code yX0_sell cX0_sell 2 none, Cond.constantLong RX0 130 (1000000), Cond.constant RX0 135 (1000000), Cond.fieldLink RX0 57 "AgedAssets$Course" "gone" "Z", Cond.static yX4_rounded, Cond.initialized RX4, Cond.code yX4_rounded cX4_rounded 4 (some .long), Cond.constantLong RX4 197 (2)]
def wsX0_apply : List Cond := .code yX0_apply cX0_apply 2 none :: ((wsX0_apply_r1 ++ wsX0_apply_r2) ++ wsX10 ++ wsX00)
def wsX0_meet_r1 : List Cond := [Cond.fieldLink RX0 60 "AgedAssets$Course" "breached" "Z", Cond.fieldLink RX0 89 "AgedAssets$Event" "kind" "I", Cond.methodLink RX0 81 yX0_isBreach, Cond.instanceMethod yX0_isBreach, Cond.selects RX0 yX0_isBreach yX0_isBreach, Cond.initialized RX0, Cond.code yX0_isBreach cX0_isBreach 4 (some .boolean), Cond.fieldLink RX0 57 "AgedAssets$Course" "gone" "Z", Cond.fieldLink RX0 53 "AgedAssets$Course" "held" "Z", Cond.fieldLink RX0 50 "AgedAssets$Course" "restOfLife" "I", Cond.fieldLink RX0 46 "AgedAssets$Course" "residual" "J", Cond.fieldLink RX0 101 "AgedAssets$Event" "amount" "J", Cond.fieldLink RX0 34 "AgedAssets$Course" "allowance" "J", Cond.methodLink RX0 77 yX0_book, Cond.instanceMethod yX0_book, Cond.selects RX0 yX0_book yX0_book, Cond.code yX0_book cX0_book 1 (some .long), Cond.fieldLink RX0 33 "AgedAssets$Course" "cost" "J", Cond.methodLink RX0 85 yX0_apply, Cond.instanceMethod yX0_apply, Cond.selects RX0 yX0_apply yX0_apply, Cond.code yX0_apply cX0_apply 2 none, Cond.fieldLink RX0 104 "AgedAssets$Event" "number" "I", Cond.methodLink RX0 107 yX0_revalue]
def wsX0_meet_r2 : List Cond := [Cond.instanceMethod yX0_revalue, Cond.selects RX0 yX0_revalue yX0_revalue, Cond.code yX0_revalue cX0_revalue 3 none, Cond.fieldLink RX0 37 "AgedAssets$Course" "reserve" "J", Cond.methodLink RX0 121 yX0_lose, Cond.instanceMethod yX0_lose, Cond.selects RX0 yX0_lose yX0_lose, Cond.code yX0_lose cX0_lose 5 none, Cond.methodLink RX0 124 Lib.MathLoose.min_long.x, Cond.static Lib.MathLoose.min_long.x, Cond.initialized "java/lang/Math", Cond.code Lib.MathLoose.min_long.x Lib.MathLoose.min_long.code 4 (some .long), Cond.fieldLink RX0 40 "AgedAssets$Course" "losses" "J", Cond.methodLink RX0 111 yX0_impair, Cond.instanceMethod yX0_impair, Cond.selects RX0 yX0_impair yX0_impair, Cond.code yX0_impair cX0_impair 3 none, Cond.methodLink RX0 114 yX0_restore, Cond.instanceMethod yX0_restore, Cond.selects RX0 yX0_restore yX0_restore, Cond.code yX0_restore cX0_restore 3 none, Cond.methodLink RX0 117 yX0_sell, Cond.instanceMethod yX0_sell, Cond.selects RX0 yX0_sell yX0_sell]
def wsX0_meet_r3 : List Cond := [Cond.code yX0_sell cX0_sell 2 none, Cond.constantLong RX0 130 (1000000), Cond.constant RX0 135 (1000000), Cond.static yX4_rounded, Cond.initialized RX4, Cond.code yX4_rounded cX4_rounded 4 (some .long), Cond.constantLong RX4 197 (2), Cond.methodLink RX0 72 yX0_beginStretch, Cond.instanceMethod yX0_beginStretch, Cond.selects RX0 yX0_beginStretch yX0_beginStretch, Cond.code yX0_beginStretch cX0_beginStretch 1 none, Cond.fieldLink RX0 12 "AgedAssets$Course" "stretch" "LAgedAssets$Stretch;", Cond.methodLink RX0 136 Lib.MathLoose.max_long.x, Cond.static Lib.MathLoose.max_long.x, Cond.code Lib.MathLoose.max_long.x Lib.MathLoose.max_long.code 4 (some .long), Cond.fieldLink RX0 28 "AgedAssets$Course" "rate" "I", Cond.fieldLink RX0 63 "AgedAssets$Course" "chargedUnits" "J", Cond.methodLink RX0 139 yX3_begin, Cond.instanceMethod yX3_begin, Cond.selects RX3 yX3_begin yX3_begin, Cond.initialized RX3, Cond.code yX3_begin cX3_begin 7 none, Cond.fieldLink RX3 9 "AgedAssets$Stretch" "base" "J", Cond.fieldLink RX3 15 "AgedAssets$Stretch" "length" "J"]
def wsX0_meet_r4 : List Cond := [Cond.fieldLink RX3 18 "AgedAssets$Stretch" "unitsLeft" "J", Cond.fieldLink RX3 21 "AgedAssets$Stretch" "monthsCharged" "J", Cond.fieldLink RX3 24 "AgedAssets$Stretch" "unitsCharged" "J", Cond.fieldLink RX3 27 "AgedAssets$Stretch" "charged" "J"]
def wsX0_meet : List Cond := .code yX0_meet cX0_meet 4 none :: ((wsX0_meet_r1 ++ (wsX0_meet_r2 ++ (wsX0_meet_r3 ++ wsX0_meet_r4))) ++ wsX00 ++ wsX10 ++ wsX30)
def wsX0_decliningCharge : List Cond := .code yX0_decliningCharge cX0_decliningCharge 7 (some .long) :: ([.fieldLink RX0 46 "AgedAssets$Course" "residual" "J", .fieldLink RX0 50 "AgedAssets$Course" "restOfLife" "I", .fieldLink RX0 28 "AgedAssets$Course" "rate" "I", .constantLong RX0 130 (1000000), .methodLink RX0 136 Lib.MathLoose.max_long.x, .static Lib.MathLoose.max_long.x, .initialized "java/lang/Math", .code Lib.MathLoose.max_long.x Lib.MathLoose.max_long.code 4 (some .long), .methodLink RX0 124 Lib.MathLoose.min_long.x, .static Lib.MathLoose.min_long.x, .code Lib.MathLoose.min_long.x Lib.MathLoose.min_long.code 4 (some .long), .methodLink RX0 77 yX0_book, .instanceMethod yX0_book, .selects RX0 yX0_book yX0_book, .initialized RX0, .code yX0_book cX0_book 1 (some .long), .fieldLink RX0 33 "AgedAssets$Course" "cost" "J", .fieldLink RX0 34 "AgedAssets$Course" "allowance" "J", .static yX4_rounded, .initialized RX4, .code yX4_rounded cX4_rounded 4 (some .long), .constantLong RX4 197 (2)] ++ wsX00)
def wsX3_sumUpTo : List Cond := .code yX3_sumUpTo cX3_sumUpTo 2 (some .long) :: ([.constantLong RX3 47 (2)])
def wsX3_chargesTogether : List Cond := .code yX3_chargesTogether cX3_chargesTogether 2 (some .long) :: ([.fieldLink RX3 9 "AgedAssets$Stretch" "base" "J", .fieldLink RX3 21 "AgedAssets$Stretch" "monthsCharged" "J", .fieldLink RX3 15 "AgedAssets$Stretch" "length" "J", .fieldLink RX3 18 "AgedAssets$Stretch" "unitsLeft" "J", .fieldLink RX3 24 "AgedAssets$Stretch" "unitsCharged" "J", .methodLink RX3 42 Lib.MathLoose.min_long.x, .static Lib.MathLoose.min_long.x, .initialized "java/lang/Math", .code Lib.MathLoose.min_long.x Lib.MathLoose.min_long.code 4 (some .long), .static yX4_rounded, .initialized RX4, .code yX4_rounded cX4_rounded 4 (some .long), .constantLong RX4 197 (2), .methodLink RX3 38 yX3_sumUpTo, .static yX3_sumUpTo, .initialized RX3, .code yX3_sumUpTo cX3_sumUpTo 2 (some .long), .constantLong RX3 47 (2)] ++ wsX30)
def wsX3_nextCharge : List Cond := .code yX3_nextCharge cX3_nextCharge 5 (some .long) :: ([.fieldLink RX3 21 "AgedAssets$Stretch" "monthsCharged" "J", .fieldLink RX3 24 "AgedAssets$Stretch" "unitsCharged" "J", .fieldLink RX3 27 "AgedAssets$Stretch" "charged" "J", .methodLink RX3 30 yX3_chargesTogether, .instanceMethod yX3_chargesTogether, .selects RX3 yX3_chargesTogether yX3_chargesTogether, .initialized RX3, .code yX3_chargesTogether cX3_chargesTogether 2 (some .long), .fieldLink RX3 9 "AgedAssets$Stretch" "base" "J", .fieldLink RX3 15 "AgedAssets$Stretch" "length" "J", .fieldLink RX3 18 "AgedAssets$Stretch" "unitsLeft" "J", .methodLink RX3 42 Lib.MathLoose.min_long.x, .static Lib.MathLoose.min_long.x, .initialized "java/lang/Math", .code Lib.MathLoose.min_long.x Lib.MathLoose.min_long.code 4 (some .long), .static yX4_rounded, .initialized RX4, .code yX4_rounded cX4_rounded 4 (some .long), .constantLong RX4 197 (2), .methodLink RX3 38 yX3_sumUpTo, .static yX3_sumUpTo, .code yX3_sumUpTo cX3_sumUpTo 2 (some .long), .constantLong RX3 47 (2)] ++ wsX30)
def wsX0_chargeMonth_r1 : List Cond := [Cond.fieldLink RX0 66 "AgedAssets$Course" "lastCharge" "J", Cond.fieldLink RX0 53 "AgedAssets$Course" "held" "Z", Cond.fieldLink RX0 57 "AgedAssets$Course" "gone" "Z", Cond.fieldLink RX0 50 "AgedAssets$Course" "restOfLife" "I", Cond.fieldLink RX0 24 "AgedAssets$Course" "method" "I", Cond.fieldLink RX0 12 "AgedAssets$Course" "stretch" "LAgedAssets$Stretch;", Cond.fieldLink RX0 63 "AgedAssets$Course" "chargedUnits" "J", Cond.fieldLink RX0 34 "AgedAssets$Course" "allowance" "J", Cond.fieldLink RX0 69 "AgedAssets$Course" "allCharges" "J", Cond.methodLink RX0 94 yX0_decliningCharge, Cond.instanceMethod yX0_decliningCharge, Cond.selects RX0 yX0_decliningCharge yX0_decliningCharge, Cond.initialized RX0, Cond.code yX0_decliningCharge cX0_decliningCharge 7 (some .long), Cond.fieldLink RX0 46 "AgedAssets$Course" "residual" "J", Cond.fieldLink RX0 28 "AgedAssets$Course" "rate" "I", Cond.constantLong RX0 130 (1000000), Cond.methodLink RX0 136 Lib.MathLoose.max_long.x, Cond.static Lib.MathLoose.max_long.x, Cond.initialized "java/lang/Math", Cond.code Lib.MathLoose.max_long.x Lib.MathLoose.max_long.code 4 (some .long), Cond.methodLink RX0 124 Lib.MathLoose.min_long.x, Cond.static Lib.MathLoose.min_long.x, Cond.code Lib.MathLoose.min_long.x Lib.MathLoose.min_long.code 4 (some .long)]
def wsX0_chargeMonth_r2 : List Cond := [Cond.methodLink RX0 77 yX0_book, Cond.instanceMethod yX0_book, Cond.selects RX0 yX0_book yX0_book, Cond.code yX0_book cX0_book 1 (some .long), Cond.fieldLink RX0 33 "AgedAssets$Course" "cost" "J", Cond.static yX4_rounded, Cond.initialized RX4, Cond.code yX4_rounded cX4_rounded 4 (some .long), Cond.constantLong RX4 197 (2), Cond.methodLink RX0 97 yX3_nextCharge, Cond.instanceMethod yX3_nextCharge, Cond.selects RX3 yX3_nextCharge yX3_nextCharge, Cond.initialized RX3, Cond.code yX3_nextCharge cX3_nextCharge 5 (some .long), Cond.fieldLink RX3 21 "AgedAssets$Stretch" "monthsCharged" "J", Cond.fieldLink RX3 24 "AgedAssets$Stretch" "unitsCharged" "J", Cond.fieldLink RX3 27 "AgedAssets$Stretch" "charged" "J", Cond.methodLink RX3 30 yX3_chargesTogether, Cond.instanceMethod yX3_chargesTogether, Cond.selects RX3 yX3_chargesTogether yX3_chargesTogether, Cond.code yX3_chargesTogether cX3_chargesTogether 2 (some .long), Cond.fieldLink RX3 9 "AgedAssets$Stretch" "base" "J", Cond.fieldLink RX3 15 "AgedAssets$Stretch" "length" "J", Cond.fieldLink RX3 18 "AgedAssets$Stretch" "unitsLeft" "J"]
def wsX0_chargeMonth_r3 : List Cond := [Cond.methodLink RX3 42 Lib.MathLoose.min_long.x, Cond.methodLink RX3 38 yX3_sumUpTo, Cond.static yX3_sumUpTo, Cond.code yX3_sumUpTo cX3_sumUpTo 2 (some .long), Cond.constantLong RX3 47 (2)]
def wsX0_chargeMonth : List Cond := .code yX0_chargeMonth cX0_chargeMonth 2 none :: ((wsX0_chargeMonth_r1 ++ (wsX0_chargeMonth_r2 ++ wsX0_chargeMonth_r3)) ++ wsX00 ++ wsX30)
def wsX1_init : List Cond := .code yX1_init cX1_init 7 none :: ([.methodLink RX1 1 objectInit, .instanceMethod objectInit, .code objectInit ⟨#[0xb1]⟩ 1 none, .fieldLink RX1 7 "AgedAssets$Event" "partNumber" "I", .fieldLink RX1 13 "AgedAssets$Event" "month" "I", .fieldLink RX1 16 "AgedAssets$Event" "kind" "I", .fieldLink RX1 19 "AgedAssets$Event" "amount" "J", .fieldLink RX1 23 "AgedAssets$Event" "number" "I"] ++ wsX10)
def wsX2_init : List Cond := .code yX2_init cX2_init 9 none :: ([.methodLink RX2 3 objectInit, .instanceMethod objectInit, .code objectInit ⟨#[0xb1]⟩ 1 none, .fieldLink RX2 9 "AgedAssets$Part" "cost" "J", .fieldLink RX2 15 "AgedAssets$Part" "residual" "J", .fieldLink RX2 18 "AgedAssets$Part" "firstMonth" "I", .fieldLink RX2 22 "AgedAssets$Part" "life" "I", .fieldLink RX2 25 "AgedAssets$Part" "method" "I", .fieldLink RX2 28 "AgedAssets$Part" "rate" "I", .arrayClass .int, .fieldLink RX2 31 "AgedAssets$Part" "unitsIn" "[I", .classLink RX2 35 RX1, .fieldLink RX2 37 "AgedAssets$Part" "eventIn" "[LAgedAssets$Event;", .arrayClass .long, .fieldLink RX2 41 "AgedAssets$Part" "postedIn" "[J"] ++ wsX20)
def wsX4_init : List Cond := .code yX4_init cX4_init 1 none :: ([.methodLink RX4 1 objectInit, .instanceMethod objectInit, .code objectInit ⟨#[0xb1]⟩ 1 none, .classLink RX4 9 RX2, .fieldLink RX4 11 "AgedAssets" "partRow" "[LAgedAssets$Part;", .classLink RX4 15 RX1, .fieldLink RX4 17 "AgedAssets" "eventRow" "[LAgedAssets$Event;", .classLink RX4 21 RX0, .instantiable RX0 15, .initialized RX0, .fieldLink RX4 24 "AgedAssets" "full" "LAgedAssets$Course;", .fieldLink RX4 28 "AgedAssets" "bare" "LAgedAssets$Course;", .methodLink RX4 23 yX0_init, .instanceMethod yX0_init, .code yX0_init cX0_init 1 none, .methodLink RX0 3 objectInit, .classLink RX0 9 RX3, .instantiable RX3 6, .initialized RX3, .fieldLink RX0 12 "AgedAssets$Course" "stretch" "LAgedAssets$Stretch;", .instanceMethod yX3_init, .code yX3_init cX3_init 1 none, .methodLink RX3 3 objectInit] ++ wsX40 ++ wsX00 ++ wsX30)
def wsX4_isWithin : List Cond := .code yX4_isWithin cX4_isWithin 6 (some .boolean) :: ([])
def wsX4_isMonth : List Cond := .code yX4_isMonth cX4_isMonth 1 (some .boolean) :: ([])
def wsX4_isRateOf : List Cond := .code yX4_isRateOf cX4_isRateOf 2 (some .boolean) :: ([.constantLong RX4 70 (1000000), .methodLink RX4 33 yX4_isWithin, .static yX4_isWithin, .initialized RX4, .code yX4_isWithin cX4_isWithin 6 (some .boolean)])
def wsX4_part_r1 : List Cond := [Cond.classLink RX4 47 "java/lang/IllegalArgumentException", Cond.initialized "java/lang/IllegalArgumentException", Cond.classLink RX4 58 "java/lang/IllegalStateException", Cond.initialized "java/lang/IllegalStateException", Cond.constantLong RX4 31 (1000000000), Cond.constantLong RX4 41 (36), Cond.fieldLink RX4 54 "AgedAssets" "partCount" "I", Cond.fieldLink RX4 11 "AgedAssets" "partRow" "[LAgedAssets$Part;", Cond.classLink RX4 9 RX2, Cond.instantiable RX2 11, Cond.initialized RX2, Cond.methodLink RX4 33 yX4_isWithin, Cond.static yX4_isWithin, Cond.initialized RX4, Cond.code yX4_isWithin cX4_isWithin 6 (some .boolean), Cond.methodLink RX4 37 yX4_isMonth, Cond.static yX4_isMonth, Cond.code yX4_isMonth cX4_isMonth 1 (some .boolean), Cond.methodLink RX4 43 yX4_isRateOf, Cond.static yX4_isRateOf, Cond.code yX4_isRateOf cX4_isRateOf 2 (some .boolean), Cond.constantLong RX4 70 (1000000), Cond.methodLink RX4 63 yX2_init, Cond.instanceMethod yX2_init]
def wsX4_part_r2 : List Cond := [Cond.code yX2_init cX2_init 9 none, Cond.methodLink RX2 3 objectInit, Cond.instanceMethod objectInit, Cond.code objectInit ⟨#[0xb1]⟩ 1 none, Cond.fieldLink RX2 9 "AgedAssets$Part" "cost" "J", Cond.fieldLink RX2 15 "AgedAssets$Part" "residual" "J", Cond.fieldLink RX2 18 "AgedAssets$Part" "firstMonth" "I", Cond.fieldLink RX2 22 "AgedAssets$Part" "life" "I", Cond.fieldLink RX2 25 "AgedAssets$Part" "method" "I", Cond.fieldLink RX2 28 "AgedAssets$Part" "rate" "I", Cond.arrayClass .int, Cond.fieldLink RX2 31 "AgedAssets$Part" "unitsIn" "[I", Cond.classLink RX2 35 RX1, Cond.fieldLink RX2 37 "AgedAssets$Part" "eventIn" "[LAgedAssets$Event;", Cond.arrayClass .long, Cond.fieldLink RX2 41 "AgedAssets$Part" "postedIn" "[J"]
def wsX4_part : List Cond := .code yX4_part cX4_part 11 (some .int) :: ((wsX4_part_r1 ++ wsX4_part_r2) ++ wsX40 ++ wsX20 ++ (vx_atS RX4 51 "java/lang/IllegalArgumentException" ["java/lang/RuntimeException", "java/lang/Exception"]).filter goodWord ++ (vx_atS RX4 62 "java/lang/IllegalStateException" ["java/lang/RuntimeException", "java/lang/Exception"]).filter goodWord)
def wsX4_partOf : List Cond := .code yX4_partOf cX4_partOf 2 (some (.object "AgedAssets$Part")) :: ([.fieldLink RX4 54 "AgedAssets" "partCount" "I", .fieldLink RX4 11 "AgedAssets" "partRow" "[LAgedAssets$Part;"] ++ wsX40)
def wsX4_follow_r1 : List Cond := [Cond.fieldLink RX4 24 "AgedAssets" "full" "LAgedAssets$Course;", Cond.fieldLink RX4 28 "AgedAssets" "bare" "LAgedAssets$Course;", Cond.fieldLink RX4 84 "AgedAssets$Part" "firstMonth" "I", Cond.fieldLink RX4 93 "AgedAssets$Part" "eventIn" "[LAgedAssets$Event;", Cond.fieldLink RX4 117 "AgedAssets$Event" "kind" "I", Cond.constantLong RX4 191 (-1), Cond.fieldLink RX4 74 "AgedAssets$Part" "unitsIn" "[I", Cond.methodLink RX4 183 yX0_open, Cond.instanceMethod yX0_open, Cond.selects RX0 yX0_open yX0_open, Cond.initialized RX0, Cond.code yX0_open cX0_open 2 none, Cond.fieldLink RX0 18 "AgedAssets$Part" "method" "I", Cond.fieldLink RX0 24 "AgedAssets$Course" "method" "I", Cond.fieldLink RX0 25 "AgedAssets$Part" "rate" "I", Cond.fieldLink RX0 28 "AgedAssets$Course" "rate" "I", Cond.fieldLink RX0 29 "AgedAssets$Part" "cost" "J", Cond.fieldLink RX0 33 "AgedAssets$Course" "cost" "J", Cond.fieldLink RX0 34 "AgedAssets$Course" "allowance" "J", Cond.fieldLink RX0 37 "AgedAssets$Course" "reserve" "J", Cond.fieldLink RX0 40 "AgedAssets$Course" "losses" "J", Cond.fieldLink RX0 43 "AgedAssets$Part" "residual" "J", Cond.fieldLink RX0 46 "AgedAssets$Course" "residual" "J", Cond.fieldLink RX0 47 "AgedAssets$Part" "life" "I"]
def wsX4_follow_r2 : List Cond := [Cond.fieldLink RX0 50 "AgedAssets$Course" "restOfLife" "I", Cond.fieldLink RX0 53 "AgedAssets$Course" "held" "Z", Cond.fieldLink RX0 57 "AgedAssets$Course" "gone" "Z", Cond.fieldLink RX0 60 "AgedAssets$Course" "breached" "Z", Cond.fieldLink RX0 63 "AgedAssets$Course" "chargedUnits" "J", Cond.fieldLink RX0 66 "AgedAssets$Course" "lastCharge" "J", Cond.fieldLink RX0 69 "AgedAssets$Course" "allCharges" "J", Cond.methodLink RX0 72 yX0_beginStretch, Cond.instanceMethod yX0_beginStretch, Cond.selects RX0 yX0_beginStretch yX0_beginStretch, Cond.code yX0_beginStretch cX0_beginStretch 1 none, Cond.fieldLink RX0 12 "AgedAssets$Course" "stretch" "LAgedAssets$Stretch;", Cond.methodLink RX0 136 Lib.MathLoose.max_long.x, Cond.static Lib.MathLoose.max_long.x, Cond.initialized "java/lang/Math", Cond.code Lib.MathLoose.max_long.x Lib.MathLoose.max_long.code 4 (some .long), Cond.methodLink RX0 77 yX0_book, Cond.instanceMethod yX0_book, Cond.selects RX0 yX0_book yX0_book, Cond.code yX0_book cX0_book 1 (some .long), Cond.methodLink RX0 139 yX3_begin, Cond.instanceMethod yX3_begin, Cond.selects RX3 yX3_begin yX3_begin, Cond.initialized RX3]
def wsX4_follow_r3 : List Cond := [Cond.code yX3_begin cX3_begin 7 none, Cond.fieldLink RX3 9 "AgedAssets$Stretch" "base" "J", Cond.fieldLink RX3 15 "AgedAssets$Stretch" "length" "J", Cond.fieldLink RX3 18 "AgedAssets$Stretch" "unitsLeft" "J", Cond.fieldLink RX3 21 "AgedAssets$Stretch" "monthsCharged" "J", Cond.fieldLink RX3 24 "AgedAssets$Stretch" "unitsCharged" "J", Cond.fieldLink RX3 27 "AgedAssets$Stretch" "charged" "J", Cond.methodLink RX4 159 yX0_bookOrNone, Cond.instanceMethod yX0_bookOrNone, Cond.selects RX0 yX0_bookOrNone yX0_bookOrNone, Cond.code yX0_bookOrNone cX0_bookOrNone 1 (some .long), Cond.constantLong RX0 75 (-1), Cond.methodLink RX4 187 yX0_meet, Cond.instanceMethod yX0_meet, Cond.selects RX0 yX0_meet yX0_meet, Cond.code yX0_meet cX0_meet 4 none, Cond.fieldLink RX0 89 "AgedAssets$Event" "kind" "I", Cond.methodLink RX0 81 yX0_isBreach, Cond.instanceMethod yX0_isBreach, Cond.selects RX0 yX0_isBreach yX0_isBreach, Cond.code yX0_isBreach cX0_isBreach 4 (some .boolean), Cond.fieldLink RX0 101 "AgedAssets$Event" "amount" "J", Cond.methodLink RX0 85 yX0_apply, Cond.instanceMethod yX0_apply]
def wsX4_follow_r4 : List Cond := [Cond.selects RX0 yX0_apply yX0_apply, Cond.code yX0_apply cX0_apply 2 none, Cond.fieldLink RX0 104 "AgedAssets$Event" "number" "I", Cond.methodLink RX0 107 yX0_revalue, Cond.instanceMethod yX0_revalue, Cond.selects RX0 yX0_revalue yX0_revalue, Cond.code yX0_revalue cX0_revalue 3 none, Cond.methodLink RX0 121 yX0_lose, Cond.instanceMethod yX0_lose, Cond.selects RX0 yX0_lose yX0_lose, Cond.code yX0_lose cX0_lose 5 none, Cond.methodLink RX0 124 Lib.MathLoose.min_long.x, Cond.static Lib.MathLoose.min_long.x, Cond.code Lib.MathLoose.min_long.x Lib.MathLoose.min_long.code 4 (some .long), Cond.methodLink RX0 111 yX0_impair, Cond.instanceMethod yX0_impair, Cond.selects RX0 yX0_impair yX0_impair, Cond.code yX0_impair cX0_impair 3 none, Cond.methodLink RX0 114 yX0_restore, Cond.instanceMethod yX0_restore, Cond.selects RX0 yX0_restore yX0_restore, Cond.code yX0_restore cX0_restore 3 none, Cond.methodLink RX0 117 yX0_sell, Cond.instanceMethod yX0_sell]
def wsX4_follow_r5 : List Cond := [Cond.selects RX0 yX0_sell yX0_sell, Cond.code yX0_sell cX0_sell 2 none, Cond.constantLong RX0 130 (1000000), Cond.constant RX0 135 (1000000), Cond.static yX4_rounded, Cond.initialized RX4, Cond.code yX4_rounded cX4_rounded 4 (some .long), Cond.constantLong RX4 197 (2), Cond.methodLink RX4 193 yX0_chargeMonth, Cond.instanceMethod yX0_chargeMonth, Cond.selects RX0 yX0_chargeMonth yX0_chargeMonth, Cond.code yX0_chargeMonth cX0_chargeMonth 2 none, Cond.methodLink RX0 94 yX0_decliningCharge, Cond.instanceMethod yX0_decliningCharge, Cond.selects RX0 yX0_decliningCharge yX0_decliningCharge, Cond.code yX0_decliningCharge cX0_decliningCharge 7 (some .long), Cond.methodLink RX0 97 yX3_nextCharge, Cond.instanceMethod yX3_nextCharge, Cond.selects RX3 yX3_nextCharge yX3_nextCharge, Cond.code yX3_nextCharge cX3_nextCharge 5 (some .long), Cond.methodLink RX3 30 yX3_chargesTogether, Cond.instanceMethod yX3_chargesTogether, Cond.selects RX3 yX3_chargesTogether yX3_chargesTogether, Cond.code yX3_chargesTogether cX3_chargesTogether 2 (some .long)]
def wsX4_follow_r6 : List Cond := [Cond.methodLink RX3 42 Lib.MathLoose.min_long.x, Cond.methodLink RX3 38 yX3_sumUpTo, Cond.static yX3_sumUpTo, Cond.code yX3_sumUpTo cX3_sumUpTo 2 (some .long), Cond.constantLong RX3 47 (2)]
def wsX4_follow : List Cond := .code yX4_follow cX4_follow 5 none :: ((wsX4_follow_r1 ++ (wsX4_follow_r2 ++ (wsX4_follow_r3 ++ (wsX4_follow_r4 ++ (wsX4_follow_r5 ++ wsX4_follow_r6))))) ++ wsX40 ++ wsX20 ++ wsX10 ++ wsX00 ++ wsX30)
def wsX4_hasBreach_r1 : List Cond := [Cond.fieldLink RX4 24 "AgedAssets" "full" "LAgedAssets$Course;", Cond.methodLink RX4 127 yX4_follow, Cond.instanceMethod yX4_follow, Cond.selects RX4 yX4_follow yX4_follow, Cond.initialized RX4, Cond.code yX4_follow cX4_follow 5 none, Cond.fieldLink RX4 28 "AgedAssets" "bare" "LAgedAssets$Course;", Cond.fieldLink RX4 84 "AgedAssets$Part" "firstMonth" "I", Cond.fieldLink RX4 93 "AgedAssets$Part" "eventIn" "[LAgedAssets$Event;", Cond.fieldLink RX4 117 "AgedAssets$Event" "kind" "I", Cond.constantLong RX4 191 (-1), Cond.fieldLink RX4 74 "AgedAssets$Part" "unitsIn" "[I", Cond.methodLink RX4 183 yX0_open, Cond.instanceMethod yX0_open, Cond.selects RX0 yX0_open yX0_open, Cond.initialized RX0, Cond.code yX0_open cX0_open 2 none, Cond.fieldLink RX0 18 "AgedAssets$Part" "method" "I", Cond.fieldLink RX0 24 "AgedAssets$Course" "method" "I", Cond.fieldLink RX0 25 "AgedAssets$Part" "rate" "I", Cond.fieldLink RX0 28 "AgedAssets$Course" "rate" "I", Cond.fieldLink RX0 29 "AgedAssets$Part" "cost" "J", Cond.fieldLink RX0 33 "AgedAssets$Course" "cost" "J", Cond.fieldLink RX0 34 "AgedAssets$Course" "allowance" "J"]
def wsX4_hasBreach_r2 : List Cond := [Cond.fieldLink RX0 37 "AgedAssets$Course" "reserve" "J", Cond.fieldLink RX0 40 "AgedAssets$Course" "losses" "J", Cond.fieldLink RX0 43 "AgedAssets$Part" "residual" "J", Cond.fieldLink RX0 46 "AgedAssets$Course" "residual" "J", Cond.fieldLink RX0 47 "AgedAssets$Part" "life" "I", Cond.fieldLink RX0 50 "AgedAssets$Course" "restOfLife" "I", Cond.fieldLink RX0 53 "AgedAssets$Course" "held" "Z", Cond.fieldLink RX0 57 "AgedAssets$Course" "gone" "Z", Cond.fieldLink RX0 60 "AgedAssets$Course" "breached" "Z", Cond.fieldLink RX0 63 "AgedAssets$Course" "chargedUnits" "J", Cond.fieldLink RX0 66 "AgedAssets$Course" "lastCharge" "J", Cond.fieldLink RX0 69 "AgedAssets$Course" "allCharges" "J", Cond.methodLink RX0 72 yX0_beginStretch, Cond.instanceMethod yX0_beginStretch, Cond.selects RX0 yX0_beginStretch yX0_beginStretch, Cond.code yX0_beginStretch cX0_beginStretch 1 none, Cond.fieldLink RX0 12 "AgedAssets$Course" "stretch" "LAgedAssets$Stretch;", Cond.methodLink RX0 136 Lib.MathLoose.max_long.x, Cond.static Lib.MathLoose.max_long.x, Cond.initialized "java/lang/Math", Cond.code Lib.MathLoose.max_long.x Lib.MathLoose.max_long.code 4 (some .long), Cond.methodLink RX0 77 yX0_book, Cond.instanceMethod yX0_book, Cond.selects RX0 yX0_book yX0_book]
def wsX4_hasBreach_r3 : List Cond := [Cond.code yX0_book cX0_book 1 (some .long), Cond.methodLink RX0 139 yX3_begin, Cond.instanceMethod yX3_begin, Cond.selects RX3 yX3_begin yX3_begin, Cond.initialized RX3, Cond.code yX3_begin cX3_begin 7 none, Cond.fieldLink RX3 9 "AgedAssets$Stretch" "base" "J", Cond.fieldLink RX3 15 "AgedAssets$Stretch" "length" "J", Cond.fieldLink RX3 18 "AgedAssets$Stretch" "unitsLeft" "J", Cond.fieldLink RX3 21 "AgedAssets$Stretch" "monthsCharged" "J", Cond.fieldLink RX3 24 "AgedAssets$Stretch" "unitsCharged" "J", Cond.fieldLink RX3 27 "AgedAssets$Stretch" "charged" "J", Cond.methodLink RX4 159 yX0_bookOrNone, Cond.instanceMethod yX0_bookOrNone, Cond.selects RX0 yX0_bookOrNone yX0_bookOrNone, Cond.code yX0_bookOrNone cX0_bookOrNone 1 (some .long), Cond.constantLong RX0 75 (-1), Cond.methodLink RX4 187 yX0_meet, Cond.instanceMethod yX0_meet, Cond.selects RX0 yX0_meet yX0_meet, Cond.code yX0_meet cX0_meet 4 none, Cond.fieldLink RX0 89 "AgedAssets$Event" "kind" "I", Cond.methodLink RX0 81 yX0_isBreach, Cond.instanceMethod yX0_isBreach]
def wsX4_hasBreach_r4 : List Cond := [Cond.selects RX0 yX0_isBreach yX0_isBreach, Cond.code yX0_isBreach cX0_isBreach 4 (some .boolean), Cond.fieldLink RX0 101 "AgedAssets$Event" "amount" "J", Cond.methodLink RX0 85 yX0_apply, Cond.instanceMethod yX0_apply, Cond.selects RX0 yX0_apply yX0_apply, Cond.code yX0_apply cX0_apply 2 none, Cond.fieldLink RX0 104 "AgedAssets$Event" "number" "I", Cond.methodLink RX0 107 yX0_revalue, Cond.instanceMethod yX0_revalue, Cond.selects RX0 yX0_revalue yX0_revalue, Cond.code yX0_revalue cX0_revalue 3 none, Cond.methodLink RX0 121 yX0_lose, Cond.instanceMethod yX0_lose, Cond.selects RX0 yX0_lose yX0_lose, Cond.code yX0_lose cX0_lose 5 none, Cond.methodLink RX0 124 Lib.MathLoose.min_long.x, Cond.static Lib.MathLoose.min_long.x, Cond.code Lib.MathLoose.min_long.x Lib.MathLoose.min_long.code 4 (some .long), Cond.methodLink RX0 111 yX0_impair, Cond.instanceMethod yX0_impair, Cond.selects RX0 yX0_impair yX0_impair, Cond.code yX0_impair cX0_impair 3 none, Cond.methodLink RX0 114 yX0_restore]
def wsX4_hasBreach_r5 : List Cond := [Cond.instanceMethod yX0_restore, Cond.selects RX0 yX0_restore yX0_restore, Cond.code yX0_restore cX0_restore 3 none, Cond.methodLink RX0 117 yX0_sell, Cond.instanceMethod yX0_sell, Cond.selects RX0 yX0_sell yX0_sell, Cond.code yX0_sell cX0_sell 2 none, Cond.constantLong RX0 130 (1000000), Cond.constant RX0 135 (1000000), Cond.static yX4_rounded, Cond.code yX4_rounded cX4_rounded 4 (some .long), Cond.constantLong RX4 197 (2), Cond.methodLink RX4 193 yX0_chargeMonth, Cond.instanceMethod yX0_chargeMonth, Cond.selects RX0 yX0_chargeMonth yX0_chargeMonth, Cond.code yX0_chargeMonth cX0_chargeMonth 2 none, Cond.methodLink RX0 94 yX0_decliningCharge, Cond.instanceMethod yX0_decliningCharge, Cond.selects RX0 yX0_decliningCharge yX0_decliningCharge, Cond.code yX0_decliningCharge cX0_decliningCharge 7 (some .long), Cond.methodLink RX0 97 yX3_nextCharge, Cond.instanceMethod yX3_nextCharge, Cond.selects RX3 yX3_nextCharge yX3_nextCharge, Cond.code yX3_nextCharge cX3_nextCharge 5 (some .long)]
def wsX4_hasBreach_r6 : List Cond := [Cond.methodLink RX3 30 yX3_chargesTogether, Cond.instanceMethod yX3_chargesTogether, Cond.selects RX3 yX3_chargesTogether yX3_chargesTogether, Cond.code yX3_chargesTogether cX3_chargesTogether 2 (some .long), Cond.methodLink RX3 42 Lib.MathLoose.min_long.x, Cond.methodLink RX3 38 yX3_sumUpTo, Cond.static yX3_sumUpTo, Cond.code yX3_sumUpTo cX3_sumUpTo 2 (some .long), Cond.constantLong RX3 47 (2)]
def wsX4_hasBreach : List Cond := .code yX4_hasBreach cX4_hasBreach 2 (some .boolean) :: ((wsX4_hasBreach_r1 ++ (wsX4_hasBreach_r2 ++ (wsX4_hasBreach_r3 ++ (wsX4_hasBreach_r4 ++ (wsX4_hasBreach_r5 ++ wsX4_hasBreach_r6))))) ++ wsX40 ++ wsX00 ++ wsX20 ++ wsX10 ++ wsX30)
def wsX4_units_r1 : List Cond := [Cond.classLink RX4 47 "java/lang/IllegalArgumentException", Cond.initialized "java/lang/IllegalArgumentException", Cond.classLink RX4 58 "java/lang/IllegalStateException", Cond.initialized "java/lang/IllegalStateException", Cond.constantLong RX4 70 (1000000), Cond.fieldLink RX4 74 "AgedAssets$Part" "unitsIn" "[I", Cond.methodLink RX4 66 yX4_partOf, Cond.instanceMethod yX4_partOf, Cond.selects RX4 yX4_partOf yX4_partOf, Cond.initialized RX4, Cond.code yX4_partOf cX4_partOf 2 (some (.object "AgedAssets$Part")), Cond.fieldLink RX4 54 "AgedAssets" "partCount" "I", Cond.fieldLink RX4 11 "AgedAssets" "partRow" "[LAgedAssets$Part;", Cond.methodLink RX4 37 yX4_isMonth, Cond.static yX4_isMonth, Cond.code yX4_isMonth cX4_isMonth 1 (some .boolean), Cond.methodLink RX4 33 yX4_isWithin, Cond.static yX4_isWithin, Cond.code yX4_isWithin cX4_isWithin 6 (some .boolean), Cond.methodLink RX4 78 yX4_hasBreach, Cond.instanceMethod yX4_hasBreach, Cond.selects RX4 yX4_hasBreach yX4_hasBreach, Cond.code yX4_hasBreach cX4_hasBreach 2 (some .boolean), Cond.fieldLink RX4 24 "AgedAssets" "full" "LAgedAssets$Course;"]
def wsX4_units_r2 : List Cond := [Cond.methodLink RX4 127 yX4_follow, Cond.instanceMethod yX4_follow, Cond.selects RX4 yX4_follow yX4_follow, Cond.code yX4_follow cX4_follow 5 none, Cond.fieldLink RX4 28 "AgedAssets" "bare" "LAgedAssets$Course;", Cond.fieldLink RX4 84 "AgedAssets$Part" "firstMonth" "I", Cond.fieldLink RX4 93 "AgedAssets$Part" "eventIn" "[LAgedAssets$Event;", Cond.fieldLink RX4 117 "AgedAssets$Event" "kind" "I", Cond.constantLong RX4 191 (-1), Cond.methodLink RX4 183 yX0_open, Cond.instanceMethod yX0_open, Cond.selects RX0 yX0_open yX0_open, Cond.initialized RX0, Cond.code yX0_open cX0_open 2 none, Cond.fieldLink RX0 18 "AgedAssets$Part" "method" "I", Cond.fieldLink RX0 24 "AgedAssets$Course" "method" "I", Cond.fieldLink RX0 25 "AgedAssets$Part" "rate" "I", Cond.fieldLink RX0 28 "AgedAssets$Course" "rate" "I", Cond.fieldLink RX0 29 "AgedAssets$Part" "cost" "J", Cond.fieldLink RX0 33 "AgedAssets$Course" "cost" "J", Cond.fieldLink RX0 34 "AgedAssets$Course" "allowance" "J", Cond.fieldLink RX0 37 "AgedAssets$Course" "reserve" "J", Cond.fieldLink RX0 40 "AgedAssets$Course" "losses" "J", Cond.fieldLink RX0 43 "AgedAssets$Part" "residual" "J"]
def wsX4_units_r3 : List Cond := [Cond.fieldLink RX0 46 "AgedAssets$Course" "residual" "J", Cond.fieldLink RX0 47 "AgedAssets$Part" "life" "I", Cond.fieldLink RX0 50 "AgedAssets$Course" "restOfLife" "I", Cond.fieldLink RX0 53 "AgedAssets$Course" "held" "Z", Cond.fieldLink RX0 57 "AgedAssets$Course" "gone" "Z", Cond.fieldLink RX0 60 "AgedAssets$Course" "breached" "Z", Cond.fieldLink RX0 63 "AgedAssets$Course" "chargedUnits" "J", Cond.fieldLink RX0 66 "AgedAssets$Course" "lastCharge" "J", Cond.fieldLink RX0 69 "AgedAssets$Course" "allCharges" "J", Cond.methodLink RX0 72 yX0_beginStretch, Cond.instanceMethod yX0_beginStretch, Cond.selects RX0 yX0_beginStretch yX0_beginStretch, Cond.code yX0_beginStretch cX0_beginStretch 1 none, Cond.fieldLink RX0 12 "AgedAssets$Course" "stretch" "LAgedAssets$Stretch;", Cond.methodLink RX0 136 Lib.MathLoose.max_long.x, Cond.static Lib.MathLoose.max_long.x, Cond.initialized "java/lang/Math", Cond.code Lib.MathLoose.max_long.x Lib.MathLoose.max_long.code 4 (some .long), Cond.methodLink RX0 77 yX0_book, Cond.instanceMethod yX0_book, Cond.selects RX0 yX0_book yX0_book, Cond.code yX0_book cX0_book 1 (some .long), Cond.methodLink RX0 139 yX3_begin, Cond.instanceMethod yX3_begin]
def wsX4_units_r4 : List Cond := [Cond.selects RX3 yX3_begin yX3_begin, Cond.initialized RX3, Cond.code yX3_begin cX3_begin 7 none, Cond.fieldLink RX3 9 "AgedAssets$Stretch" "base" "J", Cond.fieldLink RX3 15 "AgedAssets$Stretch" "length" "J", Cond.fieldLink RX3 18 "AgedAssets$Stretch" "unitsLeft" "J", Cond.fieldLink RX3 21 "AgedAssets$Stretch" "monthsCharged" "J", Cond.fieldLink RX3 24 "AgedAssets$Stretch" "unitsCharged" "J", Cond.fieldLink RX3 27 "AgedAssets$Stretch" "charged" "J", Cond.methodLink RX4 159 yX0_bookOrNone, Cond.instanceMethod yX0_bookOrNone, Cond.selects RX0 yX0_bookOrNone yX0_bookOrNone, Cond.code yX0_bookOrNone cX0_bookOrNone 1 (some .long), Cond.constantLong RX0 75 (-1), Cond.methodLink RX4 187 yX0_meet, Cond.instanceMethod yX0_meet, Cond.selects RX0 yX0_meet yX0_meet, Cond.code yX0_meet cX0_meet 4 none, Cond.fieldLink RX0 89 "AgedAssets$Event" "kind" "I", Cond.methodLink RX0 81 yX0_isBreach, Cond.instanceMethod yX0_isBreach, Cond.selects RX0 yX0_isBreach yX0_isBreach, Cond.code yX0_isBreach cX0_isBreach 4 (some .boolean), Cond.fieldLink RX0 101 "AgedAssets$Event" "amount" "J"]
def wsX4_units_r5 : List Cond := [Cond.methodLink RX0 85 yX0_apply, Cond.instanceMethod yX0_apply, Cond.selects RX0 yX0_apply yX0_apply, Cond.code yX0_apply cX0_apply 2 none, Cond.fieldLink RX0 104 "AgedAssets$Event" "number" "I", Cond.methodLink RX0 107 yX0_revalue, Cond.instanceMethod yX0_revalue, Cond.selects RX0 yX0_revalue yX0_revalue, Cond.code yX0_revalue cX0_revalue 3 none, Cond.methodLink RX0 121 yX0_lose, Cond.instanceMethod yX0_lose, Cond.selects RX0 yX0_lose yX0_lose, Cond.code yX0_lose cX0_lose 5 none, Cond.methodLink RX0 124 Lib.MathLoose.min_long.x, Cond.static Lib.MathLoose.min_long.x, Cond.code Lib.MathLoose.min_long.x Lib.MathLoose.min_long.code 4 (some .long), Cond.methodLink RX0 111 yX0_impair, Cond.instanceMethod yX0_impair, Cond.selects RX0 yX0_impair yX0_impair, Cond.code yX0_impair cX0_impair 3 none, Cond.methodLink RX0 114 yX0_restore, Cond.instanceMethod yX0_restore, Cond.selects RX0 yX0_restore yX0_restore, Cond.code yX0_restore cX0_restore 3 none]
def wsX4_units_r6 : List Cond := [Cond.methodLink RX0 117 yX0_sell, Cond.instanceMethod yX0_sell, Cond.selects RX0 yX0_sell yX0_sell, Cond.code yX0_sell cX0_sell 2 none, Cond.constantLong RX0 130 (1000000), Cond.constant RX0 135 (1000000), Cond.static yX4_rounded, Cond.code yX4_rounded cX4_rounded 4 (some .long), Cond.constantLong RX4 197 (2), Cond.methodLink RX4 193 yX0_chargeMonth, Cond.instanceMethod yX0_chargeMonth, Cond.selects RX0 yX0_chargeMonth yX0_chargeMonth, Cond.code yX0_chargeMonth cX0_chargeMonth 2 none, Cond.methodLink RX0 94 yX0_decliningCharge, Cond.instanceMethod yX0_decliningCharge, Cond.selects RX0 yX0_decliningCharge yX0_decliningCharge, Cond.code yX0_decliningCharge cX0_decliningCharge 7 (some .long), Cond.methodLink RX0 97 yX3_nextCharge, Cond.instanceMethod yX3_nextCharge, Cond.selects RX3 yX3_nextCharge yX3_nextCharge, Cond.code yX3_nextCharge cX3_nextCharge 5 (some .long), Cond.methodLink RX3 30 yX3_chargesTogether, Cond.instanceMethod yX3_chargesTogether, Cond.selects RX3 yX3_chargesTogether yX3_chargesTogether]
def wsX4_units_r7 : List Cond := [Cond.code yX3_chargesTogether cX3_chargesTogether 2 (some .long), Cond.methodLink RX3 42 Lib.MathLoose.min_long.x, Cond.methodLink RX3 38 yX3_sumUpTo, Cond.static yX3_sumUpTo, Cond.code yX3_sumUpTo cX3_sumUpTo 2 (some .long), Cond.constantLong RX3 47 (2)]
def wsX4_units : List Cond := .code yX4_units cX4_units 6 (some .int) :: ((wsX4_units_r1 ++ (wsX4_units_r2 ++ (wsX4_units_r3 ++ (wsX4_units_r4 ++ (wsX4_units_r5 ++ (wsX4_units_r6 ++ wsX4_units_r7)))))) ++ wsX20 ++ wsX40 ++ wsX00 ++ wsX10 ++ wsX30 ++ (vx_atS RX4 51 "java/lang/IllegalArgumentException" ["java/lang/RuntimeException", "java/lang/Exception"]).filter goodWord ++ (vx_atS RX4 62 "java/lang/IllegalStateException" ["java/lang/RuntimeException", "java/lang/Exception"]).filter goodWord)
def wsX4_isEvent : List Cond := .code yX4_isEvent cX4_isEvent 4 (some .boolean) :: ([.constantLong RX4 31 (1000000000), .constantLong RX4 41 (36), .constantLong RX4 70 (1000000), .methodLink RX4 33 yX4_isWithin, .static yX4_isWithin, .initialized RX4, .code yX4_isWithin cX4_isWithin 6 (some .boolean)])
def wsX4_event_r1 : List Cond := [Cond.classLink RX4 47 "java/lang/IllegalArgumentException", Cond.initialized "java/lang/IllegalArgumentException", Cond.classLink RX4 58 "java/lang/IllegalStateException", Cond.initialized "java/lang/IllegalStateException", Cond.fieldLink RX4 84 "AgedAssets$Part" "firstMonth" "I", Cond.fieldLink RX4 93 "AgedAssets$Part" "eventIn" "[LAgedAssets$Event;", Cond.fieldLink RX4 96 "AgedAssets$Part" "eventCount" "I", Cond.fieldLink RX4 99 "AgedAssets" "eventCount" "I", Cond.classLink RX4 15 RX1, Cond.instantiable RX1 5, Cond.initialized RX1, Cond.fieldLink RX4 17 "AgedAssets" "eventRow" "[LAgedAssets$Event;", Cond.methodLink RX4 66 yX4_partOf, Cond.instanceMethod yX4_partOf, Cond.selects RX4 yX4_partOf yX4_partOf, Cond.initialized RX4, Cond.code yX4_partOf cX4_partOf 2 (some (.object "AgedAssets$Part")), Cond.fieldLink RX4 54 "AgedAssets" "partCount" "I", Cond.fieldLink RX4 11 "AgedAssets" "partRow" "[LAgedAssets$Part;", Cond.methodLink RX4 37 yX4_isMonth, Cond.static yX4_isMonth, Cond.code yX4_isMonth cX4_isMonth 1 (some .boolean), Cond.methodLink RX4 87 yX4_isEvent, Cond.static yX4_isEvent]
def wsX4_event_r2 : List Cond := [Cond.code yX4_isEvent cX4_isEvent 4 (some .boolean), Cond.constantLong RX4 31 (1000000000), Cond.constantLong RX4 41 (36), Cond.constantLong RX4 70 (1000000), Cond.methodLink RX4 33 yX4_isWithin, Cond.static yX4_isWithin, Cond.code yX4_isWithin cX4_isWithin 6 (some .boolean), Cond.methodLink RX4 102 yX1_init, Cond.instanceMethod yX1_init, Cond.code yX1_init cX1_init 7 none, Cond.methodLink RX1 1 objectInit, Cond.instanceMethod objectInit, Cond.code objectInit ⟨#[0xb1]⟩ 1 none, Cond.fieldLink RX1 7 "AgedAssets$Event" "partNumber" "I", Cond.fieldLink RX1 13 "AgedAssets$Event" "month" "I", Cond.fieldLink RX1 16 "AgedAssets$Event" "kind" "I", Cond.fieldLink RX1 19 "AgedAssets$Event" "amount" "J", Cond.fieldLink RX1 23 "AgedAssets$Event" "number" "I", Cond.methodLink RX4 78 yX4_hasBreach, Cond.instanceMethod yX4_hasBreach, Cond.selects RX4 yX4_hasBreach yX4_hasBreach, Cond.code yX4_hasBreach cX4_hasBreach 2 (some .boolean), Cond.fieldLink RX4 24 "AgedAssets" "full" "LAgedAssets$Course;", Cond.methodLink RX4 127 yX4_follow]
def wsX4_event_r3 : List Cond := [Cond.instanceMethod yX4_follow, Cond.selects RX4 yX4_follow yX4_follow, Cond.code yX4_follow cX4_follow 5 none, Cond.fieldLink RX4 28 "AgedAssets" "bare" "LAgedAssets$Course;", Cond.fieldLink RX4 117 "AgedAssets$Event" "kind" "I", Cond.constantLong RX4 191 (-1), Cond.fieldLink RX4 74 "AgedAssets$Part" "unitsIn" "[I", Cond.methodLink RX4 183 yX0_open, Cond.instanceMethod yX0_open, Cond.selects RX0 yX0_open yX0_open, Cond.initialized RX0, Cond.code yX0_open cX0_open 2 none, Cond.fieldLink RX0 18 "AgedAssets$Part" "method" "I", Cond.fieldLink RX0 24 "AgedAssets$Course" "method" "I", Cond.fieldLink RX0 25 "AgedAssets$Part" "rate" "I", Cond.fieldLink RX0 28 "AgedAssets$Course" "rate" "I", Cond.fieldLink RX0 29 "AgedAssets$Part" "cost" "J", Cond.fieldLink RX0 33 "AgedAssets$Course" "cost" "J", Cond.fieldLink RX0 34 "AgedAssets$Course" "allowance" "J", Cond.fieldLink RX0 37 "AgedAssets$Course" "reserve" "J", Cond.fieldLink RX0 40 "AgedAssets$Course" "losses" "J", Cond.fieldLink RX0 43 "AgedAssets$Part" "residual" "J", Cond.fieldLink RX0 46 "AgedAssets$Course" "residual" "J", Cond.fieldLink RX0 47 "AgedAssets$Part" "life" "I"]
def wsX4_event_r4 : List Cond := [Cond.fieldLink RX0 50 "AgedAssets$Course" "restOfLife" "I", Cond.fieldLink RX0 53 "AgedAssets$Course" "held" "Z", Cond.fieldLink RX0 57 "AgedAssets$Course" "gone" "Z", Cond.fieldLink RX0 60 "AgedAssets$Course" "breached" "Z", Cond.fieldLink RX0 63 "AgedAssets$Course" "chargedUnits" "J", Cond.fieldLink RX0 66 "AgedAssets$Course" "lastCharge" "J", Cond.fieldLink RX0 69 "AgedAssets$Course" "allCharges" "J", Cond.methodLink RX0 72 yX0_beginStretch, Cond.instanceMethod yX0_beginStretch, Cond.selects RX0 yX0_beginStretch yX0_beginStretch, Cond.code yX0_beginStretch cX0_beginStretch 1 none, Cond.fieldLink RX0 12 "AgedAssets$Course" "stretch" "LAgedAssets$Stretch;", Cond.methodLink RX0 136 Lib.MathLoose.max_long.x, Cond.static Lib.MathLoose.max_long.x, Cond.initialized "java/lang/Math", Cond.code Lib.MathLoose.max_long.x Lib.MathLoose.max_long.code 4 (some .long), Cond.methodLink RX0 77 yX0_book, Cond.instanceMethod yX0_book, Cond.selects RX0 yX0_book yX0_book, Cond.code yX0_book cX0_book 1 (some .long), Cond.methodLink RX0 139 yX3_begin, Cond.instanceMethod yX3_begin, Cond.selects RX3 yX3_begin yX3_begin, Cond.initialized RX3]
def wsX4_event_r5 : List Cond := [Cond.code yX3_begin cX3_begin 7 none, Cond.fieldLink RX3 9 "AgedAssets$Stretch" "base" "J", Cond.fieldLink RX3 15 "AgedAssets$Stretch" "length" "J", Cond.fieldLink RX3 18 "AgedAssets$Stretch" "unitsLeft" "J", Cond.fieldLink RX3 21 "AgedAssets$Stretch" "monthsCharged" "J", Cond.fieldLink RX3 24 "AgedAssets$Stretch" "unitsCharged" "J", Cond.fieldLink RX3 27 "AgedAssets$Stretch" "charged" "J", Cond.methodLink RX4 159 yX0_bookOrNone, Cond.instanceMethod yX0_bookOrNone, Cond.selects RX0 yX0_bookOrNone yX0_bookOrNone, Cond.code yX0_bookOrNone cX0_bookOrNone 1 (some .long), Cond.constantLong RX0 75 (-1), Cond.methodLink RX4 187 yX0_meet, Cond.instanceMethod yX0_meet, Cond.selects RX0 yX0_meet yX0_meet, Cond.code yX0_meet cX0_meet 4 none, Cond.fieldLink RX0 89 "AgedAssets$Event" "kind" "I", Cond.methodLink RX0 81 yX0_isBreach, Cond.instanceMethod yX0_isBreach, Cond.selects RX0 yX0_isBreach yX0_isBreach, Cond.code yX0_isBreach cX0_isBreach 4 (some .boolean), Cond.fieldLink RX0 101 "AgedAssets$Event" "amount" "J", Cond.methodLink RX0 85 yX0_apply, Cond.instanceMethod yX0_apply]
def wsX4_event_r6 : List Cond := [Cond.selects RX0 yX0_apply yX0_apply, Cond.code yX0_apply cX0_apply 2 none, Cond.fieldLink RX0 104 "AgedAssets$Event" "number" "I", Cond.methodLink RX0 107 yX0_revalue, Cond.instanceMethod yX0_revalue, Cond.selects RX0 yX0_revalue yX0_revalue, Cond.code yX0_revalue cX0_revalue 3 none, Cond.methodLink RX0 121 yX0_lose, Cond.instanceMethod yX0_lose, Cond.selects RX0 yX0_lose yX0_lose, Cond.code yX0_lose cX0_lose 5 none, Cond.methodLink RX0 124 Lib.MathLoose.min_long.x, Cond.static Lib.MathLoose.min_long.x, Cond.code Lib.MathLoose.min_long.x Lib.MathLoose.min_long.code 4 (some .long), Cond.methodLink RX0 111 yX0_impair, Cond.instanceMethod yX0_impair, Cond.selects RX0 yX0_impair yX0_impair, Cond.code yX0_impair cX0_impair 3 none, Cond.methodLink RX0 114 yX0_restore, Cond.instanceMethod yX0_restore, Cond.selects RX0 yX0_restore yX0_restore, Cond.code yX0_restore cX0_restore 3 none, Cond.methodLink RX0 117 yX0_sell, Cond.instanceMethod yX0_sell]
def wsX4_event_r7 : List Cond := [Cond.selects RX0 yX0_sell yX0_sell, Cond.code yX0_sell cX0_sell 2 none, Cond.constantLong RX0 130 (1000000), Cond.constant RX0 135 (1000000), Cond.static yX4_rounded, Cond.code yX4_rounded cX4_rounded 4 (some .long), Cond.constantLong RX4 197 (2), Cond.methodLink RX4 193 yX0_chargeMonth, Cond.instanceMethod yX0_chargeMonth, Cond.selects RX0 yX0_chargeMonth yX0_chargeMonth, Cond.code yX0_chargeMonth cX0_chargeMonth 2 none, Cond.methodLink RX0 94 yX0_decliningCharge, Cond.instanceMethod yX0_decliningCharge, Cond.selects RX0 yX0_decliningCharge yX0_decliningCharge, Cond.code yX0_decliningCharge cX0_decliningCharge 7 (some .long), Cond.methodLink RX0 97 yX3_nextCharge, Cond.instanceMethod yX3_nextCharge, Cond.selects RX3 yX3_nextCharge yX3_nextCharge, Cond.code yX3_nextCharge cX3_nextCharge 5 (some .long), Cond.methodLink RX3 30 yX3_chargesTogether, Cond.instanceMethod yX3_chargesTogether, Cond.selects RX3 yX3_chargesTogether yX3_chargesTogether, Cond.code yX3_chargesTogether cX3_chargesTogether 2 (some .long), Cond.methodLink RX3 42 Lib.MathLoose.min_long.x]
def wsX4_event_r8 : List Cond := [Cond.methodLink RX3 38 yX3_sumUpTo, Cond.static yX3_sumUpTo, Cond.code yX3_sumUpTo cX3_sumUpTo 2 (some .long), Cond.constantLong RX3 47 (2)]
def wsX4_event : List Cond := .code yX4_event cX4_event 9 (some .int) :: ((wsX4_event_r1 ++ (wsX4_event_r2 ++ (wsX4_event_r3 ++ (wsX4_event_r4 ++ (wsX4_event_r5 ++ (wsX4_event_r6 ++ (wsX4_event_r7 ++ wsX4_event_r8))))))) ++ wsX20 ++ wsX40 ++ wsX10 ++ wsX00 ++ wsX30 ++ (vx_atS RX4 51 "java/lang/IllegalArgumentException" ["java/lang/RuntimeException", "java/lang/Exception"]).filter goodWord ++ (vx_atS RX4 62 "java/lang/IllegalStateException" ["java/lang/RuntimeException", "java/lang/Exception"]).filter goodWord)
def wsX4_eventOf : List Cond := .code yX4_eventOf cX4_eventOf 2 (some (.object "AgedAssets$Event")) :: ([.fieldLink RX4 99 "AgedAssets" "eventCount" "I", .fieldLink RX4 17 "AgedAssets" "eventRow" "[LAgedAssets$Event;"] ++ wsX40)
def wsX4_strike_r1 : List Cond := [Cond.fieldLink RX4 111 "AgedAssets$Event" "partNumber" "I", Cond.fieldLink RX4 93 "AgedAssets$Part" "eventIn" "[LAgedAssets$Event;", Cond.fieldLink RX4 114 "AgedAssets$Event" "month" "I", Cond.fieldLink RX4 96 "AgedAssets$Part" "eventCount" "I", Cond.fieldLink RX4 17 "AgedAssets" "eventRow" "[LAgedAssets$Event;", Cond.methodLink RX4 107 yX4_eventOf, Cond.instanceMethod yX4_eventOf, Cond.selects RX4 yX4_eventOf yX4_eventOf, Cond.initialized RX4, Cond.code yX4_eventOf cX4_eventOf 2 (some (.object "AgedAssets$Event")), Cond.fieldLink RX4 99 "AgedAssets" "eventCount" "I", Cond.methodLink RX4 66 yX4_partOf, Cond.instanceMethod yX4_partOf, Cond.selects RX4 yX4_partOf yX4_partOf, Cond.code yX4_partOf cX4_partOf 2 (some (.object "AgedAssets$Part")), Cond.fieldLink RX4 54 "AgedAssets" "partCount" "I", Cond.fieldLink RX4 11 "AgedAssets" "partRow" "[LAgedAssets$Part;", Cond.methodLink RX4 78 yX4_hasBreach, Cond.instanceMethod yX4_hasBreach, Cond.selects RX4 yX4_hasBreach yX4_hasBreach, Cond.code yX4_hasBreach cX4_hasBreach 2 (some .boolean), Cond.fieldLink RX4 24 "AgedAssets" "full" "LAgedAssets$Course;", Cond.methodLink RX4 127 yX4_follow, Cond.instanceMethod yX4_follow]
def wsX4_strike_r2 : List Cond := [Cond.selects RX4 yX4_follow yX4_follow, Cond.code yX4_follow cX4_follow 5 none, Cond.fieldLink RX4 28 "AgedAssets" "bare" "LAgedAssets$Course;", Cond.fieldLink RX4 84 "AgedAssets$Part" "firstMonth" "I", Cond.fieldLink RX4 117 "AgedAssets$Event" "kind" "I", Cond.constantLong RX4 191 (-1), Cond.fieldLink RX4 74 "AgedAssets$Part" "unitsIn" "[I", Cond.methodLink RX4 183 yX0_open, Cond.instanceMethod yX0_open, Cond.selects RX0 yX0_open yX0_open, Cond.initialized RX0, Cond.code yX0_open cX0_open 2 none, Cond.fieldLink RX0 18 "AgedAssets$Part" "method" "I", Cond.fieldLink RX0 24 "AgedAssets$Course" "method" "I", Cond.fieldLink RX0 25 "AgedAssets$Part" "rate" "I", Cond.fieldLink RX0 28 "AgedAssets$Course" "rate" "I", Cond.fieldLink RX0 29 "AgedAssets$Part" "cost" "J", Cond.fieldLink RX0 33 "AgedAssets$Course" "cost" "J", Cond.fieldLink RX0 34 "AgedAssets$Course" "allowance" "J", Cond.fieldLink RX0 37 "AgedAssets$Course" "reserve" "J", Cond.fieldLink RX0 40 "AgedAssets$Course" "losses" "J", Cond.fieldLink RX0 43 "AgedAssets$Part" "residual" "J", Cond.fieldLink RX0 46 "AgedAssets$Course" "residual" "J", Cond.fieldLink RX0 47 "AgedAssets$Part" "life" "I"]
def wsX4_strike_r3 : List Cond := [Cond.fieldLink RX0 50 "AgedAssets$Course" "restOfLife" "I", Cond.fieldLink RX0 53 "AgedAssets$Course" "held" "Z", Cond.fieldLink RX0 57 "AgedAssets$Course" "gone" "Z", Cond.fieldLink RX0 60 "AgedAssets$Course" "breached" "Z", Cond.fieldLink RX0 63 "AgedAssets$Course" "chargedUnits" "J", Cond.fieldLink RX0 66 "AgedAssets$Course" "lastCharge" "J", Cond.fieldLink RX0 69 "AgedAssets$Course" "allCharges" "J", Cond.methodLink RX0 72 yX0_beginStretch, Cond.instanceMethod yX0_beginStretch, Cond.selects RX0 yX0_beginStretch yX0_beginStretch, Cond.code yX0_beginStretch cX0_beginStretch 1 none, Cond.fieldLink RX0 12 "AgedAssets$Course" "stretch" "LAgedAssets$Stretch;", Cond.methodLink RX0 136 Lib.MathLoose.max_long.x, Cond.static Lib.MathLoose.max_long.x, Cond.initialized "java/lang/Math", Cond.code Lib.MathLoose.max_long.x Lib.MathLoose.max_long.code 4 (some .long), Cond.methodLink RX0 77 yX0_book, Cond.instanceMethod yX0_book, Cond.selects RX0 yX0_book yX0_book, Cond.code yX0_book cX0_book 1 (some .long), Cond.methodLink RX0 139 yX3_begin, Cond.instanceMethod yX3_begin, Cond.selects RX3 yX3_begin yX3_begin, Cond.initialized RX3]
def wsX4_strike_r4 : List Cond := [Cond.code yX3_begin cX3_begin 7 none, Cond.fieldLink RX3 9 "AgedAssets$Stretch" "base" "J", Cond.fieldLink RX3 15 "AgedAssets$Stretch" "length" "J", Cond.fieldLink RX3 18 "AgedAssets$Stretch" "unitsLeft" "J", Cond.fieldLink RX3 21 "AgedAssets$Stretch" "monthsCharged" "J", Cond.fieldLink RX3 24 "AgedAssets$Stretch" "unitsCharged" "J", Cond.fieldLink RX3 27 "AgedAssets$Stretch" "charged" "J", Cond.methodLink RX4 159 yX0_bookOrNone, Cond.instanceMethod yX0_bookOrNone, Cond.selects RX0 yX0_bookOrNone yX0_bookOrNone, Cond.code yX0_bookOrNone cX0_bookOrNone 1 (some .long), Cond.constantLong RX0 75 (-1), Cond.methodLink RX4 187 yX0_meet, Cond.instanceMethod yX0_meet, Cond.selects RX0 yX0_meet yX0_meet, Cond.code yX0_meet cX0_meet 4 none, Cond.fieldLink RX0 89 "AgedAssets$Event" "kind" "I", Cond.methodLink RX0 81 yX0_isBreach, Cond.instanceMethod yX0_isBreach, Cond.selects RX0 yX0_isBreach yX0_isBreach, Cond.code yX0_isBreach cX0_isBreach 4 (some .boolean), Cond.fieldLink RX0 101 "AgedAssets$Event" "amount" "J", Cond.methodLink RX0 85 yX0_apply, Cond.instanceMethod yX0_apply]
def wsX4_strike_r5 : List Cond := [Cond.selects RX0 yX0_apply yX0_apply, Cond.code yX0_apply cX0_apply 2 none, Cond.fieldLink RX0 104 "AgedAssets$Event" "number" "I", Cond.methodLink RX0 107 yX0_revalue, Cond.instanceMethod yX0_revalue, Cond.selects RX0 yX0_revalue yX0_revalue, Cond.code yX0_revalue cX0_revalue 3 none, Cond.methodLink RX0 121 yX0_lose, Cond.instanceMethod yX0_lose, Cond.selects RX0 yX0_lose yX0_lose, Cond.code yX0_lose cX0_lose 5 none, Cond.methodLink RX0 124 Lib.MathLoose.min_long.x, Cond.static Lib.MathLoose.min_long.x, Cond.code Lib.MathLoose.min_long.x Lib.MathLoose.min_long.code 4 (some .long), Cond.methodLink RX0 111 yX0_impair, Cond.instanceMethod yX0_impair, Cond.selects RX0 yX0_impair yX0_impair, Cond.code yX0_impair cX0_impair 3 none, Cond.methodLink RX0 114 yX0_restore, Cond.instanceMethod yX0_restore, Cond.selects RX0 yX0_restore yX0_restore, Cond.code yX0_restore cX0_restore 3 none, Cond.methodLink RX0 117 yX0_sell, Cond.instanceMethod yX0_sell]
def wsX4_strike_r6 : List Cond := [Cond.selects RX0 yX0_sell yX0_sell, Cond.code yX0_sell cX0_sell 2 none, Cond.constantLong RX0 130 (1000000), Cond.constant RX0 135 (1000000), Cond.static yX4_rounded, Cond.code yX4_rounded cX4_rounded 4 (some .long), Cond.constantLong RX4 197 (2), Cond.methodLink RX4 193 yX0_chargeMonth, Cond.instanceMethod yX0_chargeMonth, Cond.selects RX0 yX0_chargeMonth yX0_chargeMonth, Cond.code yX0_chargeMonth cX0_chargeMonth 2 none, Cond.methodLink RX0 94 yX0_decliningCharge, Cond.instanceMethod yX0_decliningCharge, Cond.selects RX0 yX0_decliningCharge yX0_decliningCharge, Cond.code yX0_decliningCharge cX0_decliningCharge 7 (some .long), Cond.methodLink RX0 97 yX3_nextCharge, Cond.instanceMethod yX3_nextCharge, Cond.selects RX3 yX3_nextCharge yX3_nextCharge, Cond.code yX3_nextCharge cX3_nextCharge 5 (some .long), Cond.methodLink RX3 30 yX3_chargesTogether, Cond.instanceMethod yX3_chargesTogether, Cond.selects RX3 yX3_chargesTogether yX3_chargesTogether, Cond.code yX3_chargesTogether cX3_chargesTogether 2 (some .long), Cond.methodLink RX3 42 Lib.MathLoose.min_long.x]
def wsX4_strike_r7 : List Cond := [Cond.methodLink RX3 38 yX3_sumUpTo, Cond.static yX3_sumUpTo, Cond.code yX3_sumUpTo cX3_sumUpTo 2 (some .long), Cond.constantLong RX3 47 (2)]
def wsX4_strike : List Cond := .code yX4_strike cX4_strike 4 (some .boolean) :: ((wsX4_strike_r1 ++ (wsX4_strike_r2 ++ (wsX4_strike_r3 ++ (wsX4_strike_r4 ++ (wsX4_strike_r5 ++ (wsX4_strike_r6 ++ wsX4_strike_r7)))))) ++ wsX10 ++ wsX20 ++ wsX40 ++ wsX00 ++ wsX30)
def wsX4_told : List Cond := .code yX4_told cX4_told 4 (some .int) :: ([.fieldLink RX4 111 "AgedAssets$Event" "partNumber" "I", .fieldLink RX4 114 "AgedAssets$Event" "month" "I", .fieldLink RX4 117 "AgedAssets$Event" "kind" "I", .fieldLink RX4 120 "AgedAssets$Event" "number" "I", .methodLink RX4 107 yX4_eventOf, .instanceMethod yX4_eventOf, .selects RX4 yX4_eventOf yX4_eventOf, .initialized RX4, .code yX4_eventOf cX4_eventOf 2 (some (.object "AgedAssets$Event")), .fieldLink RX4 99 "AgedAssets" "eventCount" "I", .fieldLink RX4 17 "AgedAssets" "eventRow" "[LAgedAssets$Event;"] ++ wsX10 ++ wsX40)
def wsX4_value_r1 : List Cond := [Cond.classLink RX4 47 "java/lang/IllegalArgumentException", Cond.initialized "java/lang/IllegalArgumentException", Cond.constantLong RX4 123 (6), Cond.fieldLink RX4 84 "AgedAssets$Part" "firstMonth" "I", Cond.fieldLink RX4 24 "AgedAssets" "full" "LAgedAssets$Course;", Cond.methodLink RX4 66 yX4_partOf, Cond.instanceMethod yX4_partOf, Cond.selects RX4 yX4_partOf yX4_partOf, Cond.initialized RX4, Cond.code yX4_partOf cX4_partOf 2 (some (.object "AgedAssets$Part")), Cond.fieldLink RX4 54 "AgedAssets" "partCount" "I", Cond.fieldLink RX4 11 "AgedAssets" "partRow" "[LAgedAssets$Part;", Cond.methodLink RX4 37 yX4_isMonth, Cond.static yX4_isMonth, Cond.code yX4_isMonth cX4_isMonth 1 (some .boolean), Cond.methodLink RX4 33 yX4_isWithin, Cond.static yX4_isWithin, Cond.code yX4_isWithin cX4_isWithin 6 (some .boolean), Cond.methodLink RX4 127 yX4_follow, Cond.instanceMethod yX4_follow, Cond.selects RX4 yX4_follow yX4_follow, Cond.code yX4_follow cX4_follow 5 none, Cond.fieldLink RX4 28 "AgedAssets" "bare" "LAgedAssets$Course;", Cond.fieldLink RX4 93 "AgedAssets$Part" "eventIn" "[LAgedAssets$Event;"]
def wsX4_value_r2 : List Cond := [Cond.fieldLink RX4 117 "AgedAssets$Event" "kind" "I", Cond.constantLong RX4 191 (-1), Cond.fieldLink RX4 74 "AgedAssets$Part" "unitsIn" "[I", Cond.methodLink RX4 183 yX0_open, Cond.instanceMethod yX0_open, Cond.selects RX0 yX0_open yX0_open, Cond.initialized RX0, Cond.code yX0_open cX0_open 2 none, Cond.fieldLink RX0 18 "AgedAssets$Part" "method" "I", Cond.fieldLink RX0 24 "AgedAssets$Course" "method" "I", Cond.fieldLink RX0 25 "AgedAssets$Part" "rate" "I", Cond.fieldLink RX0 28 "AgedAssets$Course" "rate" "I", Cond.fieldLink RX0 29 "AgedAssets$Part" "cost" "J", Cond.fieldLink RX0 33 "AgedAssets$Course" "cost" "J", Cond.fieldLink RX0 34 "AgedAssets$Course" "allowance" "J", Cond.fieldLink RX0 37 "AgedAssets$Course" "reserve" "J", Cond.fieldLink RX0 40 "AgedAssets$Course" "losses" "J", Cond.fieldLink RX0 43 "AgedAssets$Part" "residual" "J", Cond.fieldLink RX0 46 "AgedAssets$Course" "residual" "J", Cond.fieldLink RX0 47 "AgedAssets$Part" "life" "I", Cond.fieldLink RX0 50 "AgedAssets$Course" "restOfLife" "I", Cond.fieldLink RX0 53 "AgedAssets$Course" "held" "Z", Cond.fieldLink RX0 57 "AgedAssets$Course" "gone" "Z", Cond.fieldLink RX0 60 "AgedAssets$Course" "breached" "Z"]
def wsX4_value_r3 : List Cond := [Cond.fieldLink RX0 63 "AgedAssets$Course" "chargedUnits" "J", Cond.fieldLink RX0 66 "AgedAssets$Course" "lastCharge" "J", Cond.fieldLink RX0 69 "AgedAssets$Course" "allCharges" "J", Cond.methodLink RX0 72 yX0_beginStretch, Cond.instanceMethod yX0_beginStretch, Cond.selects RX0 yX0_beginStretch yX0_beginStretch, Cond.code yX0_beginStretch cX0_beginStretch 1 none, Cond.fieldLink RX0 12 "AgedAssets$Course" "stretch" "LAgedAssets$Stretch;", Cond.methodLink RX0 136 Lib.MathLoose.max_long.x, Cond.static Lib.MathLoose.max_long.x, Cond.initialized "java/lang/Math", Cond.code Lib.MathLoose.max_long.x Lib.MathLoose.max_long.code 4 (some .long), Cond.methodLink RX0 77 yX0_book, Cond.instanceMethod yX0_book, Cond.selects RX0 yX0_book yX0_book, Cond.code yX0_book cX0_book 1 (some .long), Cond.methodLink RX0 139 yX3_begin, Cond.instanceMethod yX3_begin, Cond.selects RX3 yX3_begin yX3_begin, Cond.initialized RX3, Cond.code yX3_begin cX3_begin 7 none, Cond.fieldLink RX3 9 "AgedAssets$Stretch" "base" "J", Cond.fieldLink RX3 15 "AgedAssets$Stretch" "length" "J", Cond.fieldLink RX3 18 "AgedAssets$Stretch" "unitsLeft" "J"]
def wsX4_value_r4 : List Cond := [Cond.fieldLink RX3 21 "AgedAssets$Stretch" "monthsCharged" "J", Cond.fieldLink RX3 24 "AgedAssets$Stretch" "unitsCharged" "J", Cond.fieldLink RX3 27 "AgedAssets$Stretch" "charged" "J", Cond.methodLink RX4 159 yX0_bookOrNone, Cond.instanceMethod yX0_bookOrNone, Cond.selects RX0 yX0_bookOrNone yX0_bookOrNone, Cond.code yX0_bookOrNone cX0_bookOrNone 1 (some .long), Cond.constantLong RX0 75 (-1), Cond.methodLink RX4 187 yX0_meet, Cond.instanceMethod yX0_meet, Cond.selects RX0 yX0_meet yX0_meet, Cond.code yX0_meet cX0_meet 4 none, Cond.fieldLink RX0 89 "AgedAssets$Event" "kind" "I", Cond.methodLink RX0 81 yX0_isBreach, Cond.instanceMethod yX0_isBreach, Cond.selects RX0 yX0_isBreach yX0_isBreach, Cond.code yX0_isBreach cX0_isBreach 4 (some .boolean), Cond.fieldLink RX0 101 "AgedAssets$Event" "amount" "J", Cond.methodLink RX0 85 yX0_apply, Cond.instanceMethod yX0_apply, Cond.selects RX0 yX0_apply yX0_apply, Cond.code yX0_apply cX0_apply 2 none, Cond.fieldLink RX0 104 "AgedAssets$Event" "number" "I", Cond.methodLink RX0 107 yX0_revalue]
def wsX4_value_r5 : List Cond := [Cond.instanceMethod yX0_revalue, Cond.selects RX0 yX0_revalue yX0_revalue, Cond.code yX0_revalue cX0_revalue 3 none, Cond.methodLink RX0 121 yX0_lose, Cond.instanceMethod yX0_lose, Cond.selects RX0 yX0_lose yX0_lose, Cond.code yX0_lose cX0_lose 5 none, Cond.methodLink RX0 124 Lib.MathLoose.min_long.x, Cond.static Lib.MathLoose.min_long.x, Cond.code Lib.MathLoose.min_long.x Lib.MathLoose.min_long.code 4 (some .long), Cond.methodLink RX0 111 yX0_impair, Cond.instanceMethod yX0_impair, Cond.selects RX0 yX0_impair yX0_impair, Cond.code yX0_impair cX0_impair 3 none, Cond.methodLink RX0 114 yX0_restore, Cond.instanceMethod yX0_restore, Cond.selects RX0 yX0_restore yX0_restore, Cond.code yX0_restore cX0_restore 3 none, Cond.methodLink RX0 117 yX0_sell, Cond.instanceMethod yX0_sell, Cond.selects RX0 yX0_sell yX0_sell, Cond.code yX0_sell cX0_sell 2 none, Cond.constantLong RX0 130 (1000000), Cond.constant RX0 135 (1000000)]
def wsX4_value_r6 : List Cond := [Cond.static yX4_rounded, Cond.code yX4_rounded cX4_rounded 4 (some .long), Cond.constantLong RX4 197 (2), Cond.methodLink RX4 193 yX0_chargeMonth, Cond.instanceMethod yX0_chargeMonth, Cond.selects RX0 yX0_chargeMonth yX0_chargeMonth, Cond.code yX0_chargeMonth cX0_chargeMonth 2 none, Cond.methodLink RX0 94 yX0_decliningCharge, Cond.instanceMethod yX0_decliningCharge, Cond.selects RX0 yX0_decliningCharge yX0_decliningCharge, Cond.code yX0_decliningCharge cX0_decliningCharge 7 (some .long), Cond.methodLink RX0 97 yX3_nextCharge, Cond.instanceMethod yX3_nextCharge, Cond.selects RX3 yX3_nextCharge yX3_nextCharge, Cond.code yX3_nextCharge cX3_nextCharge 5 (some .long), Cond.methodLink RX3 30 yX3_chargesTogether, Cond.instanceMethod yX3_chargesTogether, Cond.selects RX3 yX3_chargesTogether yX3_chargesTogether, Cond.code yX3_chargesTogether cX3_chargesTogether 2 (some .long), Cond.methodLink RX3 42 Lib.MathLoose.min_long.x, Cond.methodLink RX3 38 yX3_sumUpTo, Cond.static yX3_sumUpTo, Cond.code yX3_sumUpTo cX3_sumUpTo 2 (some .long), Cond.constantLong RX3 47 (2)]
def wsX4_value_r7 : List Cond := [Cond.methodLink RX4 138 yX0_book]
def wsX4_value : List Cond := .code yX4_value cX4_value 5 (some .long) :: ((wsX4_value_r1 ++ (wsX4_value_r2 ++ (wsX4_value_r3 ++ (wsX4_value_r4 ++ (wsX4_value_r5 ++ (wsX4_value_r6 ++ wsX4_value_r7)))))) ++ wsX20 ++ wsX40 ++ wsX00 ++ wsX10 ++ wsX30 ++ (vx_atS RX4 51 "java/lang/IllegalArgumentException" ["java/lang/RuntimeException", "java/lang/Exception"]).filter goodWord)
def wsX4_charge_r1 : List Cond := [Cond.classLink RX4 47 "java/lang/IllegalArgumentException", Cond.initialized "java/lang/IllegalArgumentException", Cond.fieldLink RX4 84 "AgedAssets$Part" "firstMonth" "I", Cond.fieldLink RX4 24 "AgedAssets" "full" "LAgedAssets$Course;", Cond.methodLink RX4 66 yX4_partOf, Cond.instanceMethod yX4_partOf, Cond.selects RX4 yX4_partOf yX4_partOf, Cond.initialized RX4, Cond.code yX4_partOf cX4_partOf 2 (some (.object "AgedAssets$Part")), Cond.fieldLink RX4 54 "AgedAssets" "partCount" "I", Cond.fieldLink RX4 11 "AgedAssets" "partRow" "[LAgedAssets$Part;", Cond.methodLink RX4 37 yX4_isMonth, Cond.static yX4_isMonth, Cond.code yX4_isMonth cX4_isMonth 1 (some .boolean), Cond.methodLink RX4 127 yX4_follow, Cond.instanceMethod yX4_follow, Cond.selects RX4 yX4_follow yX4_follow, Cond.code yX4_follow cX4_follow 5 none, Cond.fieldLink RX4 28 "AgedAssets" "bare" "LAgedAssets$Course;", Cond.fieldLink RX4 93 "AgedAssets$Part" "eventIn" "[LAgedAssets$Event;", Cond.fieldLink RX4 117 "AgedAssets$Event" "kind" "I", Cond.constantLong RX4 191 (-1), Cond.fieldLink RX4 74 "AgedAssets$Part" "unitsIn" "[I", Cond.methodLink RX4 183 yX0_open]
def wsX4_charge_r2 : List Cond := [Cond.instanceMethod yX0_open, Cond.selects RX0 yX0_open yX0_open, Cond.initialized RX0, Cond.code yX0_open cX0_open 2 none, Cond.fieldLink RX0 18 "AgedAssets$Part" "method" "I", Cond.fieldLink RX0 24 "AgedAssets$Course" "method" "I", Cond.fieldLink RX0 25 "AgedAssets$Part" "rate" "I", Cond.fieldLink RX0 28 "AgedAssets$Course" "rate" "I", Cond.fieldLink RX0 29 "AgedAssets$Part" "cost" "J", Cond.fieldLink RX0 33 "AgedAssets$Course" "cost" "J", Cond.fieldLink RX0 34 "AgedAssets$Course" "allowance" "J", Cond.fieldLink RX0 37 "AgedAssets$Course" "reserve" "J", Cond.fieldLink RX0 40 "AgedAssets$Course" "losses" "J", Cond.fieldLink RX0 43 "AgedAssets$Part" "residual" "J", Cond.fieldLink RX0 46 "AgedAssets$Course" "residual" "J", Cond.fieldLink RX0 47 "AgedAssets$Part" "life" "I", Cond.fieldLink RX0 50 "AgedAssets$Course" "restOfLife" "I", Cond.fieldLink RX0 53 "AgedAssets$Course" "held" "Z", Cond.fieldLink RX0 57 "AgedAssets$Course" "gone" "Z", Cond.fieldLink RX0 60 "AgedAssets$Course" "breached" "Z", Cond.fieldLink RX0 63 "AgedAssets$Course" "chargedUnits" "J", Cond.fieldLink RX0 66 "AgedAssets$Course" "lastCharge" "J", Cond.fieldLink RX0 69 "AgedAssets$Course" "allCharges" "J", Cond.methodLink RX0 72 yX0_beginStretch]
def wsX4_charge_r3 : List Cond := [Cond.instanceMethod yX0_beginStretch, Cond.selects RX0 yX0_beginStretch yX0_beginStretch, Cond.code yX0_beginStretch cX0_beginStretch 1 none, Cond.fieldLink RX0 12 "AgedAssets$Course" "stretch" "LAgedAssets$Stretch;", Cond.methodLink RX0 136 Lib.MathLoose.max_long.x, Cond.static Lib.MathLoose.max_long.x, Cond.initialized "java/lang/Math", Cond.code Lib.MathLoose.max_long.x Lib.MathLoose.max_long.code 4 (some .long), Cond.methodLink RX0 77 yX0_book, Cond.instanceMethod yX0_book, Cond.selects RX0 yX0_book yX0_book, Cond.code yX0_book cX0_book 1 (some .long), Cond.methodLink RX0 139 yX3_begin, Cond.instanceMethod yX3_begin, Cond.selects RX3 yX3_begin yX3_begin, Cond.initialized RX3, Cond.code yX3_begin cX3_begin 7 none, Cond.fieldLink RX3 9 "AgedAssets$Stretch" "base" "J", Cond.fieldLink RX3 15 "AgedAssets$Stretch" "length" "J", Cond.fieldLink RX3 18 "AgedAssets$Stretch" "unitsLeft" "J", Cond.fieldLink RX3 21 "AgedAssets$Stretch" "monthsCharged" "J", Cond.fieldLink RX3 24 "AgedAssets$Stretch" "unitsCharged" "J", Cond.fieldLink RX3 27 "AgedAssets$Stretch" "charged" "J", Cond.methodLink RX4 159 yX0_bookOrNone]
def wsX4_charge_r4 : List Cond := [Cond.instanceMethod yX0_bookOrNone, Cond.selects RX0 yX0_bookOrNone yX0_bookOrNone, Cond.code yX0_bookOrNone cX0_bookOrNone 1 (some .long), Cond.constantLong RX0 75 (-1), Cond.methodLink RX4 187 yX0_meet, Cond.instanceMethod yX0_meet, Cond.selects RX0 yX0_meet yX0_meet, Cond.code yX0_meet cX0_meet 4 none, Cond.fieldLink RX0 89 "AgedAssets$Event" "kind" "I", Cond.methodLink RX0 81 yX0_isBreach, Cond.instanceMethod yX0_isBreach, Cond.selects RX0 yX0_isBreach yX0_isBreach, Cond.code yX0_isBreach cX0_isBreach 4 (some .boolean), Cond.fieldLink RX0 101 "AgedAssets$Event" "amount" "J", Cond.methodLink RX0 85 yX0_apply, Cond.instanceMethod yX0_apply, Cond.selects RX0 yX0_apply yX0_apply, Cond.code yX0_apply cX0_apply 2 none, Cond.fieldLink RX0 104 "AgedAssets$Event" "number" "I", Cond.methodLink RX0 107 yX0_revalue, Cond.instanceMethod yX0_revalue, Cond.selects RX0 yX0_revalue yX0_revalue, Cond.code yX0_revalue cX0_revalue 3 none, Cond.methodLink RX0 121 yX0_lose]
def wsX4_charge_r5 : List Cond := [Cond.instanceMethod yX0_lose, Cond.selects RX0 yX0_lose yX0_lose, Cond.code yX0_lose cX0_lose 5 none, Cond.methodLink RX0 124 Lib.MathLoose.min_long.x, Cond.static Lib.MathLoose.min_long.x, Cond.code Lib.MathLoose.min_long.x Lib.MathLoose.min_long.code 4 (some .long), Cond.methodLink RX0 111 yX0_impair, Cond.instanceMethod yX0_impair, Cond.selects RX0 yX0_impair yX0_impair, Cond.code yX0_impair cX0_impair 3 none, Cond.methodLink RX0 114 yX0_restore, Cond.instanceMethod yX0_restore, Cond.selects RX0 yX0_restore yX0_restore, Cond.code yX0_restore cX0_restore 3 none, Cond.methodLink RX0 117 yX0_sell, Cond.instanceMethod yX0_sell, Cond.selects RX0 yX0_sell yX0_sell, Cond.code yX0_sell cX0_sell 2 none, Cond.constantLong RX0 130 (1000000), Cond.constant RX0 135 (1000000), Cond.static yX4_rounded, Cond.code yX4_rounded cX4_rounded 4 (some .long), Cond.constantLong RX4 197 (2), Cond.methodLink RX4 193 yX0_chargeMonth]
def wsX4_charge_r6 : List Cond := [Cond.instanceMethod yX0_chargeMonth, Cond.selects RX0 yX0_chargeMonth yX0_chargeMonth, Cond.code yX0_chargeMonth cX0_chargeMonth 2 none, Cond.methodLink RX0 94 yX0_decliningCharge, Cond.instanceMethod yX0_decliningCharge, Cond.selects RX0 yX0_decliningCharge yX0_decliningCharge, Cond.code yX0_decliningCharge cX0_decliningCharge 7 (some .long), Cond.methodLink RX0 97 yX3_nextCharge, Cond.instanceMethod yX3_nextCharge, Cond.selects RX3 yX3_nextCharge yX3_nextCharge, Cond.code yX3_nextCharge cX3_nextCharge 5 (some .long), Cond.methodLink RX3 30 yX3_chargesTogether, Cond.instanceMethod yX3_chargesTogether, Cond.selects RX3 yX3_chargesTogether yX3_chargesTogether, Cond.code yX3_chargesTogether cX3_chargesTogether 2 (some .long), Cond.methodLink RX3 42 Lib.MathLoose.min_long.x, Cond.methodLink RX3 38 yX3_sumUpTo, Cond.static yX3_sumUpTo, Cond.code yX3_sumUpTo cX3_sumUpTo 2 (some .long), Cond.constantLong RX3 47 (2)]
def wsX4_charge : List Cond := .code yX4_charge cX4_charge 4 (some .long) :: ((wsX4_charge_r1 ++ (wsX4_charge_r2 ++ (wsX4_charge_r3 ++ (wsX4_charge_r4 ++ (wsX4_charge_r5 ++ wsX4_charge_r6))))) ++ wsX20 ++ wsX40 ++ wsX00 ++ wsX10 ++ wsX30 ++ (vx_atS RX4 51 "java/lang/IllegalArgumentException" ["java/lang/RuntimeException", "java/lang/Exception"]).filter goodWord)
def wsX4_without_r1 : List Cond := [Cond.classLink RX4 47 "java/lang/IllegalArgumentException", Cond.initialized "java/lang/IllegalArgumentException", Cond.fieldLink RX4 84 "AgedAssets$Part" "firstMonth" "I", Cond.fieldLink RX4 28 "AgedAssets" "bare" "LAgedAssets$Course;", Cond.methodLink RX4 66 yX4_partOf, Cond.instanceMethod yX4_partOf, Cond.selects RX4 yX4_partOf yX4_partOf, Cond.initialized RX4, Cond.code yX4_partOf cX4_partOf 2 (some (.object "AgedAssets$Part")), Cond.fieldLink RX4 54 "AgedAssets" "partCount" "I", Cond.fieldLink RX4 11 "AgedAssets" "partRow" "[LAgedAssets$Part;", Cond.methodLink RX4 37 yX4_isMonth, Cond.static yX4_isMonth, Cond.code yX4_isMonth cX4_isMonth 1 (some .boolean), Cond.methodLink RX4 127 yX4_follow, Cond.instanceMethod yX4_follow, Cond.selects RX4 yX4_follow yX4_follow, Cond.code yX4_follow cX4_follow 5 none, Cond.fieldLink RX4 24 "AgedAssets" "full" "LAgedAssets$Course;", Cond.fieldLink RX4 93 "AgedAssets$Part" "eventIn" "[LAgedAssets$Event;", Cond.fieldLink RX4 117 "AgedAssets$Event" "kind" "I", Cond.constantLong RX4 191 (-1), Cond.fieldLink RX4 74 "AgedAssets$Part" "unitsIn" "[I", Cond.methodLink RX4 183 yX0_open]
def wsX4_without_r2 : List Cond := [Cond.instanceMethod yX0_open, Cond.selects RX0 yX0_open yX0_open, Cond.initialized RX0, Cond.code yX0_open cX0_open 2 none, Cond.fieldLink RX0 18 "AgedAssets$Part" "method" "I", Cond.fieldLink RX0 24 "AgedAssets$Course" "method" "I", Cond.fieldLink RX0 25 "AgedAssets$Part" "rate" "I", Cond.fieldLink RX0 28 "AgedAssets$Course" "rate" "I", Cond.fieldLink RX0 29 "AgedAssets$Part" "cost" "J", Cond.fieldLink RX0 33 "AgedAssets$Course" "cost" "J", Cond.fieldLink RX0 34 "AgedAssets$Course" "allowance" "J", Cond.fieldLink RX0 37 "AgedAssets$Course" "reserve" "J", Cond.fieldLink RX0 40 "AgedAssets$Course" "losses" "J", Cond.fieldLink RX0 43 "AgedAssets$Part" "residual" "J", Cond.fieldLink RX0 46 "AgedAssets$Course" "residual" "J", Cond.fieldLink RX0 47 "AgedAssets$Part" "life" "I", Cond.fieldLink RX0 50 "AgedAssets$Course" "restOfLife" "I", Cond.fieldLink RX0 53 "AgedAssets$Course" "held" "Z", Cond.fieldLink RX0 57 "AgedAssets$Course" "gone" "Z", Cond.fieldLink RX0 60 "AgedAssets$Course" "breached" "Z", Cond.fieldLink RX0 63 "AgedAssets$Course" "chargedUnits" "J", Cond.fieldLink RX0 66 "AgedAssets$Course" "lastCharge" "J", Cond.fieldLink RX0 69 "AgedAssets$Course" "allCharges" "J", Cond.methodLink RX0 72 yX0_beginStretch]
def wsX4_without_r3 : List Cond := [Cond.instanceMethod yX0_beginStretch, Cond.selects RX0 yX0_beginStretch yX0_beginStretch, Cond.code yX0_beginStretch cX0_beginStretch 1 none, Cond.fieldLink RX0 12 "AgedAssets$Course" "stretch" "LAgedAssets$Stretch;", Cond.methodLink RX0 136 Lib.MathLoose.max_long.x, Cond.static Lib.MathLoose.max_long.x, Cond.initialized "java/lang/Math", Cond.code Lib.MathLoose.max_long.x Lib.MathLoose.max_long.code 4 (some .long), Cond.methodLink RX0 77 yX0_book, Cond.instanceMethod yX0_book, Cond.selects RX0 yX0_book yX0_book, Cond.code yX0_book cX0_book 1 (some .long), Cond.methodLink RX0 139 yX3_begin, Cond.instanceMethod yX3_begin, Cond.selects RX3 yX3_begin yX3_begin, Cond.initialized RX3, Cond.code yX3_begin cX3_begin 7 none, Cond.fieldLink RX3 9 "AgedAssets$Stretch" "base" "J", Cond.fieldLink RX3 15 "AgedAssets$Stretch" "length" "J", Cond.fieldLink RX3 18 "AgedAssets$Stretch" "unitsLeft" "J", Cond.fieldLink RX3 21 "AgedAssets$Stretch" "monthsCharged" "J", Cond.fieldLink RX3 24 "AgedAssets$Stretch" "unitsCharged" "J", Cond.fieldLink RX3 27 "AgedAssets$Stretch" "charged" "J", Cond.methodLink RX4 159 yX0_bookOrNone]
def wsX4_without_r4 : List Cond := [Cond.instanceMethod yX0_bookOrNone, Cond.selects RX0 yX0_bookOrNone yX0_bookOrNone, Cond.code yX0_bookOrNone cX0_bookOrNone 1 (some .long), Cond.constantLong RX0 75 (-1), Cond.methodLink RX4 187 yX0_meet, Cond.instanceMethod yX0_meet, Cond.selects RX0 yX0_meet yX0_meet, Cond.code yX0_meet cX0_meet 4 none, Cond.fieldLink RX0 89 "AgedAssets$Event" "kind" "I", Cond.methodLink RX0 81 yX0_isBreach, Cond.instanceMethod yX0_isBreach, Cond.selects RX0 yX0_isBreach yX0_isBreach, Cond.code yX0_isBreach cX0_isBreach 4 (some .boolean), Cond.fieldLink RX0 101 "AgedAssets$Event" "amount" "J", Cond.methodLink RX0 85 yX0_apply, Cond.instanceMethod yX0_apply, Cond.selects RX0 yX0_apply yX0_apply, Cond.code yX0_apply cX0_apply 2 none, Cond.fieldLink RX0 104 "AgedAssets$Event" "number" "I", Cond.methodLink RX0 107 yX0_revalue, Cond.instanceMethod yX0_revalue, Cond.selects RX0 yX0_revalue yX0_revalue, Cond.code yX0_revalue cX0_revalue 3 none, Cond.methodLink RX0 121 yX0_lose]
def wsX4_without_r5 : List Cond := [Cond.instanceMethod yX0_lose, Cond.selects RX0 yX0_lose yX0_lose, Cond.code yX0_lose cX0_lose 5 none, Cond.methodLink RX0 124 Lib.MathLoose.min_long.x, Cond.static Lib.MathLoose.min_long.x, Cond.code Lib.MathLoose.min_long.x Lib.MathLoose.min_long.code 4 (some .long), Cond.methodLink RX0 111 yX0_impair, Cond.instanceMethod yX0_impair, Cond.selects RX0 yX0_impair yX0_impair, Cond.code yX0_impair cX0_impair 3 none, Cond.methodLink RX0 114 yX0_restore, Cond.instanceMethod yX0_restore, Cond.selects RX0 yX0_restore yX0_restore, Cond.code yX0_restore cX0_restore 3 none, Cond.methodLink RX0 117 yX0_sell, Cond.instanceMethod yX0_sell, Cond.selects RX0 yX0_sell yX0_sell, Cond.code yX0_sell cX0_sell 2 none, Cond.constantLong RX0 130 (1000000), Cond.constant RX0 135 (1000000), Cond.static yX4_rounded, Cond.code yX4_rounded cX4_rounded 4 (some .long), Cond.constantLong RX4 197 (2), Cond.methodLink RX4 193 yX0_chargeMonth]
def wsX4_without_r6 : List Cond := [Cond.instanceMethod yX0_chargeMonth, Cond.selects RX0 yX0_chargeMonth yX0_chargeMonth, Cond.code yX0_chargeMonth cX0_chargeMonth 2 none, Cond.methodLink RX0 94 yX0_decliningCharge, Cond.instanceMethod yX0_decliningCharge, Cond.selects RX0 yX0_decliningCharge yX0_decliningCharge, Cond.code yX0_decliningCharge cX0_decliningCharge 7 (some .long), Cond.methodLink RX0 97 yX3_nextCharge, Cond.instanceMethod yX3_nextCharge, Cond.selects RX3 yX3_nextCharge yX3_nextCharge, Cond.code yX3_nextCharge cX3_nextCharge 5 (some .long), Cond.methodLink RX3 30 yX3_chargesTogether, Cond.instanceMethod yX3_chargesTogether, Cond.selects RX3 yX3_chargesTogether yX3_chargesTogether, Cond.code yX3_chargesTogether cX3_chargesTogether 2 (some .long), Cond.methodLink RX3 42 Lib.MathLoose.min_long.x, Cond.methodLink RX3 38 yX3_sumUpTo, Cond.static yX3_sumUpTo, Cond.code yX3_sumUpTo cX3_sumUpTo 2 (some .long), Cond.constantLong RX3 47 (2)]
def wsX4_without : List Cond := .code yX4_without cX4_without 4 (some .long) :: ((wsX4_without_r1 ++ (wsX4_without_r2 ++ (wsX4_without_r3 ++ (wsX4_without_r4 ++ (wsX4_without_r5 ++ wsX4_without_r6))))) ++ wsX20 ++ wsX40 ++ wsX10 ++ wsX00 ++ wsX30 ++ (vx_atS RX4 51 "java/lang/IllegalArgumentException" ["java/lang/RuntimeException", "java/lang/Exception"]).filter goodWord)
def wsX4_post_r1 : List Cond := [Cond.classLink RX4 58 "java/lang/IllegalStateException", Cond.initialized "java/lang/IllegalStateException", Cond.fieldLink RX4 162 "AgedAssets" "monthCount" "I", Cond.fieldLink RX4 54 "AgedAssets" "partCount" "I", Cond.fieldLink RX4 84 "AgedAssets$Part" "firstMonth" "I", Cond.fieldLink RX4 167 "AgedAssets$Part" "postedIn" "[J", Cond.fieldLink RX4 24 "AgedAssets" "full" "LAgedAssets$Course;", Cond.fieldLink RX4 174 "AgedAssets$Part" "postedInAll" "J", Cond.methodLink RX4 66 yX4_partOf, Cond.instanceMethod yX4_partOf, Cond.selects RX4 yX4_partOf yX4_partOf, Cond.initialized RX4, Cond.code yX4_partOf cX4_partOf 2 (some (.object "AgedAssets$Part")), Cond.fieldLink RX4 11 "AgedAssets" "partRow" "[LAgedAssets$Part;", Cond.methodLink RX4 127 yX4_follow, Cond.instanceMethod yX4_follow, Cond.selects RX4 yX4_follow yX4_follow, Cond.code yX4_follow cX4_follow 5 none, Cond.fieldLink RX4 28 "AgedAssets" "bare" "LAgedAssets$Course;", Cond.fieldLink RX4 93 "AgedAssets$Part" "eventIn" "[LAgedAssets$Event;", Cond.fieldLink RX4 117 "AgedAssets$Event" "kind" "I", Cond.constantLong RX4 191 (-1), Cond.fieldLink RX4 74 "AgedAssets$Part" "unitsIn" "[I", Cond.methodLink RX4 183 yX0_open]
def wsX4_post_r2 : List Cond := [Cond.instanceMethod yX0_open, Cond.selects RX0 yX0_open yX0_open, Cond.initialized RX0, Cond.code yX0_open cX0_open 2 none, Cond.fieldLink RX0 18 "AgedAssets$Part" "method" "I", Cond.fieldLink RX0 24 "AgedAssets$Course" "method" "I", Cond.fieldLink RX0 25 "AgedAssets$Part" "rate" "I", Cond.fieldLink RX0 28 "AgedAssets$Course" "rate" "I", Cond.fieldLink RX0 29 "AgedAssets$Part" "cost" "J", Cond.fieldLink RX0 33 "AgedAssets$Course" "cost" "J", Cond.fieldLink RX0 34 "AgedAssets$Course" "allowance" "J", Cond.fieldLink RX0 37 "AgedAssets$Course" "reserve" "J", Cond.fieldLink RX0 40 "AgedAssets$Course" "losses" "J", Cond.fieldLink RX0 43 "AgedAssets$Part" "residual" "J", Cond.fieldLink RX0 46 "AgedAssets$Course" "residual" "J", Cond.fieldLink RX0 47 "AgedAssets$Part" "life" "I", Cond.fieldLink RX0 50 "AgedAssets$Course" "restOfLife" "I", Cond.fieldLink RX0 53 "AgedAssets$Course" "held" "Z", Cond.fieldLink RX0 57 "AgedAssets$Course" "gone" "Z", Cond.fieldLink RX0 60 "AgedAssets$Course" "breached" "Z", Cond.fieldLink RX0 63 "AgedAssets$Course" "chargedUnits" "J", Cond.fieldLink RX0 66 "AgedAssets$Course" "lastCharge" "J", Cond.fieldLink RX0 69 "AgedAssets$Course" "allCharges" "J", Cond.methodLink RX0 72 yX0_beginStretch]
def wsX4_post_r3 : List Cond := [Cond.instanceMethod yX0_beginStretch, Cond.selects RX0 yX0_beginStretch yX0_beginStretch, Cond.code yX0_beginStretch cX0_beginStretch 1 none, Cond.fieldLink RX0 12 "AgedAssets$Course" "stretch" "LAgedAssets$Stretch;", Cond.methodLink RX0 136 Lib.MathLoose.max_long.x, Cond.static Lib.MathLoose.max_long.x, Cond.initialized "java/lang/Math", Cond.code Lib.MathLoose.max_long.x Lib.MathLoose.max_long.code 4 (some .long), Cond.methodLink RX0 77 yX0_book, Cond.instanceMethod yX0_book, Cond.selects RX0 yX0_book yX0_book, Cond.code yX0_book cX0_book 1 (some .long), Cond.methodLink RX0 139 yX3_begin, Cond.instanceMethod yX3_begin, Cond.selects RX3 yX3_begin yX3_begin, Cond.initialized RX3, Cond.code yX3_begin cX3_begin 7 none, Cond.fieldLink RX3 9 "AgedAssets$Stretch" "base" "J", Cond.fieldLink RX3 15 "AgedAssets$Stretch" "length" "J", Cond.fieldLink RX3 18 "AgedAssets$Stretch" "unitsLeft" "J", Cond.fieldLink RX3 21 "AgedAssets$Stretch" "monthsCharged" "J", Cond.fieldLink RX3 24 "AgedAssets$Stretch" "unitsCharged" "J", Cond.fieldLink RX3 27 "AgedAssets$Stretch" "charged" "J", Cond.methodLink RX4 159 yX0_bookOrNone]
def wsX4_post_r4 : List Cond := [Cond.instanceMethod yX0_bookOrNone, Cond.selects RX0 yX0_bookOrNone yX0_bookOrNone, Cond.code yX0_bookOrNone cX0_bookOrNone 1 (some .long), Cond.constantLong RX0 75 (-1), Cond.methodLink RX4 187 yX0_meet, Cond.instanceMethod yX0_meet, Cond.selects RX0 yX0_meet yX0_meet, Cond.code yX0_meet cX0_meet 4 none, Cond.fieldLink RX0 89 "AgedAssets$Event" "kind" "I", Cond.methodLink RX0 81 yX0_isBreach, Cond.instanceMethod yX0_isBreach, Cond.selects RX0 yX0_isBreach yX0_isBreach, Cond.code yX0_isBreach cX0_isBreach 4 (some .boolean), Cond.fieldLink RX0 101 "AgedAssets$Event" "amount" "J", Cond.methodLink RX0 85 yX0_apply, Cond.instanceMethod yX0_apply, Cond.selects RX0 yX0_apply yX0_apply, Cond.code yX0_apply cX0_apply 2 none, Cond.fieldLink RX0 104 "AgedAssets$Event" "number" "I", Cond.methodLink RX0 107 yX0_revalue, Cond.instanceMethod yX0_revalue, Cond.selects RX0 yX0_revalue yX0_revalue, Cond.code yX0_revalue cX0_revalue 3 none, Cond.methodLink RX0 121 yX0_lose]
def wsX4_post_r5 : List Cond := [Cond.instanceMethod yX0_lose, Cond.selects RX0 yX0_lose yX0_lose, Cond.code yX0_lose cX0_lose 5 none, Cond.methodLink RX0 124 Lib.MathLoose.min_long.x, Cond.static Lib.MathLoose.min_long.x, Cond.code Lib.MathLoose.min_long.x Lib.MathLoose.min_long.code 4 (some .long), Cond.methodLink RX0 111 yX0_impair, Cond.instanceMethod yX0_impair, Cond.selects RX0 yX0_impair yX0_impair, Cond.code yX0_impair cX0_impair 3 none, Cond.methodLink RX0 114 yX0_restore, Cond.instanceMethod yX0_restore, Cond.selects RX0 yX0_restore yX0_restore, Cond.code yX0_restore cX0_restore 3 none, Cond.methodLink RX0 117 yX0_sell, Cond.instanceMethod yX0_sell, Cond.selects RX0 yX0_sell yX0_sell, Cond.code yX0_sell cX0_sell 2 none, Cond.constantLong RX0 130 (1000000), Cond.constant RX0 135 (1000000), Cond.static yX4_rounded, Cond.code yX4_rounded cX4_rounded 4 (some .long), Cond.constantLong RX4 197 (2), Cond.methodLink RX4 193 yX0_chargeMonth]
def wsX4_post_r6 : List Cond := [Cond.instanceMethod yX0_chargeMonth, Cond.selects RX0 yX0_chargeMonth yX0_chargeMonth, Cond.code yX0_chargeMonth cX0_chargeMonth 2 none, Cond.methodLink RX0 94 yX0_decliningCharge, Cond.instanceMethod yX0_decliningCharge, Cond.selects RX0 yX0_decliningCharge yX0_decliningCharge, Cond.code yX0_decliningCharge cX0_decliningCharge 7 (some .long), Cond.methodLink RX0 97 yX3_nextCharge, Cond.instanceMethod yX3_nextCharge, Cond.selects RX3 yX3_nextCharge yX3_nextCharge, Cond.code yX3_nextCharge cX3_nextCharge 5 (some .long), Cond.methodLink RX3 30 yX3_chargesTogether, Cond.instanceMethod yX3_chargesTogether, Cond.selects RX3 yX3_chargesTogether yX3_chargesTogether, Cond.code yX3_chargesTogether cX3_chargesTogether 2 (some .long), Cond.methodLink RX3 42 Lib.MathLoose.min_long.x, Cond.methodLink RX3 38 yX3_sumUpTo, Cond.static yX3_sumUpTo, Cond.code yX3_sumUpTo cX3_sumUpTo 2 (some .long), Cond.constantLong RX3 47 (2)]
def wsX4_post : List Cond := .code yX4_post cX4_post 6 (some .long) :: ((wsX4_post_r1 ++ (wsX4_post_r2 ++ (wsX4_post_r3 ++ (wsX4_post_r4 ++ (wsX4_post_r5 ++ wsX4_post_r6))))) ++ wsX40 ++ wsX20 ++ wsX00 ++ wsX10 ++ wsX30 ++ (vx_atS RX4 62 "java/lang/IllegalStateException" ["java/lang/RuntimeException", "java/lang/Exception"]).filter goodWord)
def wsX4_months : List Cond := .code yX4_months cX4_months 1 (some .int) :: ([.fieldLink RX4 162 "AgedAssets" "monthCount" "I"] ++ wsX40)
def wsX4_posted : List Cond := .code yX4_posted cX4_posted 4 (some .long) :: ([.classLink RX4 47 "java/lang/IllegalArgumentException", .initialized "java/lang/IllegalArgumentException", .fieldLink RX4 167 "AgedAssets$Part" "postedIn" "[J", .methodLink RX4 66 yX4_partOf, .instanceMethod yX4_partOf, .selects RX4 yX4_partOf yX4_partOf, .initialized RX4, .code yX4_partOf cX4_partOf 2 (some (.object "AgedAssets$Part")), .fieldLink RX4 54 "AgedAssets" "partCount" "I", .fieldLink RX4 11 "AgedAssets" "partRow" "[LAgedAssets$Part;", .methodLink RX4 37 yX4_isMonth, .static yX4_isMonth, .code yX4_isMonth cX4_isMonth 1 (some .boolean)] ++ wsX20 ++ wsX40 ++ (vx_atS RX4 51 "java/lang/IllegalArgumentException" ["java/lang/RuntimeException", "java/lang/Exception"]).filter goodWord)
def wsX4_total : List Cond := .code yX4_total cX4_total 3 (some .long) :: ([.classLink RX4 47 "java/lang/IllegalArgumentException", .initialized "java/lang/IllegalArgumentException", .fieldLink RX4 174 "AgedAssets$Part" "postedInAll" "J", .methodLink RX4 66 yX4_partOf, .instanceMethod yX4_partOf, .selects RX4 yX4_partOf yX4_partOf, .initialized RX4, .code yX4_partOf cX4_partOf 2 (some (.object "AgedAssets$Part")), .fieldLink RX4 54 "AgedAssets" "partCount" "I", .fieldLink RX4 11 "AgedAssets" "partRow" "[LAgedAssets$Part;"] ++ wsX20 ++ wsX40 ++ (vx_atS RX4 51 "java/lang/IllegalArgumentException" ["java/lang/RuntimeException", "java/lang/Exception"]).filter goodWord)
def wsX4_parts : List Cond := .code yX4_parts cX4_parts 1 (some .int) :: ([.fieldLink RX4 54 "AgedAssets" "partCount" "I"] ++ wsX40)
def wsX5_init : List Cond := .code yX5_init cX5_init 1 none :: ([.methodLink RX5 1 objectInit, .instanceMethod objectInit, .code objectInit ⟨#[0xb1]⟩ 1 none, .arrayClass .long, .fieldLink RX5 7 "AgedAssetsModel" "costs" "[J", .fieldLink RX5 13 "AgedAssetsModel" "residuals" "[J", .arrayClass .int, .fieldLink RX5 16 "AgedAssetsModel" "firsts" "[I", .fieldLink RX5 20 "AgedAssetsModel" "lives" "[I", .fieldLink RX5 23 "AgedAssetsModel" "methods" "[I", .fieldLink RX5 26 "AgedAssetsModel" "rates" "[I", .fieldLink RX5 29 "AgedAssetsModel" "used" "[I", .fieldLink RX5 32 "AgedAssetsModel" "posted" "[J", .fieldLink RX5 35 "AgedAssetsModel" "of" "[I", .fieldLink RX5 38 "AgedAssetsModel" "when" "[I", .fieldLink RX5 41 "AgedAssetsModel" "kinds" "[I", .fieldLink RX5 44 "AgedAssetsModel" "amounts" "[J", .fieldLink RX5 47 "AgedAssetsModel" "numbers" "[I", .fieldLink RX5 50 "AgedAssetsModel" "before" "[J", .fieldLink RX5 53 "AgedAssetsModel" "behind" "[J"] ++ wsX50)
def wsX5_thrown : List Cond := .code yX5_thrown cX5_thrown 1 (some .int) :: ([.fieldLink RX5 56 "AgedAssetsModel" "code" "I"] ++ wsX50)
def wsX5_isIn : List Cond := .code yX5_isIn cX5_isIn 6 (some .boolean) :: ([])
def wsX5_rounded : List Cond := .code yX5_rounded cX5_rounded 4 (some .long) :: ([.constantLong RX5 60 (2)])
def wsX5_isPart : List Cond := .code yX5_isPart cX5_isPart 2 (some .boolean) :: ([.fieldLink RX5 62 "AgedAssetsModel" "parts" "I"] ++ wsX50)
def wsX5_isMonth : List Cond := .code yX5_isMonth cX5_isMonth 1 (some .boolean) :: ([])
def wsX5_book : List Cond := .code yX5_book cX5_book 1 (some .long) :: ([.fieldLink RX5 65 "AgedAssetsModel" "cost" "J", .fieldLink RX5 69 "AgedAssetsModel" "allowance" "J"] ++ wsX50)
def wsX5_eventIn : List Cond := .code yX5_eventIn cX5_eventIn 5 (some .int) :: ([.fieldLink RX5 72 "AgedAssetsModel" "events" "I", .fieldLink RX5 35 "AgedAssetsModel" "of" "[I", .fieldLink RX5 38 "AgedAssetsModel" "when" "[I"] ++ wsX50)
def wsX5_stretch : List Cond := .code yX5_stretch cX5_stretch 2 none :: ([.fieldLink RX5 79 "AgedAssetsModel" "residual" "J", .fieldLink RX5 82 "AgedAssetsModel" "base" "J", .fieldLink RX5 85 "AgedAssetsModel" "rest" "I", .fieldLink RX5 88 "AgedAssetsModel" "length" "I", .fieldLink RX5 26 "AgedAssetsModel" "rates" "[I", .fieldLink RX5 91 "AgedAssetsModel" "spent" "I", .fieldLink RX5 94 "AgedAssetsModel" "left" "I", .fieldLink RX5 97 "AgedAssetsModel" "charged" "I", .fieldLink RX5 100 "AgedAssetsModel" "stretchUnits" "I", .fieldLink RX5 103 "AgedAssetsModel" "done" "J", .methodLink RX5 75 yX5_book, .instanceMethod yX5_book, .selects RX5 yX5_book yX5_book, .initialized RX5, .code yX5_book cX5_book 1 (some .long), .fieldLink RX5 65 "AgedAssetsModel" "cost" "J", .fieldLink RX5 69 "AgedAssetsModel" "allowance" "J"] ++ wsX50)
def wsX5_fall : List Cond := .code yX5_fall cX5_fall 5 none :: ([.fieldLink RX5 106 "AgedAssetsModel" "reserve" "J", .fieldLink RX5 109 "AgedAssetsModel" "losses" "J"] ++ wsX50)
def wsX5_impairs : List Cond := .code yX5_impairs cX5_impairs 3 (some .boolean) :: ([.fieldLink RX5 65 "AgedAssetsModel" "cost" "J", .fieldLink RX5 69 "AgedAssetsModel" "allowance" "J", .methodLink RX5 75 yX5_book, .instanceMethod yX5_book, .selects RX5 yX5_book yX5_book, .initialized RX5, .code yX5_book cX5_book 1 (some .long), .methodLink RX5 112 yX5_fall, .instanceMethod yX5_fall, .selects RX5 yX5_fall yX5_fall, .code yX5_fall cX5_fall 5 none, .fieldLink RX5 106 "AgedAssetsModel" "reserve" "J", .fieldLink RX5 109 "AgedAssetsModel" "losses" "J"] ++ wsX50)
def wsX5_restores : List Cond := .code yX5_restores cX5_restores 6 (some .boolean) :: ([.fieldLink RX5 116 "AgedAssetsModel" "bad" "I", .fieldLink RX5 50 "AgedAssetsModel" "before" "[J", .fieldLink RX5 69 "AgedAssetsModel" "allowance" "J", .fieldLink RX5 109 "AgedAssetsModel" "losses" "J", .fieldLink RX5 79 "AgedAssetsModel" "residual" "J", .methodLink RX5 75 yX5_book, .instanceMethod yX5_book, .selects RX5 yX5_book yX5_book, .initialized RX5, .code yX5_book cX5_book 1 (some .long), .fieldLink RX5 65 "AgedAssetsModel" "cost" "J"] ++ wsX50)
def wsX5_values : List Cond := .code yX5_values cX5_values 3 none :: ([.fieldLink RX5 106 "AgedAssetsModel" "reserve" "J", .fieldLink RX5 65 "AgedAssetsModel" "cost" "J", .fieldLink RX5 69 "AgedAssetsModel" "allowance" "J", .methodLink RX5 75 yX5_book, .instanceMethod yX5_book, .selects RX5 yX5_book yX5_book, .initialized RX5, .code yX5_book cX5_book 1 (some .long), .methodLink RX5 112 yX5_fall, .instanceMethod yX5_fall, .selects RX5 yX5_fall yX5_fall, .code yX5_fall cX5_fall 5 none, .fieldLink RX5 109 "AgedAssetsModel" "losses" "J"] ++ wsX50)
def wsX5_less : List Cond := .code yX5_less cX5_less 3 (some .long) :: ([.constantLong RX5 119 (1000000), .methodLink RX5 121 yX5_rounded, .static yX5_rounded, .initialized RX5, .code yX5_rounded cX5_rounded 4 (some .long), .constantLong RX5 60 (2)])
def wsX5_sells : List Cond := .code yX5_sells cX5_sells 2 none :: ([.fieldLink RX5 65 "AgedAssetsModel" "cost" "J", .fieldLink RX5 69 "AgedAssetsModel" "allowance" "J", .fieldLink RX5 106 "AgedAssetsModel" "reserve" "J", .fieldLink RX5 79 "AgedAssetsModel" "residual" "J", .constant RX5 129 (1000000), .fieldLink RX5 130 "AgedAssetsModel" "gone" "Z", .methodLink RX5 125 yX5_less, .static yX5_less, .initialized RX5, .code yX5_less cX5_less 3 (some .long), .constantLong RX5 119 (1000000), .methodLink RX5 121 yX5_rounded, .static yX5_rounded, .code yX5_rounded cX5_rounded 4 (some .long), .constantLong RX5 60 (2)] ++ wsX50)
def wsX5_happens_r1 : List Cond := [Cond.fieldLink RX5 41 "AgedAssetsModel" "kinds" "[I", Cond.fieldLink RX5 44 "AgedAssetsModel" "amounts" "[J", Cond.fieldLink RX5 130 "AgedAssetsModel" "gone" "Z", Cond.fieldLink RX5 134 "AgedAssetsModel" "held" "Z", Cond.fieldLink RX5 65 "AgedAssetsModel" "cost" "J", Cond.fieldLink RX5 85 "AgedAssetsModel" "rest" "I", Cond.fieldLink RX5 79 "AgedAssetsModel" "residual" "J", Cond.fieldLink RX5 47 "AgedAssetsModel" "numbers" "[I", Cond.methodLink RX5 75 yX5_book, Cond.instanceMethod yX5_book, Cond.selects RX5 yX5_book yX5_book, Cond.initialized RX5, Cond.code yX5_book cX5_book 1 (some .long), Cond.fieldLink RX5 69 "AgedAssetsModel" "allowance" "J", Cond.methodLink RX5 137 yX5_values, Cond.instanceMethod yX5_values, Cond.selects RX5 yX5_values yX5_values, Cond.code yX5_values cX5_values 3 none, Cond.fieldLink RX5 106 "AgedAssetsModel" "reserve" "J", Cond.methodLink RX5 112 yX5_fall, Cond.instanceMethod yX5_fall, Cond.selects RX5 yX5_fall yX5_fall, Cond.code yX5_fall cX5_fall 5 none, Cond.fieldLink RX5 109 "AgedAssetsModel" "losses" "J"]
def wsX5_happens_r2 : List Cond := [Cond.methodLink RX5 140 yX5_impairs, Cond.instanceMethod yX5_impairs, Cond.selects RX5 yX5_impairs yX5_impairs, Cond.code yX5_impairs cX5_impairs 3 (some .boolean), Cond.methodLink RX5 144 yX5_restores, Cond.instanceMethod yX5_restores, Cond.selects RX5 yX5_restores yX5_restores, Cond.code yX5_restores cX5_restores 6 (some .boolean), Cond.fieldLink RX5 116 "AgedAssetsModel" "bad" "I", Cond.fieldLink RX5 50 "AgedAssetsModel" "before" "[J", Cond.methodLink RX5 148 yX5_sells, Cond.instanceMethod yX5_sells, Cond.selects RX5 yX5_sells yX5_sells, Cond.code yX5_sells cX5_sells 2 none, Cond.constant RX5 129 (1000000), Cond.methodLink RX5 125 yX5_less, Cond.static yX5_less, Cond.code yX5_less cX5_less 3 (some .long), Cond.constantLong RX5 119 (1000000), Cond.methodLink RX5 121 yX5_rounded, Cond.static yX5_rounded, Cond.code yX5_rounded cX5_rounded 4 (some .long), Cond.constantLong RX5 60 (2)]
def wsX5_happens : List Cond := .code yX5_happens cX5_happens 7 (some .boolean) :: ((wsX5_happens_r1 ++ wsX5_happens_r2) ++ wsX50)
def wsX5_together : List Cond := .code yX5_together cX5_together 4 (some .long) :: ([.fieldLink RX5 23 "AgedAssetsModel" "methods" "[I", .fieldLink RX5 82 "AgedAssetsModel" "base" "J", .fieldLink RX5 97 "AgedAssetsModel" "charged" "I", .fieldLink RX5 88 "AgedAssetsModel" "length" "I", .constantLong RX5 60 (2), .fieldLink RX5 100 "AgedAssetsModel" "stretchUnits" "I", .fieldLink RX5 94 "AgedAssetsModel" "left" "I", .methodLink RX5 121 yX5_rounded, .static yX5_rounded, .initialized RX5, .code yX5_rounded cX5_rounded 4 (some .long)] ++ wsX50)
def wsX5_declining : List Cond := .code yX5_declining cX5_declining 11 (some .long) :: ([.fieldLink RX5 79 "AgedAssetsModel" "residual" "J", .fieldLink RX5 26 "AgedAssetsModel" "rates" "[I", .constantLong RX5 119 (1000000), .methodLink RX5 75 yX5_book, .instanceMethod yX5_book, .selects RX5 yX5_book yX5_book, .initialized RX5, .code yX5_book cX5_book 1 (some .long), .fieldLink RX5 65 "AgedAssetsModel" "cost" "J", .fieldLink RX5 69 "AgedAssetsModel" "allowance" "J", .methodLink RX5 121 yX5_rounded, .static yX5_rounded, .code yX5_rounded cX5_rounded 4 (some .long), .constantLong RX5 60 (2)] ++ wsX50)
def wsX5_writeOff_r1 : List Cond := [Cond.fieldLink RX5 152 "AgedAssetsModel" "last" "J", Cond.fieldLink RX5 134 "AgedAssetsModel" "held" "Z", Cond.fieldLink RX5 130 "AgedAssetsModel" "gone" "Z", Cond.fieldLink RX5 85 "AgedAssetsModel" "rest" "I", Cond.fieldLink RX5 97 "AgedAssetsModel" "charged" "I", Cond.fieldLink RX5 23 "AgedAssetsModel" "methods" "[I", Cond.fieldLink RX5 100 "AgedAssetsModel" "stretchUnits" "I", Cond.fieldLink RX5 29 "AgedAssetsModel" "used" "[I", Cond.fieldLink RX5 91 "AgedAssetsModel" "spent" "I", Cond.fieldLink RX5 103 "AgedAssetsModel" "done" "J", Cond.fieldLink RX5 69 "AgedAssetsModel" "allowance" "J", Cond.fieldLink RX5 163 "AgedAssetsModel" "sum" "J", Cond.methodLink RX5 155 yX5_declining, Cond.instanceMethod yX5_declining, Cond.selects RX5 yX5_declining yX5_declining, Cond.initialized RX5, Cond.code yX5_declining cX5_declining 11 (some .long), Cond.fieldLink RX5 79 "AgedAssetsModel" "residual" "J", Cond.fieldLink RX5 26 "AgedAssetsModel" "rates" "[I", Cond.constantLong RX5 119 (1000000), Cond.methodLink RX5 75 yX5_book, Cond.instanceMethod yX5_book, Cond.selects RX5 yX5_book yX5_book, Cond.code yX5_book cX5_book 1 (some .long)]
def wsX5_writeOff_r2 : List Cond := [Cond.fieldLink RX5 65 "AgedAssetsModel" "cost" "J", Cond.methodLink RX5 121 yX5_rounded, Cond.static yX5_rounded, Cond.code yX5_rounded cX5_rounded 4 (some .long), Cond.constantLong RX5 60 (2), Cond.methodLink RX5 159 yX5_together, Cond.instanceMethod yX5_together, Cond.selects RX5 yX5_together yX5_together, Cond.code yX5_together cX5_together 4 (some .long), Cond.fieldLink RX5 82 "AgedAssetsModel" "base" "J", Cond.fieldLink RX5 88 "AgedAssetsModel" "length" "I", Cond.fieldLink RX5 94 "AgedAssetsModel" "left" "I"]
def wsX5_writeOff : List Cond := .code yX5_writeOff cX5_writeOff 5 none :: ((wsX5_writeOff_r1 ++ wsX5_writeOff_r2) ++ wsX50)
def wsX5_clear : List Cond := .code yX5_clear cX5_clear 1 none :: ([.fieldLink RX5 65 "AgedAssetsModel" "cost" "J", .fieldLink RX5 69 "AgedAssetsModel" "allowance" "J", .fieldLink RX5 106 "AgedAssetsModel" "reserve" "J", .fieldLink RX5 109 "AgedAssetsModel" "losses" "J", .fieldLink RX5 79 "AgedAssetsModel" "residual" "J", .fieldLink RX5 85 "AgedAssetsModel" "rest" "I", .fieldLink RX5 134 "AgedAssetsModel" "held" "Z", .fieldLink RX5 130 "AgedAssetsModel" "gone" "Z", .fieldLink RX5 91 "AgedAssetsModel" "spent" "I", .fieldLink RX5 152 "AgedAssetsModel" "last" "J", .fieldLink RX5 163 "AgedAssetsModel" "sum" "J"] ++ wsX50)
def wsX5_go_r1 : List Cond := [Cond.fieldLink RX5 16 "AgedAssetsModel" "firsts" "[I", Cond.fieldLink RX5 7 "AgedAssetsModel" "costs" "[J", Cond.fieldLink RX5 65 "AgedAssetsModel" "cost" "J", Cond.fieldLink RX5 13 "AgedAssetsModel" "residuals" "[J", Cond.fieldLink RX5 79 "AgedAssetsModel" "residual" "J", Cond.fieldLink RX5 20 "AgedAssetsModel" "lives" "[I", Cond.fieldLink RX5 85 "AgedAssetsModel" "rest" "I", Cond.fieldLink RX5 41 "AgedAssetsModel" "kinds" "[I", Cond.fieldLink RX5 50 "AgedAssetsModel" "before" "[J", Cond.fieldLink RX5 53 "AgedAssetsModel" "behind" "[J", Cond.methodLink RX5 166 yX5_clear, Cond.instanceMethod yX5_clear, Cond.selects RX5 yX5_clear yX5_clear, Cond.initialized RX5, Cond.code yX5_clear cX5_clear 1 none, Cond.fieldLink RX5 69 "AgedAssetsModel" "allowance" "J", Cond.fieldLink RX5 106 "AgedAssetsModel" "reserve" "J", Cond.fieldLink RX5 109 "AgedAssetsModel" "losses" "J", Cond.fieldLink RX5 134 "AgedAssetsModel" "held" "Z", Cond.fieldLink RX5 130 "AgedAssetsModel" "gone" "Z", Cond.fieldLink RX5 91 "AgedAssetsModel" "spent" "I", Cond.fieldLink RX5 152 "AgedAssetsModel" "last" "J", Cond.fieldLink RX5 163 "AgedAssetsModel" "sum" "J", Cond.methodLink RX5 169 yX5_stretch]
def wsX5_go_r2 : List Cond := [Cond.instanceMethod yX5_stretch, Cond.selects RX5 yX5_stretch yX5_stretch, Cond.code yX5_stretch cX5_stretch 2 none, Cond.fieldLink RX5 82 "AgedAssetsModel" "base" "J", Cond.fieldLink RX5 88 "AgedAssetsModel" "length" "I", Cond.fieldLink RX5 26 "AgedAssetsModel" "rates" "[I", Cond.fieldLink RX5 94 "AgedAssetsModel" "left" "I", Cond.fieldLink RX5 97 "AgedAssetsModel" "charged" "I", Cond.fieldLink RX5 100 "AgedAssetsModel" "stretchUnits" "I", Cond.fieldLink RX5 103 "AgedAssetsModel" "done" "J", Cond.methodLink RX5 75 yX5_book, Cond.instanceMethod yX5_book, Cond.selects RX5 yX5_book yX5_book, Cond.code yX5_book cX5_book 1 (some .long), Cond.methodLink RX5 172 yX5_eventIn, Cond.instanceMethod yX5_eventIn, Cond.selects RX5 yX5_eventIn yX5_eventIn, Cond.code yX5_eventIn cX5_eventIn 5 (some .int), Cond.fieldLink RX5 72 "AgedAssetsModel" "events" "I", Cond.fieldLink RX5 35 "AgedAssetsModel" "of" "[I", Cond.fieldLink RX5 38 "AgedAssetsModel" "when" "[I", Cond.methodLink RX5 176 yX5_happens, Cond.instanceMethod yX5_happens, Cond.selects RX5 yX5_happens yX5_happens]
def wsX5_go_r3 : List Cond := [Cond.code yX5_happens cX5_happens 7 (some .boolean), Cond.fieldLink RX5 44 "AgedAssetsModel" "amounts" "[J", Cond.fieldLink RX5 47 "AgedAssetsModel" "numbers" "[I", Cond.methodLink RX5 137 yX5_values, Cond.instanceMethod yX5_values, Cond.selects RX5 yX5_values yX5_values, Cond.code yX5_values cX5_values 3 none, Cond.methodLink RX5 112 yX5_fall, Cond.instanceMethod yX5_fall, Cond.selects RX5 yX5_fall yX5_fall, Cond.code yX5_fall cX5_fall 5 none, Cond.methodLink RX5 140 yX5_impairs, Cond.instanceMethod yX5_impairs, Cond.selects RX5 yX5_impairs yX5_impairs, Cond.code yX5_impairs cX5_impairs 3 (some .boolean), Cond.methodLink RX5 144 yX5_restores, Cond.instanceMethod yX5_restores, Cond.selects RX5 yX5_restores yX5_restores, Cond.code yX5_restores cX5_restores 6 (some .boolean), Cond.fieldLink RX5 116 "AgedAssetsModel" "bad" "I", Cond.methodLink RX5 148 yX5_sells, Cond.instanceMethod yX5_sells, Cond.selects RX5 yX5_sells yX5_sells, Cond.code yX5_sells cX5_sells 2 none]
def wsX5_go_r4 : List Cond := [Cond.constant RX5 129 (1000000), Cond.methodLink RX5 125 yX5_less, Cond.static yX5_less, Cond.code yX5_less cX5_less 3 (some .long), Cond.constantLong RX5 119 (1000000), Cond.methodLink RX5 121 yX5_rounded, Cond.static yX5_rounded, Cond.code yX5_rounded cX5_rounded 4 (some .long), Cond.constantLong RX5 60 (2), Cond.methodLink RX5 180 yX5_writeOff, Cond.instanceMethod yX5_writeOff, Cond.selects RX5 yX5_writeOff yX5_writeOff, Cond.code yX5_writeOff cX5_writeOff 5 none, Cond.fieldLink RX5 23 "AgedAssetsModel" "methods" "[I", Cond.fieldLink RX5 29 "AgedAssetsModel" "used" "[I", Cond.methodLink RX5 155 yX5_declining, Cond.instanceMethod yX5_declining, Cond.selects RX5 yX5_declining yX5_declining, Cond.code yX5_declining cX5_declining 11 (some .long), Cond.methodLink RX5 159 yX5_together, Cond.instanceMethod yX5_together, Cond.selects RX5 yX5_together yX5_together, Cond.code yX5_together cX5_together 4 (some .long)]
def wsX5_go : List Cond := .code yX5_go cX5_go 7 (some .int) :: ((wsX5_go_r1 ++ (wsX5_go_r2 ++ (wsX5_go_r3 ++ wsX5_go_r4))) ++ wsX50)
def wsX5_reckon_r1 : List Cond := [Cond.fieldLink RX5 116 "AgedAssetsModel" "bad" "I", Cond.methodLink RX5 184 yX5_go, Cond.instanceMethod yX5_go, Cond.selects RX5 yX5_go yX5_go, Cond.initialized RX5, Cond.code yX5_go cX5_go 7 (some .int), Cond.fieldLink RX5 16 "AgedAssetsModel" "firsts" "[I", Cond.fieldLink RX5 7 "AgedAssetsModel" "costs" "[J", Cond.fieldLink RX5 65 "AgedAssetsModel" "cost" "J", Cond.fieldLink RX5 13 "AgedAssetsModel" "residuals" "[J", Cond.fieldLink RX5 79 "AgedAssetsModel" "residual" "J", Cond.fieldLink RX5 20 "AgedAssetsModel" "lives" "[I", Cond.fieldLink RX5 85 "AgedAssetsModel" "rest" "I", Cond.fieldLink RX5 41 "AgedAssetsModel" "kinds" "[I", Cond.fieldLink RX5 50 "AgedAssetsModel" "before" "[J", Cond.fieldLink RX5 53 "AgedAssetsModel" "behind" "[J", Cond.methodLink RX5 166 yX5_clear, Cond.instanceMethod yX5_clear, Cond.selects RX5 yX5_clear yX5_clear, Cond.code yX5_clear cX5_clear 1 none, Cond.fieldLink RX5 69 "AgedAssetsModel" "allowance" "J", Cond.fieldLink RX5 106 "AgedAssetsModel" "reserve" "J", Cond.fieldLink RX5 109 "AgedAssetsModel" "losses" "J", Cond.fieldLink RX5 134 "AgedAssetsModel" "held" "Z"]
def wsX5_reckon_r2 : List Cond := [Cond.fieldLink RX5 130 "AgedAssetsModel" "gone" "Z", Cond.fieldLink RX5 91 "AgedAssetsModel" "spent" "I", Cond.fieldLink RX5 152 "AgedAssetsModel" "last" "J", Cond.fieldLink RX5 163 "AgedAssetsModel" "sum" "J", Cond.methodLink RX5 169 yX5_stretch, Cond.instanceMethod yX5_stretch, Cond.selects RX5 yX5_stretch yX5_stretch, Cond.code yX5_stretch cX5_stretch 2 none, Cond.fieldLink RX5 82 "AgedAssetsModel" "base" "J", Cond.fieldLink RX5 88 "AgedAssetsModel" "length" "I", Cond.fieldLink RX5 26 "AgedAssetsModel" "rates" "[I", Cond.fieldLink RX5 94 "AgedAssetsModel" "left" "I", Cond.fieldLink RX5 97 "AgedAssetsModel" "charged" "I", Cond.fieldLink RX5 100 "AgedAssetsModel" "stretchUnits" "I", Cond.fieldLink RX5 103 "AgedAssetsModel" "done" "J", Cond.methodLink RX5 75 yX5_book, Cond.instanceMethod yX5_book, Cond.selects RX5 yX5_book yX5_book, Cond.code yX5_book cX5_book 1 (some .long), Cond.methodLink RX5 172 yX5_eventIn, Cond.instanceMethod yX5_eventIn, Cond.selects RX5 yX5_eventIn yX5_eventIn, Cond.code yX5_eventIn cX5_eventIn 5 (some .int), Cond.fieldLink RX5 72 "AgedAssetsModel" "events" "I"]
def wsX5_reckon_r3 : List Cond := [Cond.fieldLink RX5 35 "AgedAssetsModel" "of" "[I", Cond.fieldLink RX5 38 "AgedAssetsModel" "when" "[I", Cond.methodLink RX5 176 yX5_happens, Cond.instanceMethod yX5_happens, Cond.selects RX5 yX5_happens yX5_happens, Cond.code yX5_happens cX5_happens 7 (some .boolean), Cond.fieldLink RX5 44 "AgedAssetsModel" "amounts" "[J", Cond.fieldLink RX5 47 "AgedAssetsModel" "numbers" "[I", Cond.methodLink RX5 137 yX5_values, Cond.instanceMethod yX5_values, Cond.selects RX5 yX5_values yX5_values, Cond.code yX5_values cX5_values 3 none, Cond.methodLink RX5 112 yX5_fall, Cond.instanceMethod yX5_fall, Cond.selects RX5 yX5_fall yX5_fall, Cond.code yX5_fall cX5_fall 5 none, Cond.methodLink RX5 140 yX5_impairs, Cond.instanceMethod yX5_impairs, Cond.selects RX5 yX5_impairs yX5_impairs, Cond.code yX5_impairs cX5_impairs 3 (some .boolean), Cond.methodLink RX5 144 yX5_restores, Cond.instanceMethod yX5_restores, Cond.selects RX5 yX5_restores yX5_restores, Cond.code yX5_restores cX5_restores 6 (some .boolean)]
def wsX5_reckon_r4 : List Cond := [Cond.methodLink RX5 148 yX5_sells, Cond.instanceMethod yX5_sells, Cond.selects RX5 yX5_sells yX5_sells, Cond.code yX5_sells cX5_sells 2 none, Cond.constant RX5 129 (1000000), Cond.methodLink RX5 125 yX5_less, Cond.static yX5_less, Cond.code yX5_less cX5_less 3 (some .long), Cond.constantLong RX5 119 (1000000), Cond.methodLink RX5 121 yX5_rounded, Cond.static yX5_rounded, Cond.code yX5_rounded cX5_rounded 4 (some .long), Cond.constantLong RX5 60 (2), Cond.methodLink RX5 180 yX5_writeOff, Cond.instanceMethod yX5_writeOff, Cond.selects RX5 yX5_writeOff yX5_writeOff, Cond.code yX5_writeOff cX5_writeOff 5 none, Cond.fieldLink RX5 23 "AgedAssetsModel" "methods" "[I", Cond.fieldLink RX5 29 "AgedAssetsModel" "used" "[I", Cond.methodLink RX5 155 yX5_declining, Cond.instanceMethod yX5_declining, Cond.selects RX5 yX5_declining yX5_declining, Cond.code yX5_declining cX5_declining 11 (some .long), Cond.methodLink RX5 159 yX5_together]
def wsX5_reckon_r5 : List Cond := [Cond.instanceMethod yX5_together, Cond.selects RX5 yX5_together yX5_together, Cond.code yX5_together cX5_together 4 (some .long)]
def wsX5_reckon : List Cond := .code yX5_reckon cX5_reckon 3 (some .boolean) :: ((wsX5_reckon_r1 ++ (wsX5_reckon_r2 ++ (wsX5_reckon_r3 ++ (wsX5_reckon_r4 ++ wsX5_reckon_r5)))) ++ wsX50)
def wsX5_part : List Cond := .code yX5_part cX5_part 10 (some .int) :: ([.constantLong RX5 188 (1000000000), .constantLong RX5 198 (36), .constantLong RX5 200 (3), .constantLong RX5 119 (1000000), .fieldLink RX5 62 "AgedAssetsModel" "parts" "I", .fieldLink RX5 56 "AgedAssetsModel" "code" "I", .fieldLink RX5 7 "AgedAssetsModel" "costs" "[J", .fieldLink RX5 13 "AgedAssetsModel" "residuals" "[J", .fieldLink RX5 16 "AgedAssetsModel" "firsts" "[I", .fieldLink RX5 20 "AgedAssetsModel" "lives" "[I", .fieldLink RX5 23 "AgedAssetsModel" "methods" "[I", .fieldLink RX5 26 "AgedAssetsModel" "rates" "[I", .methodLink RX5 190 yX5_isIn, .static yX5_isIn, .initialized RX5, .code yX5_isIn cX5_isIn 6 (some .boolean), .methodLink RX5 194 yX5_isMonth, .static yX5_isMonth, .code yX5_isMonth cX5_isMonth 1 (some .boolean)] ++ wsX50)
def wsX5_units_r1 : List Cond := [Cond.constantLong RX5 119 (1000000), Cond.fieldLink RX5 56 "AgedAssetsModel" "code" "I", Cond.fieldLink RX5 29 "AgedAssetsModel" "used" "[I", Cond.methodLink RX5 202 yX5_isPart, Cond.instanceMethod yX5_isPart, Cond.selects RX5 yX5_isPart yX5_isPart, Cond.initialized RX5, Cond.code yX5_isPart cX5_isPart 2 (some .boolean), Cond.fieldLink RX5 62 "AgedAssetsModel" "parts" "I", Cond.methodLink RX5 194 yX5_isMonth, Cond.static yX5_isMonth, Cond.code yX5_isMonth cX5_isMonth 1 (some .boolean), Cond.methodLink RX5 190 yX5_isIn, Cond.static yX5_isIn, Cond.code yX5_isIn cX5_isIn 6 (some .boolean), Cond.methodLink RX5 205 yX5_reckon, Cond.instanceMethod yX5_reckon, Cond.selects RX5 yX5_reckon yX5_reckon, Cond.code yX5_reckon cX5_reckon 3 (some .boolean), Cond.fieldLink RX5 116 "AgedAssetsModel" "bad" "I", Cond.methodLink RX5 184 yX5_go, Cond.instanceMethod yX5_go, Cond.selects RX5 yX5_go yX5_go, Cond.code yX5_go cX5_go 7 (some .int)]
def wsX5_units_r2 : List Cond := [Cond.fieldLink RX5 16 "AgedAssetsModel" "firsts" "[I", Cond.fieldLink RX5 7 "AgedAssetsModel" "costs" "[J", Cond.fieldLink RX5 65 "AgedAssetsModel" "cost" "J", Cond.fieldLink RX5 13 "AgedAssetsModel" "residuals" "[J", Cond.fieldLink RX5 79 "AgedAssetsModel" "residual" "J", Cond.fieldLink RX5 20 "AgedAssetsModel" "lives" "[I", Cond.fieldLink RX5 85 "AgedAssetsModel" "rest" "I", Cond.fieldLink RX5 41 "AgedAssetsModel" "kinds" "[I", Cond.fieldLink RX5 50 "AgedAssetsModel" "before" "[J", Cond.fieldLink RX5 53 "AgedAssetsModel" "behind" "[J", Cond.methodLink RX5 166 yX5_clear, Cond.instanceMethod yX5_clear, Cond.selects RX5 yX5_clear yX5_clear, Cond.code yX5_clear cX5_clear 1 none, Cond.fieldLink RX5 69 "AgedAssetsModel" "allowance" "J", Cond.fieldLink RX5 106 "AgedAssetsModel" "reserve" "J", Cond.fieldLink RX5 109 "AgedAssetsModel" "losses" "J", Cond.fieldLink RX5 134 "AgedAssetsModel" "held" "Z", Cond.fieldLink RX5 130 "AgedAssetsModel" "gone" "Z", Cond.fieldLink RX5 91 "AgedAssetsModel" "spent" "I", Cond.fieldLink RX5 152 "AgedAssetsModel" "last" "J", Cond.fieldLink RX5 163 "AgedAssetsModel" "sum" "J", Cond.methodLink RX5 169 yX5_stretch, Cond.instanceMethod yX5_stretch]
def wsX5_units_r3 : List Cond := [Cond.selects RX5 yX5_stretch yX5_stretch, Cond.code yX5_stretch cX5_stretch 2 none, Cond.fieldLink RX5 82 "AgedAssetsModel" "base" "J", Cond.fieldLink RX5 88 "AgedAssetsModel" "length" "I", Cond.fieldLink RX5 26 "AgedAssetsModel" "rates" "[I", Cond.fieldLink RX5 94 "AgedAssetsModel" "left" "I", Cond.fieldLink RX5 97 "AgedAssetsModel" "charged" "I", Cond.fieldLink RX5 100 "AgedAssetsModel" "stretchUnits" "I", Cond.fieldLink RX5 103 "AgedAssetsModel" "done" "J", Cond.methodLink RX5 75 yX5_book, Cond.instanceMethod yX5_book, Cond.selects RX5 yX5_book yX5_book, Cond.code yX5_book cX5_book 1 (some .long), Cond.methodLink RX5 172 yX5_eventIn, Cond.instanceMethod yX5_eventIn, Cond.selects RX5 yX5_eventIn yX5_eventIn, Cond.code yX5_eventIn cX5_eventIn 5 (some .int), Cond.fieldLink RX5 72 "AgedAssetsModel" "events" "I", Cond.fieldLink RX5 35 "AgedAssetsModel" "of" "[I", Cond.fieldLink RX5 38 "AgedAssetsModel" "when" "[I", Cond.methodLink RX5 176 yX5_happens, Cond.instanceMethod yX5_happens, Cond.selects RX5 yX5_happens yX5_happens, Cond.code yX5_happens cX5_happens 7 (some .boolean)]
def wsX5_units_r4 : List Cond := [Cond.fieldLink RX5 44 "AgedAssetsModel" "amounts" "[J", Cond.fieldLink RX5 47 "AgedAssetsModel" "numbers" "[I", Cond.methodLink RX5 137 yX5_values, Cond.instanceMethod yX5_values, Cond.selects RX5 yX5_values yX5_values, Cond.code yX5_values cX5_values 3 none, Cond.methodLink RX5 112 yX5_fall, Cond.instanceMethod yX5_fall, Cond.selects RX5 yX5_fall yX5_fall, Cond.code yX5_fall cX5_fall 5 none, Cond.methodLink RX5 140 yX5_impairs, Cond.instanceMethod yX5_impairs, Cond.selects RX5 yX5_impairs yX5_impairs, Cond.code yX5_impairs cX5_impairs 3 (some .boolean), Cond.methodLink RX5 144 yX5_restores, Cond.instanceMethod yX5_restores, Cond.selects RX5 yX5_restores yX5_restores, Cond.code yX5_restores cX5_restores 6 (some .boolean), Cond.methodLink RX5 148 yX5_sells, Cond.instanceMethod yX5_sells, Cond.selects RX5 yX5_sells yX5_sells, Cond.code yX5_sells cX5_sells 2 none, Cond.constant RX5 129 (1000000), Cond.methodLink RX5 125 yX5_less]
def wsX5_units_r5 : List Cond := [Cond.static yX5_less, Cond.code yX5_less cX5_less 3 (some .long), Cond.methodLink RX5 121 yX5_rounded, Cond.static yX5_rounded, Cond.code yX5_rounded cX5_rounded 4 (some .long), Cond.constantLong RX5 60 (2), Cond.methodLink RX5 180 yX5_writeOff, Cond.instanceMethod yX5_writeOff, Cond.selects RX5 yX5_writeOff yX5_writeOff, Cond.code yX5_writeOff cX5_writeOff 5 none, Cond.fieldLink RX5 23 "AgedAssetsModel" "methods" "[I", Cond.methodLink RX5 155 yX5_declining, Cond.instanceMethod yX5_declining, Cond.selects RX5 yX5_declining yX5_declining, Cond.code yX5_declining cX5_declining 11 (some .long), Cond.methodLink RX5 159 yX5_together, Cond.instanceMethod yX5_together, Cond.selects RX5 yX5_together yX5_together, Cond.code yX5_together cX5_together 4 (some .long)]
def wsX5_units : List Cond := .code yX5_units cX5_units 5 (some .int) :: ((wsX5_units_r1 ++ (wsX5_units_r2 ++ (wsX5_units_r3 ++ (wsX5_units_r4 ++ wsX5_units_r5)))) ++ wsX50)
def wsX5_countOf : List Cond := .code yX5_countOf cX5_countOf 4 (some .int) :: ([.fieldLink RX5 72 "AgedAssetsModel" "events" "I", .fieldLink RX5 35 "AgedAssetsModel" "of" "[I"] ++ wsX50)
def wsX5_event_r1 : List Cond := [Cond.fieldLink RX5 16 "AgedAssetsModel" "firsts" "[I", Cond.constantLong RX5 208 (7), Cond.constantLong RX5 188 (1000000000), Cond.constantLong RX5 198 (36), Cond.constantLong RX5 119 (1000000), Cond.fieldLink RX5 72 "AgedAssetsModel" "events" "I", Cond.fieldLink RX5 56 "AgedAssetsModel" "code" "I", Cond.fieldLink RX5 35 "AgedAssetsModel" "of" "[I", Cond.fieldLink RX5 38 "AgedAssetsModel" "when" "[I", Cond.fieldLink RX5 41 "AgedAssetsModel" "kinds" "[I", Cond.fieldLink RX5 44 "AgedAssetsModel" "amounts" "[J", Cond.fieldLink RX5 47 "AgedAssetsModel" "numbers" "[I", Cond.methodLink RX5 202 yX5_isPart, Cond.instanceMethod yX5_isPart, Cond.selects RX5 yX5_isPart yX5_isPart, Cond.initialized RX5, Cond.code yX5_isPart cX5_isPart 2 (some .boolean), Cond.fieldLink RX5 62 "AgedAssetsModel" "parts" "I", Cond.methodLink RX5 194 yX5_isMonth, Cond.static yX5_isMonth, Cond.code yX5_isMonth cX5_isMonth 1 (some .boolean), Cond.methodLink RX5 190 yX5_isIn, Cond.static yX5_isIn, Cond.code yX5_isIn cX5_isIn 6 (some .boolean)]
def wsX5_event_r2 : List Cond := [Cond.methodLink RX5 172 yX5_eventIn, Cond.instanceMethod yX5_eventIn, Cond.selects RX5 yX5_eventIn yX5_eventIn, Cond.code yX5_eventIn cX5_eventIn 5 (some .int), Cond.methodLink RX5 210 yX5_countOf, Cond.instanceMethod yX5_countOf, Cond.selects RX5 yX5_countOf yX5_countOf, Cond.code yX5_countOf cX5_countOf 4 (some .int), Cond.methodLink RX5 205 yX5_reckon, Cond.instanceMethod yX5_reckon, Cond.selects RX5 yX5_reckon yX5_reckon, Cond.code yX5_reckon cX5_reckon 3 (some .boolean), Cond.fieldLink RX5 116 "AgedAssetsModel" "bad" "I", Cond.methodLink RX5 184 yX5_go, Cond.instanceMethod yX5_go, Cond.selects RX5 yX5_go yX5_go, Cond.code yX5_go cX5_go 7 (some .int), Cond.fieldLink RX5 7 "AgedAssetsModel" "costs" "[J", Cond.fieldLink RX5 65 "AgedAssetsModel" "cost" "J", Cond.fieldLink RX5 13 "AgedAssetsModel" "residuals" "[J", Cond.fieldLink RX5 79 "AgedAssetsModel" "residual" "J", Cond.fieldLink RX5 20 "AgedAssetsModel" "lives" "[I", Cond.fieldLink RX5 85 "AgedAssetsModel" "rest" "I", Cond.fieldLink RX5 50 "AgedAssetsModel" "before" "[J"]
def wsX5_event_r3 : List Cond := [Cond.fieldLink RX5 53 "AgedAssetsModel" "behind" "[J", Cond.methodLink RX5 166 yX5_clear, Cond.instanceMethod yX5_clear, Cond.selects RX5 yX5_clear yX5_clear, Cond.code yX5_clear cX5_clear 1 none, Cond.fieldLink RX5 69 "AgedAssetsModel" "allowance" "J", Cond.fieldLink RX5 106 "AgedAssetsModel" "reserve" "J", Cond.fieldLink RX5 109 "AgedAssetsModel" "losses" "J", Cond.fieldLink RX5 134 "AgedAssetsModel" "held" "Z", Cond.fieldLink RX5 130 "AgedAssetsModel" "gone" "Z", Cond.fieldLink RX5 91 "AgedAssetsModel" "spent" "I", Cond.fieldLink RX5 152 "AgedAssetsModel" "last" "J", Cond.fieldLink RX5 163 "AgedAssetsModel" "sum" "J", Cond.methodLink RX5 169 yX5_stretch, Cond.instanceMethod yX5_stretch, Cond.selects RX5 yX5_stretch yX5_stretch, Cond.code yX5_stretch cX5_stretch 2 none, Cond.fieldLink RX5 82 "AgedAssetsModel" "base" "J", Cond.fieldLink RX5 88 "AgedAssetsModel" "length" "I", Cond.fieldLink RX5 26 "AgedAssetsModel" "rates" "[I", Cond.fieldLink RX5 94 "AgedAssetsModel" "left" "I", Cond.fieldLink RX5 97 "AgedAssetsModel" "charged" "I", Cond.fieldLink RX5 100 "AgedAssetsModel" "stretchUnits" "I", Cond.fieldLink RX5 103 "AgedAssetsModel" "done" "J"]
def wsX5_event_r4 : List Cond := [Cond.methodLink RX5 75 yX5_book, Cond.instanceMethod yX5_book, Cond.selects RX5 yX5_book yX5_book, Cond.code yX5_book cX5_book 1 (some .long), Cond.methodLink RX5 176 yX5_happens, Cond.instanceMethod yX5_happens, Cond.selects RX5 yX5_happens yX5_happens, Cond.code yX5_happens cX5_happens 7 (some .boolean), Cond.methodLink RX5 137 yX5_values, Cond.instanceMethod yX5_values, Cond.selects RX5 yX5_values yX5_values, Cond.code yX5_values cX5_values 3 none, Cond.methodLink RX5 112 yX5_fall, Cond.instanceMethod yX5_fall, Cond.selects RX5 yX5_fall yX5_fall, Cond.code yX5_fall cX5_fall 5 none, Cond.methodLink RX5 140 yX5_impairs, Cond.instanceMethod yX5_impairs, Cond.selects RX5 yX5_impairs yX5_impairs, Cond.code yX5_impairs cX5_impairs 3 (some .boolean), Cond.methodLink RX5 144 yX5_restores, Cond.instanceMethod yX5_restores, Cond.selects RX5 yX5_restores yX5_restores, Cond.code yX5_restores cX5_restores 6 (some .boolean)]
def wsX5_event_r5 : List Cond := [Cond.methodLink RX5 148 yX5_sells, Cond.instanceMethod yX5_sells, Cond.selects RX5 yX5_sells yX5_sells, Cond.code yX5_sells cX5_sells 2 none, Cond.constant RX5 129 (1000000), Cond.methodLink RX5 125 yX5_less, Cond.static yX5_less, Cond.code yX5_less cX5_less 3 (some .long), Cond.methodLink RX5 121 yX5_rounded, Cond.static yX5_rounded, Cond.code yX5_rounded cX5_rounded 4 (some .long), Cond.constantLong RX5 60 (2), Cond.methodLink RX5 180 yX5_writeOff, Cond.instanceMethod yX5_writeOff, Cond.selects RX5 yX5_writeOff yX5_writeOff, Cond.code yX5_writeOff cX5_writeOff 5 none, Cond.fieldLink RX5 23 "AgedAssetsModel" "methods" "[I", Cond.fieldLink RX5 29 "AgedAssetsModel" "used" "[I", Cond.methodLink RX5 155 yX5_declining, Cond.instanceMethod yX5_declining, Cond.selects RX5 yX5_declining yX5_declining, Cond.code yX5_declining cX5_declining 11 (some .long), Cond.methodLink RX5 159 yX5_together, Cond.instanceMethod yX5_together]
def wsX5_event_r6 : List Cond := [Cond.selects RX5 yX5_together yX5_together, Cond.code yX5_together cX5_together 4 (some .long)]
def wsX5_event : List Cond := .code yX5_event cX5_event 8 (some .int) :: ((wsX5_event_r1 ++ (wsX5_event_r2 ++ (wsX5_event_r3 ++ (wsX5_event_r4 ++ (wsX5_event_r5 ++ wsX5_event_r6))))) ++ wsX50)
def wsX5_isEvent : List Cond := .code yX5_isEvent cX5_isEvent 2 (some .boolean) :: ([.fieldLink RX5 72 "AgedAssetsModel" "events" "I", .fieldLink RX5 35 "AgedAssetsModel" "of" "[I"] ++ wsX50)
def wsX5_strike_r1 : List Cond := [Cond.fieldLink RX5 56 "AgedAssetsModel" "code" "I", Cond.fieldLink RX5 35 "AgedAssetsModel" "of" "[I", Cond.methodLink RX5 214 yX5_isEvent, Cond.instanceMethod yX5_isEvent, Cond.selects RX5 yX5_isEvent yX5_isEvent, Cond.initialized RX5, Cond.code yX5_isEvent cX5_isEvent 2 (some .boolean), Cond.fieldLink RX5 72 "AgedAssetsModel" "events" "I", Cond.methodLink RX5 205 yX5_reckon, Cond.instanceMethod yX5_reckon, Cond.selects RX5 yX5_reckon yX5_reckon, Cond.code yX5_reckon cX5_reckon 3 (some .boolean), Cond.fieldLink RX5 116 "AgedAssetsModel" "bad" "I", Cond.methodLink RX5 184 yX5_go, Cond.instanceMethod yX5_go, Cond.selects RX5 yX5_go yX5_go, Cond.code yX5_go cX5_go 7 (some .int), Cond.fieldLink RX5 16 "AgedAssetsModel" "firsts" "[I", Cond.fieldLink RX5 7 "AgedAssetsModel" "costs" "[J", Cond.fieldLink RX5 65 "AgedAssetsModel" "cost" "J", Cond.fieldLink RX5 13 "AgedAssetsModel" "residuals" "[J", Cond.fieldLink RX5 79 "AgedAssetsModel" "residual" "J", Cond.fieldLink RX5 20 "AgedAssetsModel" "lives" "[I", Cond.fieldLink RX5 85 "AgedAssetsModel" "rest" "I"]
def wsX5_strike_r2 : List Cond := [Cond.fieldLink RX5 41 "AgedAssetsModel" "kinds" "[I", Cond.fieldLink RX5 50 "AgedAssetsModel" "before" "[J", Cond.fieldLink RX5 53 "AgedAssetsModel" "behind" "[J", Cond.methodLink RX5 166 yX5_clear, Cond.instanceMethod yX5_clear, Cond.selects RX5 yX5_clear yX5_clear, Cond.code yX5_clear cX5_clear 1 none, Cond.fieldLink RX5 69 "AgedAssetsModel" "allowance" "J", Cond.fieldLink RX5 106 "AgedAssetsModel" "reserve" "J", Cond.fieldLink RX5 109 "AgedAssetsModel" "losses" "J", Cond.fieldLink RX5 134 "AgedAssetsModel" "held" "Z", Cond.fieldLink RX5 130 "AgedAssetsModel" "gone" "Z", Cond.fieldLink RX5 91 "AgedAssetsModel" "spent" "I", Cond.fieldLink RX5 152 "AgedAssetsModel" "last" "J", Cond.fieldLink RX5 163 "AgedAssetsModel" "sum" "J", Cond.methodLink RX5 169 yX5_stretch, Cond.instanceMethod yX5_stretch, Cond.selects RX5 yX5_stretch yX5_stretch, Cond.code yX5_stretch cX5_stretch 2 none, Cond.fieldLink RX5 82 "AgedAssetsModel" "base" "J", Cond.fieldLink RX5 88 "AgedAssetsModel" "length" "I", Cond.fieldLink RX5 26 "AgedAssetsModel" "rates" "[I", Cond.fieldLink RX5 94 "AgedAssetsModel" "left" "I", Cond.fieldLink RX5 97 "AgedAssetsModel" "charged" "I"]
def wsX5_strike_r3 : List Cond := [Cond.fieldLink RX5 100 "AgedAssetsModel" "stretchUnits" "I", Cond.fieldLink RX5 103 "AgedAssetsModel" "done" "J", Cond.methodLink RX5 75 yX5_book, Cond.instanceMethod yX5_book, Cond.selects RX5 yX5_book yX5_book, Cond.code yX5_book cX5_book 1 (some .long), Cond.methodLink RX5 172 yX5_eventIn, Cond.instanceMethod yX5_eventIn, Cond.selects RX5 yX5_eventIn yX5_eventIn, Cond.code yX5_eventIn cX5_eventIn 5 (some .int), Cond.fieldLink RX5 38 "AgedAssetsModel" "when" "[I", Cond.methodLink RX5 176 yX5_happens, Cond.instanceMethod yX5_happens, Cond.selects RX5 yX5_happens yX5_happens, Cond.code yX5_happens cX5_happens 7 (some .boolean), Cond.fieldLink RX5 44 "AgedAssetsModel" "amounts" "[J", Cond.fieldLink RX5 47 "AgedAssetsModel" "numbers" "[I", Cond.methodLink RX5 137 yX5_values, Cond.instanceMethod yX5_values, Cond.selects RX5 yX5_values yX5_values, Cond.code yX5_values cX5_values 3 none, Cond.methodLink RX5 112 yX5_fall, Cond.instanceMethod yX5_fall, Cond.selects RX5 yX5_fall yX5_fall]
def wsX5_strike_r4 : List Cond := [Cond.code yX5_fall cX5_fall 5 none, Cond.methodLink RX5 140 yX5_impairs, Cond.instanceMethod yX5_impairs, Cond.selects RX5 yX5_impairs yX5_impairs, Cond.code yX5_impairs cX5_impairs 3 (some .boolean), Cond.methodLink RX5 144 yX5_restores, Cond.instanceMethod yX5_restores, Cond.selects RX5 yX5_restores yX5_restores, Cond.code yX5_restores cX5_restores 6 (some .boolean), Cond.methodLink RX5 148 yX5_sells, Cond.instanceMethod yX5_sells, Cond.selects RX5 yX5_sells yX5_sells, Cond.code yX5_sells cX5_sells 2 none, Cond.constant RX5 129 (1000000), Cond.methodLink RX5 125 yX5_less, Cond.static yX5_less, Cond.code yX5_less cX5_less 3 (some .long), Cond.constantLong RX5 119 (1000000), Cond.methodLink RX5 121 yX5_rounded, Cond.static yX5_rounded, Cond.code yX5_rounded cX5_rounded 4 (some .long), Cond.constantLong RX5 60 (2), Cond.methodLink RX5 180 yX5_writeOff, Cond.instanceMethod yX5_writeOff]
def wsX5_strike_r5 : List Cond := [Cond.selects RX5 yX5_writeOff yX5_writeOff, Cond.code yX5_writeOff cX5_writeOff 5 none, Cond.fieldLink RX5 23 "AgedAssetsModel" "methods" "[I", Cond.fieldLink RX5 29 "AgedAssetsModel" "used" "[I", Cond.methodLink RX5 155 yX5_declining, Cond.instanceMethod yX5_declining, Cond.selects RX5 yX5_declining yX5_declining, Cond.code yX5_declining cX5_declining 11 (some .long), Cond.methodLink RX5 159 yX5_together, Cond.instanceMethod yX5_together, Cond.selects RX5 yX5_together yX5_together, Cond.code yX5_together cX5_together 4 (some .long)]
def wsX5_strike : List Cond := .code yX5_strike cX5_strike 4 (some .boolean) :: ((wsX5_strike_r1 ++ (wsX5_strike_r2 ++ (wsX5_strike_r3 ++ (wsX5_strike_r4 ++ wsX5_strike_r5)))) ++ wsX50)
def wsX5_told : List Cond := .code yX5_told cX5_told 3 (some .int) :: ([.fieldLink RX5 56 "AgedAssetsModel" "code" "I", .fieldLink RX5 35 "AgedAssetsModel" "of" "[I", .fieldLink RX5 38 "AgedAssetsModel" "when" "[I", .fieldLink RX5 41 "AgedAssetsModel" "kinds" "[I", .fieldLink RX5 47 "AgedAssetsModel" "numbers" "[I", .methodLink RX5 214 yX5_isEvent, .instanceMethod yX5_isEvent, .selects RX5 yX5_isEvent yX5_isEvent, .initialized RX5, .code yX5_isEvent cX5_isEvent 2 (some .boolean), .fieldLink RX5 72 "AgedAssetsModel" "events" "I"] ++ wsX50)
def wsX5_value_r1 : List Cond := [Cond.fieldLink RX5 56 "AgedAssetsModel" "code" "I", Cond.fieldLink RX5 65 "AgedAssetsModel" "cost" "J", Cond.fieldLink RX5 69 "AgedAssetsModel" "allowance" "J", Cond.fieldLink RX5 106 "AgedAssetsModel" "reserve" "J", Cond.fieldLink RX5 109 "AgedAssetsModel" "losses" "J", Cond.fieldLink RX5 79 "AgedAssetsModel" "residual" "J", Cond.fieldLink RX5 85 "AgedAssetsModel" "rest" "I", Cond.methodLink RX5 202 yX5_isPart, Cond.instanceMethod yX5_isPart, Cond.selects RX5 yX5_isPart yX5_isPart, Cond.initialized RX5, Cond.code yX5_isPart cX5_isPart 2 (some .boolean), Cond.fieldLink RX5 62 "AgedAssetsModel" "parts" "I", Cond.methodLink RX5 194 yX5_isMonth, Cond.static yX5_isMonth, Cond.code yX5_isMonth cX5_isMonth 1 (some .boolean), Cond.methodLink RX5 205 yX5_reckon, Cond.instanceMethod yX5_reckon, Cond.selects RX5 yX5_reckon yX5_reckon, Cond.code yX5_reckon cX5_reckon 3 (some .boolean), Cond.fieldLink RX5 116 "AgedAssetsModel" "bad" "I", Cond.methodLink RX5 184 yX5_go, Cond.instanceMethod yX5_go, Cond.selects RX5 yX5_go yX5_go]
def wsX5_value_r2 : List Cond := [Cond.code yX5_go cX5_go 7 (some .int), Cond.fieldLink RX5 16 "AgedAssetsModel" "firsts" "[I", Cond.fieldLink RX5 7 "AgedAssetsModel" "costs" "[J", Cond.fieldLink RX5 13 "AgedAssetsModel" "residuals" "[J", Cond.fieldLink RX5 20 "AgedAssetsModel" "lives" "[I", Cond.fieldLink RX5 41 "AgedAssetsModel" "kinds" "[I", Cond.fieldLink RX5 50 "AgedAssetsModel" "before" "[J", Cond.fieldLink RX5 53 "AgedAssetsModel" "behind" "[J", Cond.methodLink RX5 166 yX5_clear, Cond.instanceMethod yX5_clear, Cond.selects RX5 yX5_clear yX5_clear, Cond.code yX5_clear cX5_clear 1 none, Cond.fieldLink RX5 134 "AgedAssetsModel" "held" "Z", Cond.fieldLink RX5 130 "AgedAssetsModel" "gone" "Z", Cond.fieldLink RX5 91 "AgedAssetsModel" "spent" "I", Cond.fieldLink RX5 152 "AgedAssetsModel" "last" "J", Cond.fieldLink RX5 163 "AgedAssetsModel" "sum" "J", Cond.methodLink RX5 169 yX5_stretch, Cond.instanceMethod yX5_stretch, Cond.selects RX5 yX5_stretch yX5_stretch, Cond.code yX5_stretch cX5_stretch 2 none, Cond.fieldLink RX5 82 "AgedAssetsModel" "base" "J", Cond.fieldLink RX5 88 "AgedAssetsModel" "length" "I", Cond.fieldLink RX5 26 "AgedAssetsModel" "rates" "[I"]
def wsX5_value_r3 : List Cond := [Cond.fieldLink RX5 94 "AgedAssetsModel" "left" "I", Cond.fieldLink RX5 97 "AgedAssetsModel" "charged" "I", Cond.fieldLink RX5 100 "AgedAssetsModel" "stretchUnits" "I", Cond.fieldLink RX5 103 "AgedAssetsModel" "done" "J", Cond.methodLink RX5 75 yX5_book, Cond.instanceMethod yX5_book, Cond.selects RX5 yX5_book yX5_book, Cond.code yX5_book cX5_book 1 (some .long), Cond.methodLink RX5 172 yX5_eventIn, Cond.instanceMethod yX5_eventIn, Cond.selects RX5 yX5_eventIn yX5_eventIn, Cond.code yX5_eventIn cX5_eventIn 5 (some .int), Cond.fieldLink RX5 72 "AgedAssetsModel" "events" "I", Cond.fieldLink RX5 35 "AgedAssetsModel" "of" "[I", Cond.fieldLink RX5 38 "AgedAssetsModel" "when" "[I", Cond.methodLink RX5 176 yX5_happens, Cond.instanceMethod yX5_happens, Cond.selects RX5 yX5_happens yX5_happens, Cond.code yX5_happens cX5_happens 7 (some .boolean), Cond.fieldLink RX5 44 "AgedAssetsModel" "amounts" "[J", Cond.fieldLink RX5 47 "AgedAssetsModel" "numbers" "[I", Cond.methodLink RX5 137 yX5_values, Cond.instanceMethod yX5_values, Cond.selects RX5 yX5_values yX5_values]
def wsX5_value_r4 : List Cond := [Cond.code yX5_values cX5_values 3 none, Cond.methodLink RX5 112 yX5_fall, Cond.instanceMethod yX5_fall, Cond.selects RX5 yX5_fall yX5_fall, Cond.code yX5_fall cX5_fall 5 none, Cond.methodLink RX5 140 yX5_impairs, Cond.instanceMethod yX5_impairs, Cond.selects RX5 yX5_impairs yX5_impairs, Cond.code yX5_impairs cX5_impairs 3 (some .boolean), Cond.methodLink RX5 144 yX5_restores, Cond.instanceMethod yX5_restores, Cond.selects RX5 yX5_restores yX5_restores, Cond.code yX5_restores cX5_restores 6 (some .boolean), Cond.methodLink RX5 148 yX5_sells, Cond.instanceMethod yX5_sells, Cond.selects RX5 yX5_sells yX5_sells, Cond.code yX5_sells cX5_sells 2 none, Cond.constant RX5 129 (1000000), Cond.methodLink RX5 125 yX5_less, Cond.static yX5_less, Cond.code yX5_less cX5_less 3 (some .long), Cond.constantLong RX5 119 (1000000), Cond.methodLink RX5 121 yX5_rounded, Cond.static yX5_rounded]
def wsX5_value_r5 : List Cond := [Cond.code yX5_rounded cX5_rounded 4 (some .long), Cond.constantLong RX5 60 (2), Cond.methodLink RX5 180 yX5_writeOff, Cond.instanceMethod yX5_writeOff, Cond.selects RX5 yX5_writeOff yX5_writeOff, Cond.code yX5_writeOff cX5_writeOff 5 none, Cond.fieldLink RX5 23 "AgedAssetsModel" "methods" "[I", Cond.fieldLink RX5 29 "AgedAssetsModel" "used" "[I", Cond.methodLink RX5 155 yX5_declining, Cond.instanceMethod yX5_declining, Cond.selects RX5 yX5_declining yX5_declining, Cond.code yX5_declining cX5_declining 11 (some .long), Cond.methodLink RX5 159 yX5_together, Cond.instanceMethod yX5_together, Cond.selects RX5 yX5_together yX5_together, Cond.code yX5_together cX5_together 4 (some .long)]
def wsX5_value : List Cond := .code yX5_value cX5_value 4 (some .long) :: ((wsX5_value_r1 ++ (wsX5_value_r2 ++ (wsX5_value_r3 ++ (wsX5_value_r4 ++ wsX5_value_r5)))) ++ wsX50)
def wsX5_charge_r1 : List Cond := [Cond.fieldLink RX5 56 "AgedAssetsModel" "code" "I", Cond.fieldLink RX5 152 "AgedAssetsModel" "last" "J", Cond.methodLink RX5 202 yX5_isPart, Cond.instanceMethod yX5_isPart, Cond.selects RX5 yX5_isPart yX5_isPart, Cond.initialized RX5, Cond.code yX5_isPart cX5_isPart 2 (some .boolean), Cond.fieldLink RX5 62 "AgedAssetsModel" "parts" "I", Cond.methodLink RX5 194 yX5_isMonth, Cond.static yX5_isMonth, Cond.code yX5_isMonth cX5_isMonth 1 (some .boolean), Cond.methodLink RX5 205 yX5_reckon, Cond.instanceMethod yX5_reckon, Cond.selects RX5 yX5_reckon yX5_reckon, Cond.code yX5_reckon cX5_reckon 3 (some .boolean), Cond.fieldLink RX5 116 "AgedAssetsModel" "bad" "I", Cond.methodLink RX5 184 yX5_go, Cond.instanceMethod yX5_go, Cond.selects RX5 yX5_go yX5_go, Cond.code yX5_go cX5_go 7 (some .int), Cond.fieldLink RX5 16 "AgedAssetsModel" "firsts" "[I", Cond.fieldLink RX5 7 "AgedAssetsModel" "costs" "[J", Cond.fieldLink RX5 65 "AgedAssetsModel" "cost" "J", Cond.fieldLink RX5 13 "AgedAssetsModel" "residuals" "[J"]
def wsX5_charge_r2 : List Cond := [Cond.fieldLink RX5 79 "AgedAssetsModel" "residual" "J", Cond.fieldLink RX5 20 "AgedAssetsModel" "lives" "[I", Cond.fieldLink RX5 85 "AgedAssetsModel" "rest" "I", Cond.fieldLink RX5 41 "AgedAssetsModel" "kinds" "[I", Cond.fieldLink RX5 50 "AgedAssetsModel" "before" "[J", Cond.fieldLink RX5 53 "AgedAssetsModel" "behind" "[J", Cond.methodLink RX5 166 yX5_clear, Cond.instanceMethod yX5_clear, Cond.selects RX5 yX5_clear yX5_clear, Cond.code yX5_clear cX5_clear 1 none, Cond.fieldLink RX5 69 "AgedAssetsModel" "allowance" "J", Cond.fieldLink RX5 106 "AgedAssetsModel" "reserve" "J", Cond.fieldLink RX5 109 "AgedAssetsModel" "losses" "J", Cond.fieldLink RX5 134 "AgedAssetsModel" "held" "Z", Cond.fieldLink RX5 130 "AgedAssetsModel" "gone" "Z", Cond.fieldLink RX5 91 "AgedAssetsModel" "spent" "I", Cond.fieldLink RX5 163 "AgedAssetsModel" "sum" "J", Cond.methodLink RX5 169 yX5_stretch, Cond.instanceMethod yX5_stretch, Cond.selects RX5 yX5_stretch yX5_stretch, Cond.code yX5_stretch cX5_stretch 2 none, Cond.fieldLink RX5 82 "AgedAssetsModel" "base" "J", Cond.fieldLink RX5 88 "AgedAssetsModel" "length" "I", Cond.fieldLink RX5 26 "AgedAssetsModel" "rates" "[I"]
def wsX5_charge_r3 : List Cond := [Cond.fieldLink RX5 94 "AgedAssetsModel" "left" "I", Cond.fieldLink RX5 97 "AgedAssetsModel" "charged" "I", Cond.fieldLink RX5 100 "AgedAssetsModel" "stretchUnits" "I", Cond.fieldLink RX5 103 "AgedAssetsModel" "done" "J", Cond.methodLink RX5 75 yX5_book, Cond.instanceMethod yX5_book, Cond.selects RX5 yX5_book yX5_book, Cond.code yX5_book cX5_book 1 (some .long), Cond.methodLink RX5 172 yX5_eventIn, Cond.instanceMethod yX5_eventIn, Cond.selects RX5 yX5_eventIn yX5_eventIn, Cond.code yX5_eventIn cX5_eventIn 5 (some .int), Cond.fieldLink RX5 72 "AgedAssetsModel" "events" "I", Cond.fieldLink RX5 35 "AgedAssetsModel" "of" "[I", Cond.fieldLink RX5 38 "AgedAssetsModel" "when" "[I", Cond.methodLink RX5 176 yX5_happens, Cond.instanceMethod yX5_happens, Cond.selects RX5 yX5_happens yX5_happens, Cond.code yX5_happens cX5_happens 7 (some .boolean), Cond.fieldLink RX5 44 "AgedAssetsModel" "amounts" "[J", Cond.fieldLink RX5 47 "AgedAssetsModel" "numbers" "[I", Cond.methodLink RX5 137 yX5_values, Cond.instanceMethod yX5_values, Cond.selects RX5 yX5_values yX5_values]
def wsX5_charge_r4 : List Cond := [Cond.code yX5_values cX5_values 3 none, Cond.methodLink RX5 112 yX5_fall, Cond.instanceMethod yX5_fall, Cond.selects RX5 yX5_fall yX5_fall, Cond.code yX5_fall cX5_fall 5 none, Cond.methodLink RX5 140 yX5_impairs, Cond.instanceMethod yX5_impairs, Cond.selects RX5 yX5_impairs yX5_impairs, Cond.code yX5_impairs cX5_impairs 3 (some .boolean), Cond.methodLink RX5 144 yX5_restores, Cond.instanceMethod yX5_restores, Cond.selects RX5 yX5_restores yX5_restores, Cond.code yX5_restores cX5_restores 6 (some .boolean), Cond.methodLink RX5 148 yX5_sells, Cond.instanceMethod yX5_sells, Cond.selects RX5 yX5_sells yX5_sells, Cond.code yX5_sells cX5_sells 2 none, Cond.constant RX5 129 (1000000), Cond.methodLink RX5 125 yX5_less, Cond.static yX5_less, Cond.code yX5_less cX5_less 3 (some .long), Cond.constantLong RX5 119 (1000000), Cond.methodLink RX5 121 yX5_rounded, Cond.static yX5_rounded]
def wsX5_charge_r5 : List Cond := [Cond.code yX5_rounded cX5_rounded 4 (some .long), Cond.constantLong RX5 60 (2), Cond.methodLink RX5 180 yX5_writeOff, Cond.instanceMethod yX5_writeOff, Cond.selects RX5 yX5_writeOff yX5_writeOff, Cond.code yX5_writeOff cX5_writeOff 5 none, Cond.fieldLink RX5 23 "AgedAssetsModel" "methods" "[I", Cond.fieldLink RX5 29 "AgedAssetsModel" "used" "[I", Cond.methodLink RX5 155 yX5_declining, Cond.instanceMethod yX5_declining, Cond.selects RX5 yX5_declining yX5_declining, Cond.code yX5_declining cX5_declining 11 (some .long), Cond.methodLink RX5 159 yX5_together, Cond.instanceMethod yX5_together, Cond.selects RX5 yX5_together yX5_together, Cond.code yX5_together cX5_together 4 (some .long)]
def wsX5_charge : List Cond := .code yX5_charge cX5_charge 3 (some .long) :: ((wsX5_charge_r1 ++ (wsX5_charge_r2 ++ (wsX5_charge_r3 ++ (wsX5_charge_r4 ++ wsX5_charge_r5)))) ++ wsX50)
def wsX5_without_r1 : List Cond := [Cond.fieldLink RX5 56 "AgedAssetsModel" "code" "I", Cond.constantLong RX5 217 (-1), Cond.fieldLink RX5 16 "AgedAssetsModel" "firsts" "[I", Cond.fieldLink RX5 53 "AgedAssetsModel" "behind" "[J", Cond.methodLink RX5 202 yX5_isPart, Cond.instanceMethod yX5_isPart, Cond.selects RX5 yX5_isPart yX5_isPart, Cond.initialized RX5, Cond.code yX5_isPart cX5_isPart 2 (some .boolean), Cond.fieldLink RX5 62 "AgedAssetsModel" "parts" "I", Cond.methodLink RX5 194 yX5_isMonth, Cond.static yX5_isMonth, Cond.code yX5_isMonth cX5_isMonth 1 (some .boolean), Cond.methodLink RX5 184 yX5_go, Cond.instanceMethod yX5_go, Cond.selects RX5 yX5_go yX5_go, Cond.code yX5_go cX5_go 7 (some .int), Cond.fieldLink RX5 7 "AgedAssetsModel" "costs" "[J", Cond.fieldLink RX5 65 "AgedAssetsModel" "cost" "J", Cond.fieldLink RX5 13 "AgedAssetsModel" "residuals" "[J", Cond.fieldLink RX5 79 "AgedAssetsModel" "residual" "J", Cond.fieldLink RX5 20 "AgedAssetsModel" "lives" "[I", Cond.fieldLink RX5 85 "AgedAssetsModel" "rest" "I", Cond.fieldLink RX5 41 "AgedAssetsModel" "kinds" "[I"]
def wsX5_without_r2 : List Cond := [Cond.fieldLink RX5 50 "AgedAssetsModel" "before" "[J", Cond.methodLink RX5 166 yX5_clear, Cond.instanceMethod yX5_clear, Cond.selects RX5 yX5_clear yX5_clear, Cond.code yX5_clear cX5_clear 1 none, Cond.fieldLink RX5 69 "AgedAssetsModel" "allowance" "J", Cond.fieldLink RX5 106 "AgedAssetsModel" "reserve" "J", Cond.fieldLink RX5 109 "AgedAssetsModel" "losses" "J", Cond.fieldLink RX5 134 "AgedAssetsModel" "held" "Z", Cond.fieldLink RX5 130 "AgedAssetsModel" "gone" "Z", Cond.fieldLink RX5 91 "AgedAssetsModel" "spent" "I", Cond.fieldLink RX5 152 "AgedAssetsModel" "last" "J", Cond.fieldLink RX5 163 "AgedAssetsModel" "sum" "J", Cond.methodLink RX5 169 yX5_stretch, Cond.instanceMethod yX5_stretch, Cond.selects RX5 yX5_stretch yX5_stretch, Cond.code yX5_stretch cX5_stretch 2 none, Cond.fieldLink RX5 82 "AgedAssetsModel" "base" "J", Cond.fieldLink RX5 88 "AgedAssetsModel" "length" "I", Cond.fieldLink RX5 26 "AgedAssetsModel" "rates" "[I", Cond.fieldLink RX5 94 "AgedAssetsModel" "left" "I", Cond.fieldLink RX5 97 "AgedAssetsModel" "charged" "I", Cond.fieldLink RX5 100 "AgedAssetsModel" "stretchUnits" "I", Cond.fieldLink RX5 103 "AgedAssetsModel" "done" "J"]
def wsX5_without_r3 : List Cond := [Cond.methodLink RX5 75 yX5_book, Cond.instanceMethod yX5_book, Cond.selects RX5 yX5_book yX5_book, Cond.code yX5_book cX5_book 1 (some .long), Cond.methodLink RX5 172 yX5_eventIn, Cond.instanceMethod yX5_eventIn, Cond.selects RX5 yX5_eventIn yX5_eventIn, Cond.code yX5_eventIn cX5_eventIn 5 (some .int), Cond.fieldLink RX5 72 "AgedAssetsModel" "events" "I", Cond.fieldLink RX5 35 "AgedAssetsModel" "of" "[I", Cond.fieldLink RX5 38 "AgedAssetsModel" "when" "[I", Cond.methodLink RX5 176 yX5_happens, Cond.instanceMethod yX5_happens, Cond.selects RX5 yX5_happens yX5_happens, Cond.code yX5_happens cX5_happens 7 (some .boolean), Cond.fieldLink RX5 44 "AgedAssetsModel" "amounts" "[J", Cond.fieldLink RX5 47 "AgedAssetsModel" "numbers" "[I", Cond.methodLink RX5 137 yX5_values, Cond.instanceMethod yX5_values, Cond.selects RX5 yX5_values yX5_values, Cond.code yX5_values cX5_values 3 none, Cond.methodLink RX5 112 yX5_fall, Cond.instanceMethod yX5_fall, Cond.selects RX5 yX5_fall yX5_fall]
def wsX5_without_r4 : List Cond := [Cond.code yX5_fall cX5_fall 5 none, Cond.methodLink RX5 140 yX5_impairs, Cond.instanceMethod yX5_impairs, Cond.selects RX5 yX5_impairs yX5_impairs, Cond.code yX5_impairs cX5_impairs 3 (some .boolean), Cond.methodLink RX5 144 yX5_restores, Cond.instanceMethod yX5_restores, Cond.selects RX5 yX5_restores yX5_restores, Cond.code yX5_restores cX5_restores 6 (some .boolean), Cond.fieldLink RX5 116 "AgedAssetsModel" "bad" "I", Cond.methodLink RX5 148 yX5_sells, Cond.instanceMethod yX5_sells, Cond.selects RX5 yX5_sells yX5_sells, Cond.code yX5_sells cX5_sells 2 none, Cond.constant RX5 129 (1000000), Cond.methodLink RX5 125 yX5_less, Cond.static yX5_less, Cond.code yX5_less cX5_less 3 (some .long), Cond.constantLong RX5 119 (1000000), Cond.methodLink RX5 121 yX5_rounded, Cond.static yX5_rounded, Cond.code yX5_rounded cX5_rounded 4 (some .long), Cond.constantLong RX5 60 (2), Cond.methodLink RX5 180 yX5_writeOff]
def wsX5_without_r5 : List Cond := [Cond.instanceMethod yX5_writeOff, Cond.selects RX5 yX5_writeOff yX5_writeOff, Cond.code yX5_writeOff cX5_writeOff 5 none, Cond.fieldLink RX5 23 "AgedAssetsModel" "methods" "[I", Cond.fieldLink RX5 29 "AgedAssetsModel" "used" "[I", Cond.methodLink RX5 155 yX5_declining, Cond.instanceMethod yX5_declining, Cond.selects RX5 yX5_declining yX5_declining, Cond.code yX5_declining cX5_declining 11 (some .long), Cond.methodLink RX5 159 yX5_together, Cond.instanceMethod yX5_together, Cond.selects RX5 yX5_together yX5_together, Cond.code yX5_together cX5_together 4 (some .long)]
def wsX5_without : List Cond := .code yX5_without cX5_without 4 (some .long) :: ((wsX5_without_r1 ++ (wsX5_without_r2 ++ (wsX5_without_r3 ++ (wsX5_without_r4 ++ wsX5_without_r5)))) ++ wsX50)
def wsX5_totalOf : List Cond := .code yX5_totalOf cX5_totalOf 5 (some .long) :: ([.fieldLink RX5 219 "AgedAssetsModel" "months" "I", .fieldLink RX5 32 "AgedAssetsModel" "posted" "[J"] ++ wsX50)
def wsX5_post_r1 : List Cond := [Cond.fieldLink RX5 219 "AgedAssetsModel" "months" "I", Cond.fieldLink RX5 56 "AgedAssetsModel" "code" "I", Cond.fieldLink RX5 62 "AgedAssetsModel" "parts" "I", Cond.fieldLink RX5 16 "AgedAssetsModel" "firsts" "[I", Cond.fieldLink RX5 163 "AgedAssetsModel" "sum" "J", Cond.fieldLink RX5 32 "AgedAssetsModel" "posted" "[J", Cond.methodLink RX5 205 yX5_reckon, Cond.instanceMethod yX5_reckon, Cond.selects RX5 yX5_reckon yX5_reckon, Cond.initialized RX5, Cond.code yX5_reckon cX5_reckon 3 (some .boolean), Cond.fieldLink RX5 116 "AgedAssetsModel" "bad" "I", Cond.methodLink RX5 184 yX5_go, Cond.instanceMethod yX5_go, Cond.selects RX5 yX5_go yX5_go, Cond.code yX5_go cX5_go 7 (some .int), Cond.fieldLink RX5 7 "AgedAssetsModel" "costs" "[J", Cond.fieldLink RX5 65 "AgedAssetsModel" "cost" "J", Cond.fieldLink RX5 13 "AgedAssetsModel" "residuals" "[J", Cond.fieldLink RX5 79 "AgedAssetsModel" "residual" "J", Cond.fieldLink RX5 20 "AgedAssetsModel" "lives" "[I", Cond.fieldLink RX5 85 "AgedAssetsModel" "rest" "I", Cond.fieldLink RX5 41 "AgedAssetsModel" "kinds" "[I", Cond.fieldLink RX5 50 "AgedAssetsModel" "before" "[J"]
def wsX5_post_r2 : List Cond := [Cond.fieldLink RX5 53 "AgedAssetsModel" "behind" "[J", Cond.methodLink RX5 166 yX5_clear, Cond.instanceMethod yX5_clear, Cond.selects RX5 yX5_clear yX5_clear, Cond.code yX5_clear cX5_clear 1 none, Cond.fieldLink RX5 69 "AgedAssetsModel" "allowance" "J", Cond.fieldLink RX5 106 "AgedAssetsModel" "reserve" "J", Cond.fieldLink RX5 109 "AgedAssetsModel" "losses" "J", Cond.fieldLink RX5 134 "AgedAssetsModel" "held" "Z", Cond.fieldLink RX5 130 "AgedAssetsModel" "gone" "Z", Cond.fieldLink RX5 91 "AgedAssetsModel" "spent" "I", Cond.fieldLink RX5 152 "AgedAssetsModel" "last" "J", Cond.methodLink RX5 169 yX5_stretch, Cond.instanceMethod yX5_stretch, Cond.selects RX5 yX5_stretch yX5_stretch, Cond.code yX5_stretch cX5_stretch 2 none, Cond.fieldLink RX5 82 "AgedAssetsModel" "base" "J", Cond.fieldLink RX5 88 "AgedAssetsModel" "length" "I", Cond.fieldLink RX5 26 "AgedAssetsModel" "rates" "[I", Cond.fieldLink RX5 94 "AgedAssetsModel" "left" "I", Cond.fieldLink RX5 97 "AgedAssetsModel" "charged" "I", Cond.fieldLink RX5 100 "AgedAssetsModel" "stretchUnits" "I", Cond.fieldLink RX5 103 "AgedAssetsModel" "done" "J", Cond.methodLink RX5 75 yX5_book]
def wsX5_post_r3 : List Cond := [Cond.instanceMethod yX5_book, Cond.selects RX5 yX5_book yX5_book, Cond.code yX5_book cX5_book 1 (some .long), Cond.methodLink RX5 172 yX5_eventIn, Cond.instanceMethod yX5_eventIn, Cond.selects RX5 yX5_eventIn yX5_eventIn, Cond.code yX5_eventIn cX5_eventIn 5 (some .int), Cond.fieldLink RX5 72 "AgedAssetsModel" "events" "I", Cond.fieldLink RX5 35 "AgedAssetsModel" "of" "[I", Cond.fieldLink RX5 38 "AgedAssetsModel" "when" "[I", Cond.methodLink RX5 176 yX5_happens, Cond.instanceMethod yX5_happens, Cond.selects RX5 yX5_happens yX5_happens, Cond.code yX5_happens cX5_happens 7 (some .boolean), Cond.fieldLink RX5 44 "AgedAssetsModel" "amounts" "[J", Cond.fieldLink RX5 47 "AgedAssetsModel" "numbers" "[I", Cond.methodLink RX5 137 yX5_values, Cond.instanceMethod yX5_values, Cond.selects RX5 yX5_values yX5_values, Cond.code yX5_values cX5_values 3 none, Cond.methodLink RX5 112 yX5_fall, Cond.instanceMethod yX5_fall, Cond.selects RX5 yX5_fall yX5_fall, Cond.code yX5_fall cX5_fall 5 none]
def wsX5_post_r4 : List Cond := [Cond.methodLink RX5 140 yX5_impairs, Cond.instanceMethod yX5_impairs, Cond.selects RX5 yX5_impairs yX5_impairs, Cond.code yX5_impairs cX5_impairs 3 (some .boolean), Cond.methodLink RX5 144 yX5_restores, Cond.instanceMethod yX5_restores, Cond.selects RX5 yX5_restores yX5_restores, Cond.code yX5_restores cX5_restores 6 (some .boolean), Cond.methodLink RX5 148 yX5_sells, Cond.instanceMethod yX5_sells, Cond.selects RX5 yX5_sells yX5_sells, Cond.code yX5_sells cX5_sells 2 none, Cond.constant RX5 129 (1000000), Cond.methodLink RX5 125 yX5_less, Cond.static yX5_less, Cond.code yX5_less cX5_less 3 (some .long), Cond.constantLong RX5 119 (1000000), Cond.methodLink RX5 121 yX5_rounded, Cond.static yX5_rounded, Cond.code yX5_rounded cX5_rounded 4 (some .long), Cond.constantLong RX5 60 (2), Cond.methodLink RX5 180 yX5_writeOff, Cond.instanceMethod yX5_writeOff, Cond.selects RX5 yX5_writeOff yX5_writeOff]
def wsX5_post_r5 : List Cond := [Cond.code yX5_writeOff cX5_writeOff 5 none, Cond.fieldLink RX5 23 "AgedAssetsModel" "methods" "[I", Cond.fieldLink RX5 29 "AgedAssetsModel" "used" "[I", Cond.methodLink RX5 155 yX5_declining, Cond.instanceMethod yX5_declining, Cond.selects RX5 yX5_declining yX5_declining, Cond.code yX5_declining cX5_declining 11 (some .long), Cond.methodLink RX5 159 yX5_together, Cond.instanceMethod yX5_together, Cond.selects RX5 yX5_together yX5_together, Cond.code yX5_together cX5_together 4 (some .long), Cond.methodLink RX5 222 yX5_totalOf, Cond.instanceMethod yX5_totalOf, Cond.selects RX5 yX5_totalOf yX5_totalOf, Cond.code yX5_totalOf cX5_totalOf 5 (some .long)]
def wsX5_post : List Cond := .code yX5_post cX5_post 6 (some .long) :: ((wsX5_post_r1 ++ (wsX5_post_r2 ++ (wsX5_post_r3 ++ (wsX5_post_r4 ++ wsX5_post_r5)))) ++ wsX50)
def wsX5_months : List Cond := .code yX5_months cX5_months 1 (some .int) :: ([.fieldLink RX5 56 "AgedAssetsModel" "code" "I", .fieldLink RX5 219 "AgedAssetsModel" "months" "I"] ++ wsX50)
def wsX5_posted : List Cond := .code yX5_posted cX5_posted 3 (some .long) :: ([.fieldLink RX5 56 "AgedAssetsModel" "code" "I", .fieldLink RX5 32 "AgedAssetsModel" "posted" "[J", .methodLink RX5 202 yX5_isPart, .instanceMethod yX5_isPart, .selects RX5 yX5_isPart yX5_isPart, .initialized RX5, .code yX5_isPart cX5_isPart 2 (some .boolean), .fieldLink RX5 62 "AgedAssetsModel" "parts" "I", .methodLink RX5 194 yX5_isMonth, .static yX5_isMonth, .code yX5_isMonth cX5_isMonth 1 (some .boolean)] ++ wsX50)
def wsX5_total : List Cond := .code yX5_total cX5_total 2 (some .long) :: ([.fieldLink RX5 56 "AgedAssetsModel" "code" "I", .methodLink RX5 202 yX5_isPart, .instanceMethod yX5_isPart, .selects RX5 yX5_isPart yX5_isPart, .initialized RX5, .code yX5_isPart cX5_isPart 2 (some .boolean), .fieldLink RX5 62 "AgedAssetsModel" "parts" "I", .methodLink RX5 222 yX5_totalOf, .instanceMethod yX5_totalOf, .selects RX5 yX5_totalOf yX5_totalOf, .code yX5_totalOf cX5_totalOf 5 (some .long), .fieldLink RX5 219 "AgedAssetsModel" "months" "I", .fieldLink RX5 32 "AgedAssetsModel" "posted" "[J"] ++ wsX50)
def wsX5_parts : List Cond := .code yX5_parts cX5_parts 1 (some .int) :: ([.fieldLink RX5 56 "AgedAssetsModel" "code" "I", .fieldLink RX5 62 "AgedAssetsModel" "parts" "I"] ++ wsX50)
def wsJ9_max_f86c9 : List Cond := .code yJ9_max_f86c9 cJ9_max_f86c9 4 (some .long) :: ([])
def wsJ9_min_f86c9 : List Cond := .code yJ9_min_f86c9 cJ9_min_f86c9 4 (some .long) :: ([])
def wsL_part_r1 : List Cond := [Cond.classLink RL 13 "java/lang/IllegalArgumentException", Cond.classLink RL 15 "java/lang/IllegalStateException", Cond.methodLink RL 7 yX4_part, Cond.instanceMethod yX4_part, Cond.selects RX4 yX4_part yX4_part, Cond.initialized RX4, Cond.code yX4_part cX4_part 11 (some .int), Cond.classLink RX4 47 "java/lang/IllegalArgumentException", Cond.initialized "java/lang/IllegalArgumentException", Cond.classLink RX4 58 "java/lang/IllegalStateException", Cond.initialized "java/lang/IllegalStateException", Cond.constantLong RX4 31 (1000000000), Cond.constantLong RX4 41 (36), Cond.fieldLink RX4 54 "AgedAssets" "partCount" "I", Cond.fieldLink RX4 11 "AgedAssets" "partRow" "[LAgedAssets$Part;", Cond.classLink RX4 9 RX2, Cond.instantiable RX2 11, Cond.initialized RX2, Cond.methodLink RX4 33 yX4_isWithin, Cond.static yX4_isWithin, Cond.code yX4_isWithin cX4_isWithin 6 (some .boolean), Cond.methodLink RX4 37 yX4_isMonth, Cond.static yX4_isMonth, Cond.code yX4_isMonth cX4_isMonth 1 (some .boolean)]
def wsL_part_r2 : List Cond := [Cond.methodLink RX4 43 yX4_isRateOf, Cond.static yX4_isRateOf, Cond.code yX4_isRateOf cX4_isRateOf 2 (some .boolean), Cond.constantLong RX4 70 (1000000), Cond.methodLink RX4 63 yX2_init, Cond.instanceMethod yX2_init, Cond.code yX2_init cX2_init 9 none, Cond.methodLink RX2 3 objectInit, Cond.instanceMethod objectInit, Cond.code objectInit ⟨#[0xb1]⟩ 1 none, Cond.fieldLink RX2 9 "AgedAssets$Part" "cost" "J", Cond.fieldLink RX2 15 "AgedAssets$Part" "residual" "J", Cond.fieldLink RX2 18 "AgedAssets$Part" "firstMonth" "I", Cond.fieldLink RX2 22 "AgedAssets$Part" "life" "I", Cond.fieldLink RX2 25 "AgedAssets$Part" "method" "I", Cond.fieldLink RX2 28 "AgedAssets$Part" "rate" "I", Cond.arrayClass .int, Cond.fieldLink RX2 31 "AgedAssets$Part" "unitsIn" "[I", Cond.classLink RX2 35 RX1, Cond.fieldLink RX2 37 "AgedAssets$Part" "eventIn" "[LAgedAssets$Event;", Cond.arrayClass .long, Cond.fieldLink RX2 41 "AgedAssets$Part" "postedIn" "[J"]
def wsL_part : List Cond := .codeWith yL_part cL_part 11 (some .int) [(0, 19, 22, 13), (0, 19, 26, 15)] :: ((wsL_part_r1 ++ wsL_part_r2) ++ wsX40 ++ wsX20 ++ (vx_atS RX4 51 "java/lang/IllegalArgumentException" ["java/lang/RuntimeException", "java/lang/Exception"]).filter goodWord ++ (vx_atS RX4 62 "java/lang/IllegalStateException" ["java/lang/RuntimeException", "java/lang/Exception"]).filter goodWord)
def wsL_units_r1 : List Cond := [Cond.classLink RL 13 "java/lang/IllegalArgumentException", Cond.classLink RL 15 "java/lang/IllegalStateException", Cond.methodLink RL 17 yX4_units, Cond.instanceMethod yX4_units, Cond.selects RX4 yX4_units yX4_units, Cond.initialized RX4, Cond.code yX4_units cX4_units 6 (some .int), Cond.classLink RX4 47 "java/lang/IllegalArgumentException", Cond.initialized "java/lang/IllegalArgumentException", Cond.classLink RX4 58 "java/lang/IllegalStateException", Cond.initialized "java/lang/IllegalStateException", Cond.constantLong RX4 70 (1000000), Cond.fieldLink RX4 74 "AgedAssets$Part" "unitsIn" "[I", Cond.methodLink RX4 66 yX4_partOf, Cond.instanceMethod yX4_partOf, Cond.selects RX4 yX4_partOf yX4_partOf, Cond.code yX4_partOf cX4_partOf 2 (some (.object "AgedAssets$Part")), Cond.fieldLink RX4 54 "AgedAssets" "partCount" "I", Cond.fieldLink RX4 11 "AgedAssets" "partRow" "[LAgedAssets$Part;", Cond.methodLink RX4 37 yX4_isMonth, Cond.static yX4_isMonth, Cond.code yX4_isMonth cX4_isMonth 1 (some .boolean), Cond.methodLink RX4 33 yX4_isWithin, Cond.static yX4_isWithin]
def wsL_units_r2 : List Cond := [Cond.code yX4_isWithin cX4_isWithin 6 (some .boolean), Cond.methodLink RX4 78 yX4_hasBreach, Cond.instanceMethod yX4_hasBreach, Cond.selects RX4 yX4_hasBreach yX4_hasBreach, Cond.code yX4_hasBreach cX4_hasBreach 2 (some .boolean), Cond.fieldLink RX4 24 "AgedAssets" "full" "LAgedAssets$Course;", Cond.methodLink RX4 127 yX4_follow, Cond.instanceMethod yX4_follow, Cond.selects RX4 yX4_follow yX4_follow, Cond.code yX4_follow cX4_follow 5 none, Cond.fieldLink RX4 28 "AgedAssets" "bare" "LAgedAssets$Course;", Cond.fieldLink RX4 84 "AgedAssets$Part" "firstMonth" "I", Cond.fieldLink RX4 93 "AgedAssets$Part" "eventIn" "[LAgedAssets$Event;", Cond.fieldLink RX4 117 "AgedAssets$Event" "kind" "I", Cond.constantLong RX4 191 (-1), Cond.methodLink RX4 183 yX0_open, Cond.instanceMethod yX0_open, Cond.selects RX0 yX0_open yX0_open, Cond.initialized RX0, Cond.code yX0_open cX0_open 2 none, Cond.fieldLink RX0 18 "AgedAssets$Part" "method" "I", Cond.fieldLink RX0 24 "AgedAssets$Course" "method" "I", Cond.fieldLink RX0 25 "AgedAssets$Part" "rate" "I", Cond.fieldLink RX0 28 "AgedAssets$Course" "rate" "I"]
def wsL_units_r3 : List Cond := [Cond.fieldLink RX0 29 "AgedAssets$Part" "cost" "J", Cond.fieldLink RX0 33 "AgedAssets$Course" "cost" "J", Cond.fieldLink RX0 34 "AgedAssets$Course" "allowance" "J", Cond.fieldLink RX0 37 "AgedAssets$Course" "reserve" "J", Cond.fieldLink RX0 40 "AgedAssets$Course" "losses" "J", Cond.fieldLink RX0 43 "AgedAssets$Part" "residual" "J", Cond.fieldLink RX0 46 "AgedAssets$Course" "residual" "J", Cond.fieldLink RX0 47 "AgedAssets$Part" "life" "I", Cond.fieldLink RX0 50 "AgedAssets$Course" "restOfLife" "I", Cond.fieldLink RX0 53 "AgedAssets$Course" "held" "Z", Cond.fieldLink RX0 57 "AgedAssets$Course" "gone" "Z", Cond.fieldLink RX0 60 "AgedAssets$Course" "breached" "Z", Cond.fieldLink RX0 63 "AgedAssets$Course" "chargedUnits" "J", Cond.fieldLink RX0 66 "AgedAssets$Course" "lastCharge" "J", Cond.fieldLink RX0 69 "AgedAssets$Course" "allCharges" "J", Cond.methodLink RX0 72 yX0_beginStretch, Cond.instanceMethod yX0_beginStretch, Cond.selects RX0 yX0_beginStretch yX0_beginStretch, Cond.code yX0_beginStretch cX0_beginStretch 1 none, Cond.fieldLink RX0 12 "AgedAssets$Course" "stretch" "LAgedAssets$Stretch;", Cond.methodLink RX0 136 Lib.MathLoose.max_long.x, Cond.static Lib.MathLoose.max_long.x, Cond.initialized "java/lang/Math", Cond.code Lib.MathLoose.max_long.x Lib.MathLoose.max_long.code 4 (some .long)]
def wsL_units_r4 : List Cond := [Cond.methodLink RX0 77 yX0_book, Cond.instanceMethod yX0_book, Cond.selects RX0 yX0_book yX0_book, Cond.code yX0_book cX0_book 1 (some .long), Cond.methodLink RX0 139 yX3_begin, Cond.instanceMethod yX3_begin, Cond.selects RX3 yX3_begin yX3_begin, Cond.initialized RX3, Cond.code yX3_begin cX3_begin 7 none, Cond.fieldLink RX3 9 "AgedAssets$Stretch" "base" "J", Cond.fieldLink RX3 15 "AgedAssets$Stretch" "length" "J", Cond.fieldLink RX3 18 "AgedAssets$Stretch" "unitsLeft" "J", Cond.fieldLink RX3 21 "AgedAssets$Stretch" "monthsCharged" "J", Cond.fieldLink RX3 24 "AgedAssets$Stretch" "unitsCharged" "J", Cond.fieldLink RX3 27 "AgedAssets$Stretch" "charged" "J", Cond.methodLink RX4 159 yX0_bookOrNone, Cond.instanceMethod yX0_bookOrNone, Cond.selects RX0 yX0_bookOrNone yX0_bookOrNone, Cond.code yX0_bookOrNone cX0_bookOrNone 1 (some .long), Cond.constantLong RX0 75 (-1), Cond.methodLink RX4 187 yX0_meet, Cond.instanceMethod yX0_meet, Cond.selects RX0 yX0_meet yX0_meet, Cond.code yX0_meet cX0_meet 4 none]
def wsL_units_r5 : List Cond := [Cond.fieldLink RX0 89 "AgedAssets$Event" "kind" "I", Cond.methodLink RX0 81 yX0_isBreach, Cond.instanceMethod yX0_isBreach, Cond.selects RX0 yX0_isBreach yX0_isBreach, Cond.code yX0_isBreach cX0_isBreach 4 (some .boolean), Cond.fieldLink RX0 101 "AgedAssets$Event" "amount" "J", Cond.methodLink RX0 85 yX0_apply, Cond.instanceMethod yX0_apply, Cond.selects RX0 yX0_apply yX0_apply, Cond.code yX0_apply cX0_apply 2 none, Cond.fieldLink RX0 104 "AgedAssets$Event" "number" "I", Cond.methodLink RX0 107 yX0_revalue, Cond.instanceMethod yX0_revalue, Cond.selects RX0 yX0_revalue yX0_revalue, Cond.code yX0_revalue cX0_revalue 3 none, Cond.methodLink RX0 121 yX0_lose, Cond.instanceMethod yX0_lose, Cond.selects RX0 yX0_lose yX0_lose, Cond.code yX0_lose cX0_lose 5 none, Cond.methodLink RX0 124 Lib.MathLoose.min_long.x, Cond.static Lib.MathLoose.min_long.x, Cond.code Lib.MathLoose.min_long.x Lib.MathLoose.min_long.code 4 (some .long), Cond.methodLink RX0 111 yX0_impair, Cond.instanceMethod yX0_impair]
def wsL_units_r6 : List Cond := [Cond.selects RX0 yX0_impair yX0_impair, Cond.code yX0_impair cX0_impair 3 none, Cond.methodLink RX0 114 yX0_restore, Cond.instanceMethod yX0_restore, Cond.selects RX0 yX0_restore yX0_restore, Cond.code yX0_restore cX0_restore 3 none, Cond.methodLink RX0 117 yX0_sell, Cond.instanceMethod yX0_sell, Cond.selects RX0 yX0_sell yX0_sell, Cond.code yX0_sell cX0_sell 2 none, Cond.constantLong RX0 130 (1000000), Cond.constant RX0 135 (1000000), Cond.static yX4_rounded, Cond.code yX4_rounded cX4_rounded 4 (some .long), Cond.constantLong RX4 197 (2), Cond.methodLink RX4 193 yX0_chargeMonth, Cond.instanceMethod yX0_chargeMonth, Cond.selects RX0 yX0_chargeMonth yX0_chargeMonth, Cond.code yX0_chargeMonth cX0_chargeMonth 2 none, Cond.methodLink RX0 94 yX0_decliningCharge, Cond.instanceMethod yX0_decliningCharge, Cond.selects RX0 yX0_decliningCharge yX0_decliningCharge, Cond.code yX0_decliningCharge cX0_decliningCharge 7 (some .long), Cond.methodLink RX0 97 yX3_nextCharge]
def wsL_units_r7 : List Cond := [Cond.instanceMethod yX3_nextCharge, Cond.selects RX3 yX3_nextCharge yX3_nextCharge, Cond.code yX3_nextCharge cX3_nextCharge 5 (some .long), Cond.methodLink RX3 30 yX3_chargesTogether, Cond.instanceMethod yX3_chargesTogether, Cond.selects RX3 yX3_chargesTogether yX3_chargesTogether, Cond.code yX3_chargesTogether cX3_chargesTogether 2 (some .long), Cond.methodLink RX3 42 Lib.MathLoose.min_long.x, Cond.methodLink RX3 38 yX3_sumUpTo, Cond.static yX3_sumUpTo, Cond.code yX3_sumUpTo cX3_sumUpTo 2 (some .long), Cond.constantLong RX3 47 (2)]
def wsL_units : List Cond := .codeWith yL_units cL_units 6 (some .int) [(0, 12, 15, 13), (0, 12, 19, 15)] :: ((wsL_units_r1 ++ (wsL_units_r2 ++ (wsL_units_r3 ++ (wsL_units_r4 ++ (wsL_units_r5 ++ (wsL_units_r6 ++ wsL_units_r7)))))) ++ wsX20 ++ wsX40 ++ wsX00 ++ wsX10 ++ wsX30 ++ (vx_atS RX4 51 "java/lang/IllegalArgumentException" ["java/lang/RuntimeException", "java/lang/Exception"]).filter goodWord ++ (vx_atS RX4 62 "java/lang/IllegalStateException" ["java/lang/RuntimeException", "java/lang/Exception"]).filter goodWord)
def wsL_event_r1 : List Cond := [Cond.classLink RL 13 "java/lang/IllegalArgumentException", Cond.classLink RL 15 "java/lang/IllegalStateException", Cond.methodLink RL 21 yX4_event, Cond.instanceMethod yX4_event, Cond.selects RX4 yX4_event yX4_event, Cond.initialized RX4, Cond.code yX4_event cX4_event 9 (some .int), Cond.classLink RX4 47 "java/lang/IllegalArgumentException", Cond.initialized "java/lang/IllegalArgumentException", Cond.classLink RX4 58 "java/lang/IllegalStateException", Cond.initialized "java/lang/IllegalStateException", Cond.fieldLink RX4 84 "AgedAssets$Part" "firstMonth" "I", Cond.fieldLink RX4 93 "AgedAssets$Part" "eventIn" "[LAgedAssets$Event;", Cond.fieldLink RX4 96 "AgedAssets$Part" "eventCount" "I", Cond.fieldLink RX4 99 "AgedAssets" "eventCount" "I", Cond.classLink RX4 15 RX1, Cond.instantiable RX1 5, Cond.initialized RX1, Cond.fieldLink RX4 17 "AgedAssets" "eventRow" "[LAgedAssets$Event;", Cond.methodLink RX4 66 yX4_partOf, Cond.instanceMethod yX4_partOf, Cond.selects RX4 yX4_partOf yX4_partOf, Cond.code yX4_partOf cX4_partOf 2 (some (.object "AgedAssets$Part")), Cond.fieldLink RX4 54 "AgedAssets" "partCount" "I"]
def wsL_event_r2 : List Cond := [Cond.fieldLink RX4 11 "AgedAssets" "partRow" "[LAgedAssets$Part;", Cond.methodLink RX4 37 yX4_isMonth, Cond.static yX4_isMonth, Cond.code yX4_isMonth cX4_isMonth 1 (some .boolean), Cond.methodLink RX4 87 yX4_isEvent, Cond.static yX4_isEvent, Cond.code yX4_isEvent cX4_isEvent 4 (some .boolean), Cond.constantLong RX4 31 (1000000000), Cond.constantLong RX4 41 (36), Cond.constantLong RX4 70 (1000000), Cond.methodLink RX4 33 yX4_isWithin, Cond.static yX4_isWithin, Cond.code yX4_isWithin cX4_isWithin 6 (some .boolean), Cond.methodLink RX4 102 yX1_init, Cond.instanceMethod yX1_init, Cond.code yX1_init cX1_init 7 none, Cond.methodLink RX1 1 objectInit, Cond.instanceMethod objectInit, Cond.code objectInit ⟨#[0xb1]⟩ 1 none, Cond.fieldLink RX1 7 "AgedAssets$Event" "partNumber" "I", Cond.fieldLink RX1 13 "AgedAssets$Event" "month" "I", Cond.fieldLink RX1 16 "AgedAssets$Event" "kind" "I", Cond.fieldLink RX1 19 "AgedAssets$Event" "amount" "J", Cond.fieldLink RX1 23 "AgedAssets$Event" "number" "I"]
def wsL_event_r3 : List Cond := [Cond.methodLink RX4 78 yX4_hasBreach, Cond.instanceMethod yX4_hasBreach, Cond.selects RX4 yX4_hasBreach yX4_hasBreach, Cond.code yX4_hasBreach cX4_hasBreach 2 (some .boolean), Cond.fieldLink RX4 24 "AgedAssets" "full" "LAgedAssets$Course;", Cond.methodLink RX4 127 yX4_follow, Cond.instanceMethod yX4_follow, Cond.selects RX4 yX4_follow yX4_follow, Cond.code yX4_follow cX4_follow 5 none, Cond.fieldLink RX4 28 "AgedAssets" "bare" "LAgedAssets$Course;", Cond.fieldLink RX4 117 "AgedAssets$Event" "kind" "I", Cond.constantLong RX4 191 (-1), Cond.fieldLink RX4 74 "AgedAssets$Part" "unitsIn" "[I", Cond.methodLink RX4 183 yX0_open, Cond.instanceMethod yX0_open, Cond.selects RX0 yX0_open yX0_open, Cond.initialized RX0, Cond.code yX0_open cX0_open 2 none, Cond.fieldLink RX0 18 "AgedAssets$Part" "method" "I", Cond.fieldLink RX0 24 "AgedAssets$Course" "method" "I", Cond.fieldLink RX0 25 "AgedAssets$Part" "rate" "I", Cond.fieldLink RX0 28 "AgedAssets$Course" "rate" "I", Cond.fieldLink RX0 29 "AgedAssets$Part" "cost" "J", Cond.fieldLink RX0 33 "AgedAssets$Course" "cost" "J"]
def wsL_event_r4 : List Cond := [Cond.fieldLink RX0 34 "AgedAssets$Course" "allowance" "J", Cond.fieldLink RX0 37 "AgedAssets$Course" "reserve" "J", Cond.fieldLink RX0 40 "AgedAssets$Course" "losses" "J", Cond.fieldLink RX0 43 "AgedAssets$Part" "residual" "J", Cond.fieldLink RX0 46 "AgedAssets$Course" "residual" "J", Cond.fieldLink RX0 47 "AgedAssets$Part" "life" "I", Cond.fieldLink RX0 50 "AgedAssets$Course" "restOfLife" "I", Cond.fieldLink RX0 53 "AgedAssets$Course" "held" "Z", Cond.fieldLink RX0 57 "AgedAssets$Course" "gone" "Z", Cond.fieldLink RX0 60 "AgedAssets$Course" "breached" "Z", Cond.fieldLink RX0 63 "AgedAssets$Course" "chargedUnits" "J", Cond.fieldLink RX0 66 "AgedAssets$Course" "lastCharge" "J", Cond.fieldLink RX0 69 "AgedAssets$Course" "allCharges" "J", Cond.methodLink RX0 72 yX0_beginStretch, Cond.instanceMethod yX0_beginStretch, Cond.selects RX0 yX0_beginStretch yX0_beginStretch, Cond.code yX0_beginStretch cX0_beginStretch 1 none, Cond.fieldLink RX0 12 "AgedAssets$Course" "stretch" "LAgedAssets$Stretch;", Cond.methodLink RX0 136 Lib.MathLoose.max_long.x, Cond.static Lib.MathLoose.max_long.x, Cond.initialized "java/lang/Math", Cond.code Lib.MathLoose.max_long.x Lib.MathLoose.max_long.code 4 (some .long), Cond.methodLink RX0 77 yX0_book, Cond.instanceMethod yX0_book]
def wsL_event_r5 : List Cond := [Cond.selects RX0 yX0_book yX0_book, Cond.code yX0_book cX0_book 1 (some .long), Cond.methodLink RX0 139 yX3_begin, Cond.instanceMethod yX3_begin, Cond.selects RX3 yX3_begin yX3_begin, Cond.initialized RX3, Cond.code yX3_begin cX3_begin 7 none, Cond.fieldLink RX3 9 "AgedAssets$Stretch" "base" "J", Cond.fieldLink RX3 15 "AgedAssets$Stretch" "length" "J", Cond.fieldLink RX3 18 "AgedAssets$Stretch" "unitsLeft" "J", Cond.fieldLink RX3 21 "AgedAssets$Stretch" "monthsCharged" "J", Cond.fieldLink RX3 24 "AgedAssets$Stretch" "unitsCharged" "J", Cond.fieldLink RX3 27 "AgedAssets$Stretch" "charged" "J", Cond.methodLink RX4 159 yX0_bookOrNone, Cond.instanceMethod yX0_bookOrNone, Cond.selects RX0 yX0_bookOrNone yX0_bookOrNone, Cond.code yX0_bookOrNone cX0_bookOrNone 1 (some .long), Cond.constantLong RX0 75 (-1), Cond.methodLink RX4 187 yX0_meet, Cond.instanceMethod yX0_meet, Cond.selects RX0 yX0_meet yX0_meet, Cond.code yX0_meet cX0_meet 4 none, Cond.fieldLink RX0 89 "AgedAssets$Event" "kind" "I", Cond.methodLink RX0 81 yX0_isBreach]
def wsL_event_r6 : List Cond := [Cond.instanceMethod yX0_isBreach, Cond.selects RX0 yX0_isBreach yX0_isBreach, Cond.code yX0_isBreach cX0_isBreach 4 (some .boolean), Cond.fieldLink RX0 101 "AgedAssets$Event" "amount" "J", Cond.methodLink RX0 85 yX0_apply, Cond.instanceMethod yX0_apply, Cond.selects RX0 yX0_apply yX0_apply, Cond.code yX0_apply cX0_apply 2 none, Cond.fieldLink RX0 104 "AgedAssets$Event" "number" "I", Cond.methodLink RX0 107 yX0_revalue, Cond.instanceMethod yX0_revalue, Cond.selects RX0 yX0_revalue yX0_revalue, Cond.code yX0_revalue cX0_revalue 3 none, Cond.methodLink RX0 121 yX0_lose, Cond.instanceMethod yX0_lose, Cond.selects RX0 yX0_lose yX0_lose, Cond.code yX0_lose cX0_lose 5 none, Cond.methodLink RX0 124 Lib.MathLoose.min_long.x, Cond.static Lib.MathLoose.min_long.x, Cond.code Lib.MathLoose.min_long.x Lib.MathLoose.min_long.code 4 (some .long), Cond.methodLink RX0 111 yX0_impair, Cond.instanceMethod yX0_impair, Cond.selects RX0 yX0_impair yX0_impair, Cond.code yX0_impair cX0_impair 3 none]
def wsL_event_r7 : List Cond := [Cond.methodLink RX0 114 yX0_restore, Cond.instanceMethod yX0_restore, Cond.selects RX0 yX0_restore yX0_restore, Cond.code yX0_restore cX0_restore 3 none, Cond.methodLink RX0 117 yX0_sell, Cond.instanceMethod yX0_sell, Cond.selects RX0 yX0_sell yX0_sell, Cond.code yX0_sell cX0_sell 2 none, Cond.constantLong RX0 130 (1000000), Cond.constant RX0 135 (1000000), Cond.static yX4_rounded, Cond.code yX4_rounded cX4_rounded 4 (some .long), Cond.constantLong RX4 197 (2), Cond.methodLink RX4 193 yX0_chargeMonth, Cond.instanceMethod yX0_chargeMonth, Cond.selects RX0 yX0_chargeMonth yX0_chargeMonth, Cond.code yX0_chargeMonth cX0_chargeMonth 2 none, Cond.methodLink RX0 94 yX0_decliningCharge, Cond.instanceMethod yX0_decliningCharge, Cond.selects RX0 yX0_decliningCharge yX0_decliningCharge, Cond.code yX0_decliningCharge cX0_decliningCharge 7 (some .long), Cond.methodLink RX0 97 yX3_nextCharge, Cond.instanceMethod yX3_nextCharge, Cond.selects RX3 yX3_nextCharge yX3_nextCharge]
def wsL_event_r8 : List Cond := [Cond.code yX3_nextCharge cX3_nextCharge 5 (some .long), Cond.methodLink RX3 30 yX3_chargesTogether, Cond.instanceMethod yX3_chargesTogether, Cond.selects RX3 yX3_chargesTogether yX3_chargesTogether, Cond.code yX3_chargesTogether cX3_chargesTogether 2 (some .long), Cond.methodLink RX3 42 Lib.MathLoose.min_long.x, Cond.methodLink RX3 38 yX3_sumUpTo, Cond.static yX3_sumUpTo, Cond.code yX3_sumUpTo cX3_sumUpTo 2 (some .long), Cond.constantLong RX3 47 (2)]
def wsL_event : List Cond := .codeWith yL_event cL_event 9 (some .int) [(0, 16, 19, 13), (0, 16, 23, 15)] :: ((wsL_event_r1 ++ (wsL_event_r2 ++ (wsL_event_r3 ++ (wsL_event_r4 ++ (wsL_event_r5 ++ (wsL_event_r6 ++ (wsL_event_r7 ++ wsL_event_r8))))))) ++ wsX20 ++ wsX40 ++ wsX10 ++ wsX00 ++ wsX30 ++ (vx_atS RX4 51 "java/lang/IllegalArgumentException" ["java/lang/RuntimeException", "java/lang/Exception"]).filter goodWord ++ (vx_atS RX4 62 "java/lang/IllegalStateException" ["java/lang/RuntimeException", "java/lang/Exception"]).filter goodWord)
def wsL_value_r1 : List Cond := [Cond.classLink RL 13 "java/lang/IllegalArgumentException", Cond.methodLink RL 25 yX4_value, Cond.instanceMethod yX4_value, Cond.selects RX4 yX4_value yX4_value, Cond.initialized RX4, Cond.code yX4_value cX4_value 5 (some .long), Cond.classLink RX4 47 "java/lang/IllegalArgumentException", Cond.initialized "java/lang/IllegalArgumentException", Cond.constantLong RX4 123 (6), Cond.fieldLink RX4 84 "AgedAssets$Part" "firstMonth" "I", Cond.fieldLink RX4 24 "AgedAssets" "full" "LAgedAssets$Course;", Cond.methodLink RX4 66 yX4_partOf, Cond.instanceMethod yX4_partOf, Cond.selects RX4 yX4_partOf yX4_partOf, Cond.code yX4_partOf cX4_partOf 2 (some (.object "AgedAssets$Part")), Cond.fieldLink RX4 54 "AgedAssets" "partCount" "I", Cond.fieldLink RX4 11 "AgedAssets" "partRow" "[LAgedAssets$Part;", Cond.methodLink RX4 37 yX4_isMonth, Cond.static yX4_isMonth, Cond.code yX4_isMonth cX4_isMonth 1 (some .boolean), Cond.methodLink RX4 33 yX4_isWithin, Cond.static yX4_isWithin, Cond.code yX4_isWithin cX4_isWithin 6 (some .boolean), Cond.methodLink RX4 127 yX4_follow]
def wsL_value_r2 : List Cond := [Cond.instanceMethod yX4_follow, Cond.selects RX4 yX4_follow yX4_follow, Cond.code yX4_follow cX4_follow 5 none, Cond.fieldLink RX4 28 "AgedAssets" "bare" "LAgedAssets$Course;", Cond.fieldLink RX4 93 "AgedAssets$Part" "eventIn" "[LAgedAssets$Event;", Cond.fieldLink RX4 117 "AgedAssets$Event" "kind" "I", Cond.constantLong RX4 191 (-1), Cond.fieldLink RX4 74 "AgedAssets$Part" "unitsIn" "[I", Cond.methodLink RX4 183 yX0_open, Cond.instanceMethod yX0_open, Cond.selects RX0 yX0_open yX0_open, Cond.initialized RX0, Cond.code yX0_open cX0_open 2 none, Cond.fieldLink RX0 18 "AgedAssets$Part" "method" "I", Cond.fieldLink RX0 24 "AgedAssets$Course" "method" "I", Cond.fieldLink RX0 25 "AgedAssets$Part" "rate" "I", Cond.fieldLink RX0 28 "AgedAssets$Course" "rate" "I", Cond.fieldLink RX0 29 "AgedAssets$Part" "cost" "J", Cond.fieldLink RX0 33 "AgedAssets$Course" "cost" "J", Cond.fieldLink RX0 34 "AgedAssets$Course" "allowance" "J", Cond.fieldLink RX0 37 "AgedAssets$Course" "reserve" "J", Cond.fieldLink RX0 40 "AgedAssets$Course" "losses" "J", Cond.fieldLink RX0 43 "AgedAssets$Part" "residual" "J", Cond.fieldLink RX0 46 "AgedAssets$Course" "residual" "J"]
def wsL_value_r3 : List Cond := [Cond.fieldLink RX0 47 "AgedAssets$Part" "life" "I", Cond.fieldLink RX0 50 "AgedAssets$Course" "restOfLife" "I", Cond.fieldLink RX0 53 "AgedAssets$Course" "held" "Z", Cond.fieldLink RX0 57 "AgedAssets$Course" "gone" "Z", Cond.fieldLink RX0 60 "AgedAssets$Course" "breached" "Z", Cond.fieldLink RX0 63 "AgedAssets$Course" "chargedUnits" "J", Cond.fieldLink RX0 66 "AgedAssets$Course" "lastCharge" "J", Cond.fieldLink RX0 69 "AgedAssets$Course" "allCharges" "J", Cond.methodLink RX0 72 yX0_beginStretch, Cond.instanceMethod yX0_beginStretch, Cond.selects RX0 yX0_beginStretch yX0_beginStretch, Cond.code yX0_beginStretch cX0_beginStretch 1 none, Cond.fieldLink RX0 12 "AgedAssets$Course" "stretch" "LAgedAssets$Stretch;", Cond.methodLink RX0 136 Lib.MathLoose.max_long.x, Cond.static Lib.MathLoose.max_long.x, Cond.initialized "java/lang/Math", Cond.code Lib.MathLoose.max_long.x Lib.MathLoose.max_long.code 4 (some .long), Cond.methodLink RX0 77 yX0_book, Cond.instanceMethod yX0_book, Cond.selects RX0 yX0_book yX0_book, Cond.code yX0_book cX0_book 1 (some .long), Cond.methodLink RX0 139 yX3_begin, Cond.instanceMethod yX3_begin, Cond.selects RX3 yX3_begin yX3_begin]
def wsL_value_r4 : List Cond := [Cond.initialized RX3, Cond.code yX3_begin cX3_begin 7 none, Cond.fieldLink RX3 9 "AgedAssets$Stretch" "base" "J", Cond.fieldLink RX3 15 "AgedAssets$Stretch" "length" "J", Cond.fieldLink RX3 18 "AgedAssets$Stretch" "unitsLeft" "J", Cond.fieldLink RX3 21 "AgedAssets$Stretch" "monthsCharged" "J", Cond.fieldLink RX3 24 "AgedAssets$Stretch" "unitsCharged" "J", Cond.fieldLink RX3 27 "AgedAssets$Stretch" "charged" "J", Cond.methodLink RX4 159 yX0_bookOrNone, Cond.instanceMethod yX0_bookOrNone, Cond.selects RX0 yX0_bookOrNone yX0_bookOrNone, Cond.code yX0_bookOrNone cX0_bookOrNone 1 (some .long), Cond.constantLong RX0 75 (-1), Cond.methodLink RX4 187 yX0_meet, Cond.instanceMethod yX0_meet, Cond.selects RX0 yX0_meet yX0_meet, Cond.code yX0_meet cX0_meet 4 none, Cond.fieldLink RX0 89 "AgedAssets$Event" "kind" "I", Cond.methodLink RX0 81 yX0_isBreach, Cond.instanceMethod yX0_isBreach, Cond.selects RX0 yX0_isBreach yX0_isBreach, Cond.code yX0_isBreach cX0_isBreach 4 (some .boolean), Cond.fieldLink RX0 101 "AgedAssets$Event" "amount" "J", Cond.methodLink RX0 85 yX0_apply]
def wsL_value_r5 : List Cond := [Cond.instanceMethod yX0_apply, Cond.selects RX0 yX0_apply yX0_apply, Cond.code yX0_apply cX0_apply 2 none, Cond.fieldLink RX0 104 "AgedAssets$Event" "number" "I", Cond.methodLink RX0 107 yX0_revalue, Cond.instanceMethod yX0_revalue, Cond.selects RX0 yX0_revalue yX0_revalue, Cond.code yX0_revalue cX0_revalue 3 none, Cond.methodLink RX0 121 yX0_lose, Cond.instanceMethod yX0_lose, Cond.selects RX0 yX0_lose yX0_lose, Cond.code yX0_lose cX0_lose 5 none, Cond.methodLink RX0 124 Lib.MathLoose.min_long.x, Cond.static Lib.MathLoose.min_long.x, Cond.code Lib.MathLoose.min_long.x Lib.MathLoose.min_long.code 4 (some .long), Cond.methodLink RX0 111 yX0_impair, Cond.instanceMethod yX0_impair, Cond.selects RX0 yX0_impair yX0_impair, Cond.code yX0_impair cX0_impair 3 none, Cond.methodLink RX0 114 yX0_restore, Cond.instanceMethod yX0_restore, Cond.selects RX0 yX0_restore yX0_restore, Cond.code yX0_restore cX0_restore 3 none, Cond.methodLink RX0 117 yX0_sell]
def wsL_value_r6 : List Cond := [Cond.instanceMethod yX0_sell, Cond.selects RX0 yX0_sell yX0_sell, Cond.code yX0_sell cX0_sell 2 none, Cond.constantLong RX0 130 (1000000), Cond.constant RX0 135 (1000000), Cond.static yX4_rounded, Cond.code yX4_rounded cX4_rounded 4 (some .long), Cond.constantLong RX4 197 (2), Cond.methodLink RX4 193 yX0_chargeMonth, Cond.instanceMethod yX0_chargeMonth, Cond.selects RX0 yX0_chargeMonth yX0_chargeMonth, Cond.code yX0_chargeMonth cX0_chargeMonth 2 none, Cond.methodLink RX0 94 yX0_decliningCharge, Cond.instanceMethod yX0_decliningCharge, Cond.selects RX0 yX0_decliningCharge yX0_decliningCharge, Cond.code yX0_decliningCharge cX0_decliningCharge 7 (some .long), Cond.methodLink RX0 97 yX3_nextCharge, Cond.instanceMethod yX3_nextCharge, Cond.selects RX3 yX3_nextCharge yX3_nextCharge, Cond.code yX3_nextCharge cX3_nextCharge 5 (some .long), Cond.methodLink RX3 30 yX3_chargesTogether, Cond.instanceMethod yX3_chargesTogether, Cond.selects RX3 yX3_chargesTogether yX3_chargesTogether, Cond.code yX3_chargesTogether cX3_chargesTogether 2 (some .long)]
def wsL_value_r7 : List Cond := [Cond.methodLink RX3 42 Lib.MathLoose.min_long.x, Cond.methodLink RX3 38 yX3_sumUpTo, Cond.static yX3_sumUpTo, Cond.code yX3_sumUpTo cX3_sumUpTo 2 (some .long), Cond.constantLong RX3 47 (2), Cond.methodLink RX4 138 yX0_book]
def wsL_value : List Cond := .codeWith yL_value cL_value 6 (some .int) [(0, 11, 14, 13)] :: ((wsL_value_r1 ++ (wsL_value_r2 ++ (wsL_value_r3 ++ (wsL_value_r4 ++ (wsL_value_r5 ++ (wsL_value_r6 ++ wsL_value_r7)))))) ++ wsX20 ++ wsX40 ++ wsX00 ++ wsX10 ++ wsX30 ++ (vx_atS RX4 51 "java/lang/IllegalArgumentException" ["java/lang/RuntimeException", "java/lang/Exception"]).filter goodWord)
def wsL_charge_r1 : List Cond := [Cond.classLink RL 13 "java/lang/IllegalArgumentException", Cond.methodLink RL 29 yX4_charge, Cond.instanceMethod yX4_charge, Cond.selects RX4 yX4_charge yX4_charge, Cond.initialized RX4, Cond.code yX4_charge cX4_charge 4 (some .long), Cond.classLink RX4 47 "java/lang/IllegalArgumentException", Cond.initialized "java/lang/IllegalArgumentException", Cond.fieldLink RX4 84 "AgedAssets$Part" "firstMonth" "I", Cond.fieldLink RX4 24 "AgedAssets" "full" "LAgedAssets$Course;", Cond.methodLink RX4 66 yX4_partOf, Cond.instanceMethod yX4_partOf, Cond.selects RX4 yX4_partOf yX4_partOf, Cond.code yX4_partOf cX4_partOf 2 (some (.object "AgedAssets$Part")), Cond.fieldLink RX4 54 "AgedAssets" "partCount" "I", Cond.fieldLink RX4 11 "AgedAssets" "partRow" "[LAgedAssets$Part;", Cond.methodLink RX4 37 yX4_isMonth, Cond.static yX4_isMonth, Cond.code yX4_isMonth cX4_isMonth 1 (some .boolean), Cond.methodLink RX4 127 yX4_follow, Cond.instanceMethod yX4_follow, Cond.selects RX4 yX4_follow yX4_follow, Cond.code yX4_follow cX4_follow 5 none, Cond.fieldLink RX4 28 "AgedAssets" "bare" "LAgedAssets$Course;"]
def wsL_charge_r2 : List Cond := [Cond.fieldLink RX4 93 "AgedAssets$Part" "eventIn" "[LAgedAssets$Event;", Cond.fieldLink RX4 117 "AgedAssets$Event" "kind" "I", Cond.constantLong RX4 191 (-1), Cond.fieldLink RX4 74 "AgedAssets$Part" "unitsIn" "[I", Cond.methodLink RX4 183 yX0_open, Cond.instanceMethod yX0_open, Cond.selects RX0 yX0_open yX0_open, Cond.initialized RX0, Cond.code yX0_open cX0_open 2 none, Cond.fieldLink RX0 18 "AgedAssets$Part" "method" "I", Cond.fieldLink RX0 24 "AgedAssets$Course" "method" "I", Cond.fieldLink RX0 25 "AgedAssets$Part" "rate" "I", Cond.fieldLink RX0 28 "AgedAssets$Course" "rate" "I", Cond.fieldLink RX0 29 "AgedAssets$Part" "cost" "J", Cond.fieldLink RX0 33 "AgedAssets$Course" "cost" "J", Cond.fieldLink RX0 34 "AgedAssets$Course" "allowance" "J", Cond.fieldLink RX0 37 "AgedAssets$Course" "reserve" "J", Cond.fieldLink RX0 40 "AgedAssets$Course" "losses" "J", Cond.fieldLink RX0 43 "AgedAssets$Part" "residual" "J", Cond.fieldLink RX0 46 "AgedAssets$Course" "residual" "J", Cond.fieldLink RX0 47 "AgedAssets$Part" "life" "I", Cond.fieldLink RX0 50 "AgedAssets$Course" "restOfLife" "I", Cond.fieldLink RX0 53 "AgedAssets$Course" "held" "Z", Cond.fieldLink RX0 57 "AgedAssets$Course" "gone" "Z"]
def wsL_charge_r3 : List Cond := [Cond.fieldLink RX0 60 "AgedAssets$Course" "breached" "Z", Cond.fieldLink RX0 63 "AgedAssets$Course" "chargedUnits" "J", Cond.fieldLink RX0 66 "AgedAssets$Course" "lastCharge" "J", Cond.fieldLink RX0 69 "AgedAssets$Course" "allCharges" "J", Cond.methodLink RX0 72 yX0_beginStretch, Cond.instanceMethod yX0_beginStretch, Cond.selects RX0 yX0_beginStretch yX0_beginStretch, Cond.code yX0_beginStretch cX0_beginStretch 1 none, Cond.fieldLink RX0 12 "AgedAssets$Course" "stretch" "LAgedAssets$Stretch;", Cond.methodLink RX0 136 Lib.MathLoose.max_long.x, Cond.static Lib.MathLoose.max_long.x, Cond.initialized "java/lang/Math", Cond.code Lib.MathLoose.max_long.x Lib.MathLoose.max_long.code 4 (some .long), Cond.methodLink RX0 77 yX0_book, Cond.instanceMethod yX0_book, Cond.selects RX0 yX0_book yX0_book, Cond.code yX0_book cX0_book 1 (some .long), Cond.methodLink RX0 139 yX3_begin, Cond.instanceMethod yX3_begin, Cond.selects RX3 yX3_begin yX3_begin, Cond.initialized RX3, Cond.code yX3_begin cX3_begin 7 none, Cond.fieldLink RX3 9 "AgedAssets$Stretch" "base" "J", Cond.fieldLink RX3 15 "AgedAssets$Stretch" "length" "J"]
def wsL_charge_r4 : List Cond := [Cond.fieldLink RX3 18 "AgedAssets$Stretch" "unitsLeft" "J", Cond.fieldLink RX3 21 "AgedAssets$Stretch" "monthsCharged" "J", Cond.fieldLink RX3 24 "AgedAssets$Stretch" "unitsCharged" "J", Cond.fieldLink RX3 27 "AgedAssets$Stretch" "charged" "J", Cond.methodLink RX4 159 yX0_bookOrNone, Cond.instanceMethod yX0_bookOrNone, Cond.selects RX0 yX0_bookOrNone yX0_bookOrNone, Cond.code yX0_bookOrNone cX0_bookOrNone 1 (some .long), Cond.constantLong RX0 75 (-1), Cond.methodLink RX4 187 yX0_meet, Cond.instanceMethod yX0_meet, Cond.selects RX0 yX0_meet yX0_meet, Cond.code yX0_meet cX0_meet 4 none, Cond.fieldLink RX0 89 "AgedAssets$Event" "kind" "I", Cond.methodLink RX0 81 yX0_isBreach, Cond.instanceMethod yX0_isBreach, Cond.selects RX0 yX0_isBreach yX0_isBreach, Cond.code yX0_isBreach cX0_isBreach 4 (some .boolean), Cond.fieldLink RX0 101 "AgedAssets$Event" "amount" "J", Cond.methodLink RX0 85 yX0_apply, Cond.instanceMethod yX0_apply, Cond.selects RX0 yX0_apply yX0_apply, Cond.code yX0_apply cX0_apply 2 none, Cond.fieldLink RX0 104 "AgedAssets$Event" "number" "I"]
def wsL_charge_r5 : List Cond := [Cond.methodLink RX0 107 yX0_revalue, Cond.instanceMethod yX0_revalue, Cond.selects RX0 yX0_revalue yX0_revalue, Cond.code yX0_revalue cX0_revalue 3 none, Cond.methodLink RX0 121 yX0_lose, Cond.instanceMethod yX0_lose, Cond.selects RX0 yX0_lose yX0_lose, Cond.code yX0_lose cX0_lose 5 none, Cond.methodLink RX0 124 Lib.MathLoose.min_long.x, Cond.static Lib.MathLoose.min_long.x, Cond.code Lib.MathLoose.min_long.x Lib.MathLoose.min_long.code 4 (some .long), Cond.methodLink RX0 111 yX0_impair, Cond.instanceMethod yX0_impair, Cond.selects RX0 yX0_impair yX0_impair, Cond.code yX0_impair cX0_impair 3 none, Cond.methodLink RX0 114 yX0_restore, Cond.instanceMethod yX0_restore, Cond.selects RX0 yX0_restore yX0_restore, Cond.code yX0_restore cX0_restore 3 none, Cond.methodLink RX0 117 yX0_sell, Cond.instanceMethod yX0_sell, Cond.selects RX0 yX0_sell yX0_sell, Cond.code yX0_sell cX0_sell 2 none, Cond.constantLong RX0 130 (1000000)]
def wsL_charge_r6 : List Cond := [Cond.constant RX0 135 (1000000), Cond.static yX4_rounded, Cond.code yX4_rounded cX4_rounded 4 (some .long), Cond.constantLong RX4 197 (2), Cond.methodLink RX4 193 yX0_chargeMonth, Cond.instanceMethod yX0_chargeMonth, Cond.selects RX0 yX0_chargeMonth yX0_chargeMonth, Cond.code yX0_chargeMonth cX0_chargeMonth 2 none, Cond.methodLink RX0 94 yX0_decliningCharge, Cond.instanceMethod yX0_decliningCharge, Cond.selects RX0 yX0_decliningCharge yX0_decliningCharge, Cond.code yX0_decliningCharge cX0_decliningCharge 7 (some .long), Cond.methodLink RX0 97 yX3_nextCharge, Cond.instanceMethod yX3_nextCharge, Cond.selects RX3 yX3_nextCharge yX3_nextCharge, Cond.code yX3_nextCharge cX3_nextCharge 5 (some .long), Cond.methodLink RX3 30 yX3_chargesTogether, Cond.instanceMethod yX3_chargesTogether, Cond.selects RX3 yX3_chargesTogether yX3_chargesTogether, Cond.code yX3_chargesTogether cX3_chargesTogether 2 (some .long), Cond.methodLink RX3 42 Lib.MathLoose.min_long.x, Cond.methodLink RX3 38 yX3_sumUpTo, Cond.static yX3_sumUpTo, Cond.code yX3_sumUpTo cX3_sumUpTo 2 (some .long)]
def wsL_charge_r7 : List Cond := [Cond.constantLong RX3 47 (2)]
def wsL_charge : List Cond := .codeWith yL_charge cL_charge 5 (some .int) [(0, 9, 12, 13)] :: ((wsL_charge_r1 ++ (wsL_charge_r2 ++ (wsL_charge_r3 ++ (wsL_charge_r4 ++ (wsL_charge_r5 ++ (wsL_charge_r6 ++ wsL_charge_r7)))))) ++ wsX20 ++ wsX40 ++ wsX00 ++ wsX10 ++ wsX30 ++ (vx_atS RX4 51 "java/lang/IllegalArgumentException" ["java/lang/RuntimeException", "java/lang/Exception"]).filter goodWord)
def wsL_without_r1 : List Cond := [Cond.classLink RL 13 "java/lang/IllegalArgumentException", Cond.methodLink RL 33 yX4_without, Cond.instanceMethod yX4_without, Cond.selects RX4 yX4_without yX4_without, Cond.initialized RX4, Cond.code yX4_without cX4_without 4 (some .long), Cond.classLink RX4 47 "java/lang/IllegalArgumentException", Cond.initialized "java/lang/IllegalArgumentException", Cond.fieldLink RX4 84 "AgedAssets$Part" "firstMonth" "I", Cond.fieldLink RX4 28 "AgedAssets" "bare" "LAgedAssets$Course;", Cond.methodLink RX4 66 yX4_partOf, Cond.instanceMethod yX4_partOf, Cond.selects RX4 yX4_partOf yX4_partOf, Cond.code yX4_partOf cX4_partOf 2 (some (.object "AgedAssets$Part")), Cond.fieldLink RX4 54 "AgedAssets" "partCount" "I", Cond.fieldLink RX4 11 "AgedAssets" "partRow" "[LAgedAssets$Part;", Cond.methodLink RX4 37 yX4_isMonth, Cond.static yX4_isMonth, Cond.code yX4_isMonth cX4_isMonth 1 (some .boolean), Cond.methodLink RX4 127 yX4_follow, Cond.instanceMethod yX4_follow, Cond.selects RX4 yX4_follow yX4_follow, Cond.code yX4_follow cX4_follow 5 none, Cond.fieldLink RX4 24 "AgedAssets" "full" "LAgedAssets$Course;"]
def wsL_without_r2 : List Cond := [Cond.fieldLink RX4 93 "AgedAssets$Part" "eventIn" "[LAgedAssets$Event;", Cond.fieldLink RX4 117 "AgedAssets$Event" "kind" "I", Cond.constantLong RX4 191 (-1), Cond.fieldLink RX4 74 "AgedAssets$Part" "unitsIn" "[I", Cond.methodLink RX4 183 yX0_open, Cond.instanceMethod yX0_open, Cond.selects RX0 yX0_open yX0_open, Cond.initialized RX0, Cond.code yX0_open cX0_open 2 none, Cond.fieldLink RX0 18 "AgedAssets$Part" "method" "I", Cond.fieldLink RX0 24 "AgedAssets$Course" "method" "I", Cond.fieldLink RX0 25 "AgedAssets$Part" "rate" "I", Cond.fieldLink RX0 28 "AgedAssets$Course" "rate" "I", Cond.fieldLink RX0 29 "AgedAssets$Part" "cost" "J", Cond.fieldLink RX0 33 "AgedAssets$Course" "cost" "J", Cond.fieldLink RX0 34 "AgedAssets$Course" "allowance" "J", Cond.fieldLink RX0 37 "AgedAssets$Course" "reserve" "J", Cond.fieldLink RX0 40 "AgedAssets$Course" "losses" "J", Cond.fieldLink RX0 43 "AgedAssets$Part" "residual" "J", Cond.fieldLink RX0 46 "AgedAssets$Course" "residual" "J", Cond.fieldLink RX0 47 "AgedAssets$Part" "life" "I", Cond.fieldLink RX0 50 "AgedAssets$Course" "restOfLife" "I", Cond.fieldLink RX0 53 "AgedAssets$Course" "held" "Z", Cond.fieldLink RX0 57 "AgedAssets$Course" "gone" "Z"]
def wsL_without_r3 : List Cond := [Cond.fieldLink RX0 60 "AgedAssets$Course" "breached" "Z", Cond.fieldLink RX0 63 "AgedAssets$Course" "chargedUnits" "J", Cond.fieldLink RX0 66 "AgedAssets$Course" "lastCharge" "J", Cond.fieldLink RX0 69 "AgedAssets$Course" "allCharges" "J", Cond.methodLink RX0 72 yX0_beginStretch, Cond.instanceMethod yX0_beginStretch, Cond.selects RX0 yX0_beginStretch yX0_beginStretch, Cond.code yX0_beginStretch cX0_beginStretch 1 none, Cond.fieldLink RX0 12 "AgedAssets$Course" "stretch" "LAgedAssets$Stretch;", Cond.methodLink RX0 136 Lib.MathLoose.max_long.x, Cond.static Lib.MathLoose.max_long.x, Cond.initialized "java/lang/Math", Cond.code Lib.MathLoose.max_long.x Lib.MathLoose.max_long.code 4 (some .long), Cond.methodLink RX0 77 yX0_book, Cond.instanceMethod yX0_book, Cond.selects RX0 yX0_book yX0_book, Cond.code yX0_book cX0_book 1 (some .long), Cond.methodLink RX0 139 yX3_begin, Cond.instanceMethod yX3_begin, Cond.selects RX3 yX3_begin yX3_begin, Cond.initialized RX3, Cond.code yX3_begin cX3_begin 7 none, Cond.fieldLink RX3 9 "AgedAssets$Stretch" "base" "J", Cond.fieldLink RX3 15 "AgedAssets$Stretch" "length" "J"]
def wsL_without_r4 : List Cond := [Cond.fieldLink RX3 18 "AgedAssets$Stretch" "unitsLeft" "J", Cond.fieldLink RX3 21 "AgedAssets$Stretch" "monthsCharged" "J", Cond.fieldLink RX3 24 "AgedAssets$Stretch" "unitsCharged" "J", Cond.fieldLink RX3 27 "AgedAssets$Stretch" "charged" "J", Cond.methodLink RX4 159 yX0_bookOrNone, Cond.instanceMethod yX0_bookOrNone, Cond.selects RX0 yX0_bookOrNone yX0_bookOrNone, Cond.code yX0_bookOrNone cX0_bookOrNone 1 (some .long), Cond.constantLong RX0 75 (-1), Cond.methodLink RX4 187 yX0_meet, Cond.instanceMethod yX0_meet, Cond.selects RX0 yX0_meet yX0_meet, Cond.code yX0_meet cX0_meet 4 none, Cond.fieldLink RX0 89 "AgedAssets$Event" "kind" "I", Cond.methodLink RX0 81 yX0_isBreach, Cond.instanceMethod yX0_isBreach, Cond.selects RX0 yX0_isBreach yX0_isBreach, Cond.code yX0_isBreach cX0_isBreach 4 (some .boolean), Cond.fieldLink RX0 101 "AgedAssets$Event" "amount" "J", Cond.methodLink RX0 85 yX0_apply, Cond.instanceMethod yX0_apply, Cond.selects RX0 yX0_apply yX0_apply, Cond.code yX0_apply cX0_apply 2 none, Cond.fieldLink RX0 104 "AgedAssets$Event" "number" "I"]
def wsL_without_r5 : List Cond := [Cond.methodLink RX0 107 yX0_revalue, Cond.instanceMethod yX0_revalue, Cond.selects RX0 yX0_revalue yX0_revalue, Cond.code yX0_revalue cX0_revalue 3 none, Cond.methodLink RX0 121 yX0_lose, Cond.instanceMethod yX0_lose, Cond.selects RX0 yX0_lose yX0_lose, Cond.code yX0_lose cX0_lose 5 none, Cond.methodLink RX0 124 Lib.MathLoose.min_long.x, Cond.static Lib.MathLoose.min_long.x, Cond.code Lib.MathLoose.min_long.x Lib.MathLoose.min_long.code 4 (some .long), Cond.methodLink RX0 111 yX0_impair, Cond.instanceMethod yX0_impair, Cond.selects RX0 yX0_impair yX0_impair, Cond.code yX0_impair cX0_impair 3 none, Cond.methodLink RX0 114 yX0_restore, Cond.instanceMethod yX0_restore, Cond.selects RX0 yX0_restore yX0_restore, Cond.code yX0_restore cX0_restore 3 none, Cond.methodLink RX0 117 yX0_sell, Cond.instanceMethod yX0_sell, Cond.selects RX0 yX0_sell yX0_sell, Cond.code yX0_sell cX0_sell 2 none, Cond.constantLong RX0 130 (1000000)]
def wsL_without_r6 : List Cond := [Cond.constant RX0 135 (1000000), Cond.static yX4_rounded, Cond.code yX4_rounded cX4_rounded 4 (some .long), Cond.constantLong RX4 197 (2), Cond.methodLink RX4 193 yX0_chargeMonth, Cond.instanceMethod yX0_chargeMonth, Cond.selects RX0 yX0_chargeMonth yX0_chargeMonth, Cond.code yX0_chargeMonth cX0_chargeMonth 2 none, Cond.methodLink RX0 94 yX0_decliningCharge, Cond.instanceMethod yX0_decliningCharge, Cond.selects RX0 yX0_decliningCharge yX0_decliningCharge, Cond.code yX0_decliningCharge cX0_decliningCharge 7 (some .long), Cond.methodLink RX0 97 yX3_nextCharge, Cond.instanceMethod yX3_nextCharge, Cond.selects RX3 yX3_nextCharge yX3_nextCharge, Cond.code yX3_nextCharge cX3_nextCharge 5 (some .long), Cond.methodLink RX3 30 yX3_chargesTogether, Cond.instanceMethod yX3_chargesTogether, Cond.selects RX3 yX3_chargesTogether yX3_chargesTogether, Cond.code yX3_chargesTogether cX3_chargesTogether 2 (some .long), Cond.methodLink RX3 42 Lib.MathLoose.min_long.x, Cond.methodLink RX3 38 yX3_sumUpTo, Cond.static yX3_sumUpTo, Cond.code yX3_sumUpTo cX3_sumUpTo 2 (some .long)]
def wsL_without_r7 : List Cond := [Cond.constantLong RX3 47 (2)]
def wsL_without : List Cond := .codeWith yL_without cL_without 5 (some .int) [(0, 9, 12, 13)] :: ((wsL_without_r1 ++ (wsL_without_r2 ++ (wsL_without_r3 ++ (wsL_without_r4 ++ (wsL_without_r5 ++ (wsL_without_r6 ++ wsL_without_r7)))))) ++ wsX20 ++ wsX40 ++ wsX10 ++ wsX00 ++ wsX30 ++ (vx_atS RX4 51 "java/lang/IllegalArgumentException" ["java/lang/RuntimeException", "java/lang/Exception"]).filter goodWord)
def wsL_post_r1 : List Cond := [Cond.classLink RL 15 "java/lang/IllegalStateException", Cond.methodLink RL 36 yX4_post, Cond.instanceMethod yX4_post, Cond.selects RX4 yX4_post yX4_post, Cond.initialized RX4, Cond.code yX4_post cX4_post 6 (some .long), Cond.classLink RX4 58 "java/lang/IllegalStateException", Cond.initialized "java/lang/IllegalStateException", Cond.fieldLink RX4 162 "AgedAssets" "monthCount" "I", Cond.fieldLink RX4 54 "AgedAssets" "partCount" "I", Cond.fieldLink RX4 84 "AgedAssets$Part" "firstMonth" "I", Cond.fieldLink RX4 167 "AgedAssets$Part" "postedIn" "[J", Cond.fieldLink RX4 24 "AgedAssets" "full" "LAgedAssets$Course;", Cond.fieldLink RX4 174 "AgedAssets$Part" "postedInAll" "J", Cond.methodLink RX4 66 yX4_partOf, Cond.instanceMethod yX4_partOf, Cond.selects RX4 yX4_partOf yX4_partOf, Cond.code yX4_partOf cX4_partOf 2 (some (.object "AgedAssets$Part")), Cond.fieldLink RX4 11 "AgedAssets" "partRow" "[LAgedAssets$Part;", Cond.methodLink RX4 127 yX4_follow, Cond.instanceMethod yX4_follow, Cond.selects RX4 yX4_follow yX4_follow, Cond.code yX4_follow cX4_follow 5 none, Cond.fieldLink RX4 28 "AgedAssets" "bare" "LAgedAssets$Course;"]
def wsL_post_r2 : List Cond := [Cond.fieldLink RX4 93 "AgedAssets$Part" "eventIn" "[LAgedAssets$Event;", Cond.fieldLink RX4 117 "AgedAssets$Event" "kind" "I", Cond.constantLong RX4 191 (-1), Cond.fieldLink RX4 74 "AgedAssets$Part" "unitsIn" "[I", Cond.methodLink RX4 183 yX0_open, Cond.instanceMethod yX0_open, Cond.selects RX0 yX0_open yX0_open, Cond.initialized RX0, Cond.code yX0_open cX0_open 2 none, Cond.fieldLink RX0 18 "AgedAssets$Part" "method" "I", Cond.fieldLink RX0 24 "AgedAssets$Course" "method" "I", Cond.fieldLink RX0 25 "AgedAssets$Part" "rate" "I", Cond.fieldLink RX0 28 "AgedAssets$Course" "rate" "I", Cond.fieldLink RX0 29 "AgedAssets$Part" "cost" "J", Cond.fieldLink RX0 33 "AgedAssets$Course" "cost" "J", Cond.fieldLink RX0 34 "AgedAssets$Course" "allowance" "J", Cond.fieldLink RX0 37 "AgedAssets$Course" "reserve" "J", Cond.fieldLink RX0 40 "AgedAssets$Course" "losses" "J", Cond.fieldLink RX0 43 "AgedAssets$Part" "residual" "J", Cond.fieldLink RX0 46 "AgedAssets$Course" "residual" "J", Cond.fieldLink RX0 47 "AgedAssets$Part" "life" "I", Cond.fieldLink RX0 50 "AgedAssets$Course" "restOfLife" "I", Cond.fieldLink RX0 53 "AgedAssets$Course" "held" "Z", Cond.fieldLink RX0 57 "AgedAssets$Course" "gone" "Z"]
def wsL_post_r3 : List Cond := [Cond.fieldLink RX0 60 "AgedAssets$Course" "breached" "Z", Cond.fieldLink RX0 63 "AgedAssets$Course" "chargedUnits" "J", Cond.fieldLink RX0 66 "AgedAssets$Course" "lastCharge" "J", Cond.fieldLink RX0 69 "AgedAssets$Course" "allCharges" "J", Cond.methodLink RX0 72 yX0_beginStretch, Cond.instanceMethod yX0_beginStretch, Cond.selects RX0 yX0_beginStretch yX0_beginStretch, Cond.code yX0_beginStretch cX0_beginStretch 1 none, Cond.fieldLink RX0 12 "AgedAssets$Course" "stretch" "LAgedAssets$Stretch;", Cond.methodLink RX0 136 Lib.MathLoose.max_long.x, Cond.static Lib.MathLoose.max_long.x, Cond.initialized "java/lang/Math", Cond.code Lib.MathLoose.max_long.x Lib.MathLoose.max_long.code 4 (some .long), Cond.methodLink RX0 77 yX0_book, Cond.instanceMethod yX0_book, Cond.selects RX0 yX0_book yX0_book, Cond.code yX0_book cX0_book 1 (some .long), Cond.methodLink RX0 139 yX3_begin, Cond.instanceMethod yX3_begin, Cond.selects RX3 yX3_begin yX3_begin, Cond.initialized RX3, Cond.code yX3_begin cX3_begin 7 none, Cond.fieldLink RX3 9 "AgedAssets$Stretch" "base" "J", Cond.fieldLink RX3 15 "AgedAssets$Stretch" "length" "J"]
def wsL_post_r4 : List Cond := [Cond.fieldLink RX3 18 "AgedAssets$Stretch" "unitsLeft" "J", Cond.fieldLink RX3 21 "AgedAssets$Stretch" "monthsCharged" "J", Cond.fieldLink RX3 24 "AgedAssets$Stretch" "unitsCharged" "J", Cond.fieldLink RX3 27 "AgedAssets$Stretch" "charged" "J", Cond.methodLink RX4 159 yX0_bookOrNone, Cond.instanceMethod yX0_bookOrNone, Cond.selects RX0 yX0_bookOrNone yX0_bookOrNone, Cond.code yX0_bookOrNone cX0_bookOrNone 1 (some .long), Cond.constantLong RX0 75 (-1), Cond.methodLink RX4 187 yX0_meet, Cond.instanceMethod yX0_meet, Cond.selects RX0 yX0_meet yX0_meet, Cond.code yX0_meet cX0_meet 4 none, Cond.fieldLink RX0 89 "AgedAssets$Event" "kind" "I", Cond.methodLink RX0 81 yX0_isBreach, Cond.instanceMethod yX0_isBreach, Cond.selects RX0 yX0_isBreach yX0_isBreach, Cond.code yX0_isBreach cX0_isBreach 4 (some .boolean), Cond.fieldLink RX0 101 "AgedAssets$Event" "amount" "J", Cond.methodLink RX0 85 yX0_apply, Cond.instanceMethod yX0_apply, Cond.selects RX0 yX0_apply yX0_apply, Cond.code yX0_apply cX0_apply 2 none, Cond.fieldLink RX0 104 "AgedAssets$Event" "number" "I"]
def wsL_post_r5 : List Cond := [Cond.methodLink RX0 107 yX0_revalue, Cond.instanceMethod yX0_revalue, Cond.selects RX0 yX0_revalue yX0_revalue, Cond.code yX0_revalue cX0_revalue 3 none, Cond.methodLink RX0 121 yX0_lose, Cond.instanceMethod yX0_lose, Cond.selects RX0 yX0_lose yX0_lose, Cond.code yX0_lose cX0_lose 5 none, Cond.methodLink RX0 124 Lib.MathLoose.min_long.x, Cond.static Lib.MathLoose.min_long.x, Cond.code Lib.MathLoose.min_long.x Lib.MathLoose.min_long.code 4 (some .long), Cond.methodLink RX0 111 yX0_impair, Cond.instanceMethod yX0_impair, Cond.selects RX0 yX0_impair yX0_impair, Cond.code yX0_impair cX0_impair 3 none, Cond.methodLink RX0 114 yX0_restore, Cond.instanceMethod yX0_restore, Cond.selects RX0 yX0_restore yX0_restore, Cond.code yX0_restore cX0_restore 3 none, Cond.methodLink RX0 117 yX0_sell, Cond.instanceMethod yX0_sell, Cond.selects RX0 yX0_sell yX0_sell, Cond.code yX0_sell cX0_sell 2 none, Cond.constantLong RX0 130 (1000000)]
def wsL_post_r6 : List Cond := [Cond.constant RX0 135 (1000000), Cond.static yX4_rounded, Cond.code yX4_rounded cX4_rounded 4 (some .long), Cond.constantLong RX4 197 (2), Cond.methodLink RX4 193 yX0_chargeMonth, Cond.instanceMethod yX0_chargeMonth, Cond.selects RX0 yX0_chargeMonth yX0_chargeMonth, Cond.code yX0_chargeMonth cX0_chargeMonth 2 none, Cond.methodLink RX0 94 yX0_decliningCharge, Cond.instanceMethod yX0_decliningCharge, Cond.selects RX0 yX0_decliningCharge yX0_decliningCharge, Cond.code yX0_decliningCharge cX0_decliningCharge 7 (some .long), Cond.methodLink RX0 97 yX3_nextCharge, Cond.instanceMethod yX3_nextCharge, Cond.selects RX3 yX3_nextCharge yX3_nextCharge, Cond.code yX3_nextCharge cX3_nextCharge 5 (some .long), Cond.methodLink RX3 30 yX3_chargesTogether, Cond.instanceMethod yX3_chargesTogether, Cond.selects RX3 yX3_chargesTogether yX3_chargesTogether, Cond.code yX3_chargesTogether cX3_chargesTogether 2 (some .long), Cond.methodLink RX3 42 Lib.MathLoose.min_long.x, Cond.methodLink RX3 38 yX3_sumUpTo, Cond.static yX3_sumUpTo, Cond.code yX3_sumUpTo cX3_sumUpTo 2 (some .long)]
def wsL_post_r7 : List Cond := [Cond.constantLong RX3 47 (2)]
def wsL_post : List Cond := .codeWith yL_post cL_post 3 (some .int) [(0, 7, 10, 15)] :: ((wsL_post_r1 ++ (wsL_post_r2 ++ (wsL_post_r3 ++ (wsL_post_r4 ++ (wsL_post_r5 ++ (wsL_post_r6 ++ wsL_post_r7)))))) ++ wsX40 ++ wsX20 ++ wsX00 ++ wsX10 ++ wsX30 ++ (vx_atS RX4 62 "java/lang/IllegalStateException" ["java/lang/RuntimeException", "java/lang/Exception"]).filter goodWord)
def wsL_posted : List Cond := .codeWith yL_posted cL_posted 5 (some .int) [(0, 9, 12, 13)] :: ([.classLink RL 13 "java/lang/IllegalArgumentException", .methodLink RL 40 yX4_posted, .instanceMethod yX4_posted, .selects RX4 yX4_posted yX4_posted, .initialized RX4, .code yX4_posted cX4_posted 4 (some .long), .classLink RX4 47 "java/lang/IllegalArgumentException", .initialized "java/lang/IllegalArgumentException", .fieldLink RX4 167 "AgedAssets$Part" "postedIn" "[J", .methodLink RX4 66 yX4_partOf, .instanceMethod yX4_partOf, .selects RX4 yX4_partOf yX4_partOf, .code yX4_partOf cX4_partOf 2 (some (.object "AgedAssets$Part")), .fieldLink RX4 54 "AgedAssets" "partCount" "I", .fieldLink RX4 11 "AgedAssets" "partRow" "[LAgedAssets$Part;", .methodLink RX4 37 yX4_isMonth, .static yX4_isMonth, .code yX4_isMonth cX4_isMonth 1 (some .boolean)] ++ wsX20 ++ wsX40 ++ (vx_atS RX4 51 "java/lang/IllegalArgumentException" ["java/lang/RuntimeException", "java/lang/Exception"]).filter goodWord)
def wsL_total : List Cond := .codeWith yL_total cL_total 4 (some .int) [(0, 8, 11, 13)] :: ([.classLink RL 13 "java/lang/IllegalArgumentException", .methodLink RL 43 yX4_total, .instanceMethod yX4_total, .selects RX4 yX4_total yX4_total, .initialized RX4, .code yX4_total cX4_total 3 (some .long), .classLink RX4 47 "java/lang/IllegalArgumentException", .initialized "java/lang/IllegalArgumentException", .fieldLink RX4 174 "AgedAssets$Part" "postedInAll" "J", .methodLink RX4 66 yX4_partOf, .instanceMethod yX4_partOf, .selects RX4 yX4_partOf yX4_partOf, .code yX4_partOf cX4_partOf 2 (some (.object "AgedAssets$Part")), .fieldLink RX4 54 "AgedAssets" "partCount" "I", .fieldLink RX4 11 "AgedAssets" "partRow" "[LAgedAssets$Part;"] ++ wsX20 ++ wsX40 ++ (vx_atS RX4 51 "java/lang/IllegalArgumentException" ["java/lang/RuntimeException", "java/lang/Exception"]).filter goodWord)
def wsL_law0_r1 : List Cond := [Cond.classLink RL 8 RX4, Cond.instantiable RX4 7, Cond.initialized RX4, Cond.classLink RL 48 RX5, Cond.instantiable RX5 37, Cond.initialized RX5, Cond.arrayClass .long, Cond.constantLong RL 51 (4294967295), Cond.methodLink RL 47 yX4_init, Cond.instanceMethod yX4_init, Cond.code yX4_init cX4_init 1 none, Cond.methodLink RX4 1 objectInit, Cond.instanceMethod objectInit, Cond.code objectInit ⟨#[0xb1]⟩ 1 none, Cond.classLink RX4 9 RX2, Cond.fieldLink RX4 11 "AgedAssets" "partRow" "[LAgedAssets$Part;", Cond.classLink RX4 15 RX1, Cond.fieldLink RX4 17 "AgedAssets" "eventRow" "[LAgedAssets$Event;", Cond.classLink RX4 21 RX0, Cond.instantiable RX0 15, Cond.initialized RX0, Cond.fieldLink RX4 24 "AgedAssets" "full" "LAgedAssets$Course;", Cond.fieldLink RX4 28 "AgedAssets" "bare" "LAgedAssets$Course;", Cond.methodLink RX4 23 yX0_init]
def wsL_law0_r2 : List Cond := [Cond.instanceMethod yX0_init, Cond.code yX0_init cX0_init 1 none, Cond.methodLink RX0 3 objectInit, Cond.classLink RX0 9 RX3, Cond.instantiable RX3 6, Cond.initialized RX3, Cond.fieldLink RX0 12 "AgedAssets$Course" "stretch" "LAgedAssets$Stretch;", Cond.instanceMethod yX3_init, Cond.code yX3_init cX3_init 1 none, Cond.methodLink RX3 3 objectInit, Cond.methodLink RL 50 yX5_init, Cond.instanceMethod yX5_init, Cond.code yX5_init cX5_init 1 none, Cond.methodLink RX5 1 objectInit, Cond.fieldLink RX5 7 "AgedAssetsModel" "costs" "[J", Cond.fieldLink RX5 13 "AgedAssetsModel" "residuals" "[J", Cond.arrayClass .int, Cond.fieldLink RX5 16 "AgedAssetsModel" "firsts" "[I", Cond.fieldLink RX5 20 "AgedAssetsModel" "lives" "[I", Cond.fieldLink RX5 23 "AgedAssetsModel" "methods" "[I", Cond.fieldLink RX5 26 "AgedAssetsModel" "rates" "[I", Cond.fieldLink RX5 29 "AgedAssetsModel" "used" "[I", Cond.fieldLink RX5 32 "AgedAssetsModel" "posted" "[J", Cond.fieldLink RX5 35 "AgedAssetsModel" "of" "[I"]
def wsL_law0_r3 : List Cond := [Cond.fieldLink RX5 38 "AgedAssetsModel" "when" "[I", Cond.fieldLink RX5 41 "AgedAssetsModel" "kinds" "[I", Cond.fieldLink RX5 44 "AgedAssetsModel" "amounts" "[J", Cond.fieldLink RX5 47 "AgedAssetsModel" "numbers" "[I", Cond.fieldLink RX5 50 "AgedAssetsModel" "before" "[J", Cond.fieldLink RX5 53 "AgedAssetsModel" "behind" "[J", Cond.methodLink RL 53 yL_part, Cond.static yL_part, Cond.initialized RL, Cond.codeWith yL_part cL_part 11 (some .int) [(0, 19, 22, 13), (0, 19, 26, 15)], Cond.classLink RL 13 "java/lang/IllegalArgumentException", Cond.classLink RL 15 "java/lang/IllegalStateException", Cond.methodLink RL 7 yX4_part, Cond.instanceMethod yX4_part, Cond.selects RX4 yX4_part yX4_part, Cond.code yX4_part cX4_part 11 (some .int), Cond.classLink RX4 47 "java/lang/IllegalArgumentException", Cond.initialized "java/lang/IllegalArgumentException", Cond.classLink RX4 58 "java/lang/IllegalStateException", Cond.initialized "java/lang/IllegalStateException", Cond.constantLong RX4 31 (1000000000), Cond.constantLong RX4 41 (36), Cond.fieldLink RX4 54 "AgedAssets" "partCount" "I", Cond.instantiable RX2 11]
def wsL_law0_r4 : List Cond := [Cond.initialized RX2, Cond.methodLink RX4 33 yX4_isWithin, Cond.static yX4_isWithin, Cond.code yX4_isWithin cX4_isWithin 6 (some .boolean), Cond.methodLink RX4 37 yX4_isMonth, Cond.static yX4_isMonth, Cond.code yX4_isMonth cX4_isMonth 1 (some .boolean), Cond.methodLink RX4 43 yX4_isRateOf, Cond.static yX4_isRateOf, Cond.code yX4_isRateOf cX4_isRateOf 2 (some .boolean), Cond.constantLong RX4 70 (1000000), Cond.methodLink RX4 63 yX2_init, Cond.instanceMethod yX2_init, Cond.code yX2_init cX2_init 9 none, Cond.methodLink RX2 3 objectInit, Cond.fieldLink RX2 9 "AgedAssets$Part" "cost" "J", Cond.fieldLink RX2 15 "AgedAssets$Part" "residual" "J", Cond.fieldLink RX2 18 "AgedAssets$Part" "firstMonth" "I", Cond.fieldLink RX2 22 "AgedAssets$Part" "life" "I", Cond.fieldLink RX2 25 "AgedAssets$Part" "method" "I", Cond.fieldLink RX2 28 "AgedAssets$Part" "rate" "I", Cond.fieldLink RX2 31 "AgedAssets$Part" "unitsIn" "[I", Cond.classLink RX2 35 RX1, Cond.fieldLink RX2 37 "AgedAssets$Part" "eventIn" "[LAgedAssets$Event;"]
def wsL_law0_r5 : List Cond := [Cond.fieldLink RX2 41 "AgedAssets$Part" "postedIn" "[J", Cond.methodLink RL 58 yX5_part, Cond.instanceMethod yX5_part, Cond.selects RX5 yX5_part yX5_part, Cond.code yX5_part cX5_part 10 (some .int), Cond.constantLong RX5 188 (1000000000), Cond.constantLong RX5 198 (36), Cond.constantLong RX5 200 (3), Cond.constantLong RX5 119 (1000000), Cond.fieldLink RX5 62 "AgedAssetsModel" "parts" "I", Cond.fieldLink RX5 56 "AgedAssetsModel" "code" "I", Cond.methodLink RX5 190 yX5_isIn, Cond.static yX5_isIn, Cond.code yX5_isIn cX5_isIn 6 (some .boolean), Cond.methodLink RX5 194 yX5_isMonth, Cond.static yX5_isMonth, Cond.code yX5_isMonth cX5_isMonth 1 (some .boolean), Cond.methodLink RL 59 yX5_thrown, Cond.instanceMethod yX5_thrown, Cond.selects RX5 yX5_thrown yX5_thrown, Cond.code yX5_thrown cX5_thrown 1 (some .int), Cond.methodLink RL 63 yL_units, Cond.static yL_units, Cond.codeWith yL_units cL_units 6 (some .int) [(0, 12, 15, 13), (0, 12, 19, 15)]]
def wsL_law0_r6 : List Cond := [Cond.methodLink RL 17 yX4_units, Cond.instanceMethod yX4_units, Cond.selects RX4 yX4_units yX4_units, Cond.code yX4_units cX4_units 6 (some .int), Cond.fieldLink RX4 74 "AgedAssets$Part" "unitsIn" "[I", Cond.methodLink RX4 66 yX4_partOf, Cond.instanceMethod yX4_partOf, Cond.selects RX4 yX4_partOf yX4_partOf, Cond.code yX4_partOf cX4_partOf 2 (some (.object "AgedAssets$Part")), Cond.methodLink RX4 78 yX4_hasBreach, Cond.instanceMethod yX4_hasBreach, Cond.selects RX4 yX4_hasBreach yX4_hasBreach, Cond.code yX4_hasBreach cX4_hasBreach 2 (some .boolean), Cond.methodLink RX4 127 yX4_follow, Cond.instanceMethod yX4_follow, Cond.selects RX4 yX4_follow yX4_follow, Cond.code yX4_follow cX4_follow 5 none, Cond.fieldLink RX4 84 "AgedAssets$Part" "firstMonth" "I", Cond.fieldLink RX4 93 "AgedAssets$Part" "eventIn" "[LAgedAssets$Event;", Cond.fieldLink RX4 117 "AgedAssets$Event" "kind" "I", Cond.constantLong RX4 191 (-1), Cond.methodLink RX4 183 yX0_open, Cond.instanceMethod yX0_open, Cond.selects RX0 yX0_open yX0_open]
def wsL_law0_r7 : List Cond := [Cond.code yX0_open cX0_open 2 none, Cond.fieldLink RX0 18 "AgedAssets$Part" "method" "I", Cond.fieldLink RX0 24 "AgedAssets$Course" "method" "I", Cond.fieldLink RX0 25 "AgedAssets$Part" "rate" "I", Cond.fieldLink RX0 28 "AgedAssets$Course" "rate" "I", Cond.fieldLink RX0 29 "AgedAssets$Part" "cost" "J", Cond.fieldLink RX0 33 "AgedAssets$Course" "cost" "J", Cond.fieldLink RX0 34 "AgedAssets$Course" "allowance" "J", Cond.fieldLink RX0 37 "AgedAssets$Course" "reserve" "J", Cond.fieldLink RX0 40 "AgedAssets$Course" "losses" "J", Cond.fieldLink RX0 43 "AgedAssets$Part" "residual" "J", Cond.fieldLink RX0 46 "AgedAssets$Course" "residual" "J", Cond.fieldLink RX0 47 "AgedAssets$Part" "life" "I", Cond.fieldLink RX0 50 "AgedAssets$Course" "restOfLife" "I", Cond.fieldLink RX0 53 "AgedAssets$Course" "held" "Z", Cond.fieldLink RX0 57 "AgedAssets$Course" "gone" "Z", Cond.fieldLink RX0 60 "AgedAssets$Course" "breached" "Z", Cond.fieldLink RX0 63 "AgedAssets$Course" "chargedUnits" "J", Cond.fieldLink RX0 66 "AgedAssets$Course" "lastCharge" "J", Cond.fieldLink RX0 69 "AgedAssets$Course" "allCharges" "J", Cond.methodLink RX0 72 yX0_beginStretch, Cond.instanceMethod yX0_beginStretch, Cond.selects RX0 yX0_beginStretch yX0_beginStretch, Cond.code yX0_beginStretch cX0_beginStretch 1 none]
def wsL_law0_r8 : List Cond := [Cond.methodLink RX0 136 Lib.MathLoose.max_long.x, Cond.static Lib.MathLoose.max_long.x, Cond.initialized "java/lang/Math", Cond.code Lib.MathLoose.max_long.x Lib.MathLoose.max_long.code 4 (some .long), Cond.methodLink RX0 77 yX0_book, Cond.instanceMethod yX0_book, Cond.selects RX0 yX0_book yX0_book, Cond.code yX0_book cX0_book 1 (some .long), Cond.methodLink RX0 139 yX3_begin, Cond.instanceMethod yX3_begin, Cond.selects RX3 yX3_begin yX3_begin, Cond.code yX3_begin cX3_begin 7 none, Cond.fieldLink RX3 9 "AgedAssets$Stretch" "base" "J", Cond.fieldLink RX3 15 "AgedAssets$Stretch" "length" "J", Cond.fieldLink RX3 18 "AgedAssets$Stretch" "unitsLeft" "J", Cond.fieldLink RX3 21 "AgedAssets$Stretch" "monthsCharged" "J", Cond.fieldLink RX3 24 "AgedAssets$Stretch" "unitsCharged" "J", Cond.fieldLink RX3 27 "AgedAssets$Stretch" "charged" "J", Cond.methodLink RX4 159 yX0_bookOrNone, Cond.instanceMethod yX0_bookOrNone, Cond.selects RX0 yX0_bookOrNone yX0_bookOrNone, Cond.code yX0_bookOrNone cX0_bookOrNone 1 (some .long), Cond.constantLong RX0 75 (-1), Cond.methodLink RX4 187 yX0_meet]
def wsL_law0_r9 : List Cond := [Cond.instanceMethod yX0_meet, Cond.selects RX0 yX0_meet yX0_meet, Cond.code yX0_meet cX0_meet 4 none, Cond.fieldLink RX0 89 "AgedAssets$Event" "kind" "I", Cond.methodLink RX0 81 yX0_isBreach, Cond.instanceMethod yX0_isBreach, Cond.selects RX0 yX0_isBreach yX0_isBreach, Cond.code yX0_isBreach cX0_isBreach 4 (some .boolean), Cond.fieldLink RX0 101 "AgedAssets$Event" "amount" "J", Cond.methodLink RX0 85 yX0_apply, Cond.instanceMethod yX0_apply, Cond.selects RX0 yX0_apply yX0_apply, Cond.code yX0_apply cX0_apply 2 none, Cond.fieldLink RX0 104 "AgedAssets$Event" "number" "I", Cond.methodLink RX0 107 yX0_revalue, Cond.instanceMethod yX0_revalue, Cond.selects RX0 yX0_revalue yX0_revalue, Cond.code yX0_revalue cX0_revalue 3 none, Cond.methodLink RX0 121 yX0_lose, Cond.instanceMethod yX0_lose, Cond.selects RX0 yX0_lose yX0_lose, Cond.code yX0_lose cX0_lose 5 none, Cond.methodLink RX0 124 Lib.MathLoose.min_long.x, Cond.static Lib.MathLoose.min_long.x]
def wsL_law0_r10 : List Cond := [Cond.code Lib.MathLoose.min_long.x Lib.MathLoose.min_long.code 4 (some .long), Cond.methodLink RX0 111 yX0_impair, Cond.instanceMethod yX0_impair, Cond.selects RX0 yX0_impair yX0_impair, Cond.code yX0_impair cX0_impair 3 none, Cond.methodLink RX0 114 yX0_restore, Cond.instanceMethod yX0_restore, Cond.selects RX0 yX0_restore yX0_restore, Cond.code yX0_restore cX0_restore 3 none, Cond.methodLink RX0 117 yX0_sell, Cond.instanceMethod yX0_sell, Cond.selects RX0 yX0_sell yX0_sell, Cond.code yX0_sell cX0_sell 2 none, Cond.constantLong RX0 130 (1000000), Cond.constant RX0 135 (1000000), Cond.static yX4_rounded, Cond.code yX4_rounded cX4_rounded 4 (some .long), Cond.constantLong RX4 197 (2), Cond.methodLink RX4 193 yX0_chargeMonth, Cond.instanceMethod yX0_chargeMonth, Cond.selects RX0 yX0_chargeMonth yX0_chargeMonth, Cond.code yX0_chargeMonth cX0_chargeMonth 2 none, Cond.methodLink RX0 94 yX0_decliningCharge, Cond.instanceMethod yX0_decliningCharge]
def wsL_law0_r11 : List Cond := [Cond.selects RX0 yX0_decliningCharge yX0_decliningCharge, Cond.code yX0_decliningCharge cX0_decliningCharge 7 (some .long), Cond.methodLink RX0 97 yX3_nextCharge, Cond.instanceMethod yX3_nextCharge, Cond.selects RX3 yX3_nextCharge yX3_nextCharge, Cond.code yX3_nextCharge cX3_nextCharge 5 (some .long), Cond.methodLink RX3 30 yX3_chargesTogether, Cond.instanceMethod yX3_chargesTogether, Cond.selects RX3 yX3_chargesTogether yX3_chargesTogether, Cond.code yX3_chargesTogether cX3_chargesTogether 2 (some .long), Cond.methodLink RX3 42 Lib.MathLoose.min_long.x, Cond.methodLink RX3 38 yX3_sumUpTo, Cond.static yX3_sumUpTo, Cond.code yX3_sumUpTo cX3_sumUpTo 2 (some .long), Cond.constantLong RX3 47 (2), Cond.methodLink RL 66 yX5_units, Cond.instanceMethod yX5_units, Cond.selects RX5 yX5_units yX5_units, Cond.code yX5_units cX5_units 5 (some .int), Cond.methodLink RX5 202 yX5_isPart, Cond.instanceMethod yX5_isPart, Cond.selects RX5 yX5_isPart yX5_isPart, Cond.code yX5_isPart cX5_isPart 2 (some .boolean), Cond.methodLink RX5 205 yX5_reckon]
def wsL_law0_r12 : List Cond := [Cond.instanceMethod yX5_reckon, Cond.selects RX5 yX5_reckon yX5_reckon, Cond.code yX5_reckon cX5_reckon 3 (some .boolean), Cond.fieldLink RX5 116 "AgedAssetsModel" "bad" "I", Cond.methodLink RX5 184 yX5_go, Cond.instanceMethod yX5_go, Cond.selects RX5 yX5_go yX5_go, Cond.code yX5_go cX5_go 7 (some .int), Cond.fieldLink RX5 65 "AgedAssetsModel" "cost" "J", Cond.fieldLink RX5 79 "AgedAssetsModel" "residual" "J", Cond.fieldLink RX5 85 "AgedAssetsModel" "rest" "I", Cond.methodLink RX5 166 yX5_clear, Cond.instanceMethod yX5_clear, Cond.selects RX5 yX5_clear yX5_clear, Cond.code yX5_clear cX5_clear 1 none, Cond.fieldLink RX5 69 "AgedAssetsModel" "allowance" "J", Cond.fieldLink RX5 106 "AgedAssetsModel" "reserve" "J", Cond.fieldLink RX5 109 "AgedAssetsModel" "losses" "J", Cond.fieldLink RX5 134 "AgedAssetsModel" "held" "Z", Cond.fieldLink RX5 130 "AgedAssetsModel" "gone" "Z", Cond.fieldLink RX5 91 "AgedAssetsModel" "spent" "I", Cond.fieldLink RX5 152 "AgedAssetsModel" "last" "J", Cond.fieldLink RX5 163 "AgedAssetsModel" "sum" "J", Cond.methodLink RX5 169 yX5_stretch]
def wsL_law0_r13 : List Cond := [Cond.instanceMethod yX5_stretch, Cond.selects RX5 yX5_stretch yX5_stretch, Cond.code yX5_stretch cX5_stretch 2 none, Cond.fieldLink RX5 82 "AgedAssetsModel" "base" "J", Cond.fieldLink RX5 88 "AgedAssetsModel" "length" "I", Cond.fieldLink RX5 94 "AgedAssetsModel" "left" "I", Cond.fieldLink RX5 97 "AgedAssetsModel" "charged" "I", Cond.fieldLink RX5 100 "AgedAssetsModel" "stretchUnits" "I", Cond.fieldLink RX5 103 "AgedAssetsModel" "done" "J", Cond.methodLink RX5 75 yX5_book, Cond.instanceMethod yX5_book, Cond.selects RX5 yX5_book yX5_book, Cond.code yX5_book cX5_book 1 (some .long), Cond.methodLink RX5 172 yX5_eventIn, Cond.instanceMethod yX5_eventIn, Cond.selects RX5 yX5_eventIn yX5_eventIn, Cond.code yX5_eventIn cX5_eventIn 5 (some .int), Cond.fieldLink RX5 72 "AgedAssetsModel" "events" "I", Cond.methodLink RX5 176 yX5_happens, Cond.instanceMethod yX5_happens, Cond.selects RX5 yX5_happens yX5_happens, Cond.code yX5_happens cX5_happens 7 (some .boolean), Cond.methodLink RX5 137 yX5_values, Cond.instanceMethod yX5_values]
def wsL_law0_r14 : List Cond := [Cond.selects RX5 yX5_values yX5_values, Cond.code yX5_values cX5_values 3 none, Cond.methodLink RX5 112 yX5_fall, Cond.instanceMethod yX5_fall, Cond.selects RX5 yX5_fall yX5_fall, Cond.code yX5_fall cX5_fall 5 none, Cond.methodLink RX5 140 yX5_impairs, Cond.instanceMethod yX5_impairs, Cond.selects RX5 yX5_impairs yX5_impairs, Cond.code yX5_impairs cX5_impairs 3 (some .boolean), Cond.methodLink RX5 144 yX5_restores, Cond.instanceMethod yX5_restores, Cond.selects RX5 yX5_restores yX5_restores, Cond.code yX5_restores cX5_restores 6 (some .boolean), Cond.methodLink RX5 148 yX5_sells, Cond.instanceMethod yX5_sells, Cond.selects RX5 yX5_sells yX5_sells, Cond.code yX5_sells cX5_sells 2 none, Cond.constant RX5 129 (1000000), Cond.methodLink RX5 125 yX5_less, Cond.static yX5_less, Cond.code yX5_less cX5_less 3 (some .long), Cond.methodLink RX5 121 yX5_rounded, Cond.static yX5_rounded]
def wsL_law0_r15 : List Cond := [Cond.code yX5_rounded cX5_rounded 4 (some .long), Cond.constantLong RX5 60 (2), Cond.methodLink RX5 180 yX5_writeOff, Cond.instanceMethod yX5_writeOff, Cond.selects RX5 yX5_writeOff yX5_writeOff, Cond.code yX5_writeOff cX5_writeOff 5 none, Cond.methodLink RX5 155 yX5_declining, Cond.instanceMethod yX5_declining, Cond.selects RX5 yX5_declining yX5_declining, Cond.code yX5_declining cX5_declining 11 (some .long), Cond.methodLink RX5 159 yX5_together, Cond.instanceMethod yX5_together, Cond.selects RX5 yX5_together yX5_together, Cond.code yX5_together cX5_together 4 (some .long), Cond.methodLink RL 67 yL_event, Cond.static yL_event, Cond.codeWith yL_event cL_event 9 (some .int) [(0, 16, 19, 13), (0, 16, 23, 15)], Cond.methodLink RL 21 yX4_event, Cond.instanceMethod yX4_event, Cond.selects RX4 yX4_event yX4_event, Cond.code yX4_event cX4_event 9 (some .int), Cond.fieldLink RX4 96 "AgedAssets$Part" "eventCount" "I", Cond.fieldLink RX4 99 "AgedAssets" "eventCount" "I", Cond.instantiable RX1 5]
def wsL_law0_r16 : List Cond := [Cond.initialized RX1, Cond.methodLink RX4 87 yX4_isEvent, Cond.static yX4_isEvent, Cond.code yX4_isEvent cX4_isEvent 4 (some .boolean), Cond.methodLink RX4 102 yX1_init, Cond.instanceMethod yX1_init, Cond.code yX1_init cX1_init 7 none, Cond.methodLink RX1 1 objectInit, Cond.fieldLink RX1 7 "AgedAssets$Event" "partNumber" "I", Cond.fieldLink RX1 13 "AgedAssets$Event" "month" "I", Cond.fieldLink RX1 16 "AgedAssets$Event" "kind" "I", Cond.fieldLink RX1 19 "AgedAssets$Event" "amount" "J", Cond.fieldLink RX1 23 "AgedAssets$Event" "number" "I", Cond.methodLink RL 70 yX5_event, Cond.instanceMethod yX5_event, Cond.selects RX5 yX5_event yX5_event, Cond.code yX5_event cX5_event 8 (some .int), Cond.constantLong RX5 208 (7), Cond.methodLink RX5 210 yX5_countOf, Cond.instanceMethod yX5_countOf, Cond.selects RX5 yX5_countOf yX5_countOf, Cond.code yX5_countOf cX5_countOf 4 (some .int), Cond.methodLink RL 71 yX4_strike, Cond.instanceMethod yX4_strike]
def wsL_law0_r17 : List Cond := [Cond.selects RX4 yX4_strike yX4_strike, Cond.code yX4_strike cX4_strike 4 (some .boolean), Cond.fieldLink RX4 111 "AgedAssets$Event" "partNumber" "I", Cond.fieldLink RX4 114 "AgedAssets$Event" "month" "I", Cond.methodLink RX4 107 yX4_eventOf, Cond.instanceMethod yX4_eventOf, Cond.selects RX4 yX4_eventOf yX4_eventOf, Cond.code yX4_eventOf cX4_eventOf 2 (some (.object "AgedAssets$Event")), Cond.methodLink RL 75 yX5_strike, Cond.instanceMethod yX5_strike, Cond.selects RX5 yX5_strike yX5_strike, Cond.code yX5_strike cX5_strike 4 (some .boolean), Cond.methodLink RX5 214 yX5_isEvent, Cond.instanceMethod yX5_isEvent, Cond.selects RX5 yX5_isEvent yX5_isEvent, Cond.code yX5_isEvent cX5_isEvent 2 (some .boolean), Cond.methodLink RL 76 yX4_told, Cond.instanceMethod yX4_told, Cond.selects RX4 yX4_told yX4_told, Cond.code yX4_told cX4_told 4 (some .int), Cond.fieldLink RX4 120 "AgedAssets$Event" "number" "I", Cond.methodLink RL 80 yX5_told, Cond.instanceMethod yX5_told, Cond.selects RX5 yX5_told yX5_told]
def wsL_law0_r18 : List Cond := [Cond.code yX5_told cX5_told 3 (some .int), Cond.methodLink RL 81 yL_value, Cond.static yL_value, Cond.codeWith yL_value cL_value 6 (some .int) [(0, 11, 14, 13)], Cond.methodLink RL 25 yX4_value, Cond.instanceMethod yX4_value, Cond.selects RX4 yX4_value yX4_value, Cond.code yX4_value cX4_value 5 (some .long), Cond.constantLong RX4 123 (6), Cond.methodLink RX4 138 yX0_book, Cond.methodLink RL 83 yX5_value, Cond.instanceMethod yX5_value, Cond.selects RX5 yX5_value yX5_value, Cond.code yX5_value cX5_value 4 (some .long), Cond.methodLink RL 84 yL_charge, Cond.static yL_charge, Cond.codeWith yL_charge cL_charge 5 (some .int) [(0, 9, 12, 13)], Cond.methodLink RL 29 yX4_charge, Cond.instanceMethod yX4_charge, Cond.selects RX4 yX4_charge yX4_charge, Cond.code yX4_charge cX4_charge 4 (some .long), Cond.methodLink RL 87 yX5_charge, Cond.instanceMethod yX5_charge, Cond.selects RX5 yX5_charge yX5_charge]
def wsL_law0_r19 : List Cond := [Cond.code yX5_charge cX5_charge 3 (some .long), Cond.methodLink RL 88 yL_without, Cond.static yL_without, Cond.codeWith yL_without cL_without 5 (some .int) [(0, 9, 12, 13)], Cond.methodLink RL 33 yX4_without, Cond.instanceMethod yX4_without, Cond.selects RX4 yX4_without yX4_without, Cond.code yX4_without cX4_without 4 (some .long), Cond.methodLink RL 90 yX5_without, Cond.instanceMethod yX5_without, Cond.selects RX5 yX5_without yX5_without, Cond.code yX5_without cX5_without 4 (some .long), Cond.constantLong RX5 217 (-1), Cond.methodLink RL 91 yL_post, Cond.static yL_post, Cond.codeWith yL_post cL_post 3 (some .int) [(0, 7, 10, 15)], Cond.methodLink RL 36 yX4_post, Cond.instanceMethod yX4_post, Cond.selects RX4 yX4_post yX4_post, Cond.code yX4_post cX4_post 6 (some .long), Cond.fieldLink RX4 162 "AgedAssets" "monthCount" "I", Cond.fieldLink RX4 167 "AgedAssets$Part" "postedIn" "[J", Cond.fieldLink RX4 174 "AgedAssets$Part" "postedInAll" "J", Cond.methodLink RL 94 yX5_post]
def wsL_law0_r20 : List Cond := [Cond.instanceMethod yX5_post, Cond.selects RX5 yX5_post yX5_post, Cond.code yX5_post cX5_post 6 (some .long), Cond.fieldLink RX5 219 "AgedAssetsModel" "months" "I", Cond.methodLink RX5 222 yX5_totalOf, Cond.instanceMethod yX5_totalOf, Cond.selects RX5 yX5_totalOf yX5_totalOf, Cond.code yX5_totalOf cX5_totalOf 5 (some .long), Cond.methodLink RL 95 yX4_months, Cond.instanceMethod yX4_months, Cond.selects RX4 yX4_months yX4_months, Cond.code yX4_months cX4_months 1 (some .int), Cond.methodLink RL 98 yX5_months, Cond.instanceMethod yX5_months, Cond.selects RX5 yX5_months yX5_months, Cond.code yX5_months cX5_months 1 (some .int), Cond.methodLink RL 99 yL_posted, Cond.static yL_posted, Cond.codeWith yL_posted cL_posted 5 (some .int) [(0, 9, 12, 13)], Cond.methodLink RL 40 yX4_posted, Cond.instanceMethod yX4_posted, Cond.selects RX4 yX4_posted yX4_posted, Cond.code yX4_posted cX4_posted 4 (some .long), Cond.methodLink RL 101 yX5_posted]
def wsL_law0_r21 : List Cond := [Cond.instanceMethod yX5_posted, Cond.selects RX5 yX5_posted yX5_posted, Cond.code yX5_posted cX5_posted 3 (some .long), Cond.methodLink RL 102 yL_total, Cond.static yL_total, Cond.codeWith yL_total cL_total 4 (some .int) [(0, 8, 11, 13)], Cond.methodLink RL 43 yX4_total, Cond.instanceMethod yX4_total, Cond.selects RX4 yX4_total yX4_total, Cond.code yX4_total cX4_total 3 (some .long), Cond.methodLink RL 105 yX5_total, Cond.instanceMethod yX5_total, Cond.selects RX5 yX5_total yX5_total, Cond.code yX5_total cX5_total 2 (some .long), Cond.methodLink RL 106 yX4_parts, Cond.instanceMethod yX4_parts, Cond.selects RX4 yX4_parts yX4_parts, Cond.code yX4_parts cX4_parts 1 (some .int), Cond.methodLink RL 109 yX5_parts, Cond.instanceMethod yX5_parts, Cond.selects RX5 yX5_parts yX5_parts, Cond.code yX5_parts cX5_parts 1 (some .int)]
def wsL_law0 : List Cond := (wsL_law0_r1 ++ (wsL_law0_r2 ++ (wsL_law0_r3 ++ (wsL_law0_r4 ++ (wsL_law0_r5 ++ (wsL_law0_r6 ++ (wsL_law0_r7 ++ (wsL_law0_r8 ++ (wsL_law0_r9 ++ (wsL_law0_r10 ++ (wsL_law0_r11 ++ (wsL_law0_r12 ++ (wsL_law0_r13 ++ (wsL_law0_r14 ++ (wsL_law0_r15 ++ (wsL_law0_r16 ++ (wsL_law0_r17 ++ (wsL_law0_r18 ++ (wsL_law0_r19 ++ (wsL_law0_r20 ++ wsL_law0_r21)))))))))))))))))))) ++ wsX40 ++ wsX50 ++ wsX00 ++ wsX30 ++ wsX20 ++ wsX10 ++ ([] : List Cond)
def wsL_law : List Cond := wsL_law0 ++ (vx_atS RX4 51 "java/lang/IllegalArgumentException" ["java/lang/RuntimeException", "java/lang/Exception"]).filter goodWord ++ (vx_atS RX4 62 "java/lang/IllegalStateException" ["java/lang/RuntimeException", "java/lang/Exception"]).filter goodWord
set_option maxRecDepth 20000 in
theorem wsL_law_in0 : ∀ w ∈ wsL_law0, w ∈ lw_tbl := fun w h => (goodIn_p wsL_law0 [51, 54, 63, 69, 544, 295, 299, 302, 306, 394, 665, 669, 672, 661, 448, 178, 182, 186, 190, 194, 201, 198, 205, 209, 214, 218, 222, 226, 230, 233, 237, 241, 245, 249, 256, 260, 264, 268, 272, 679, 683, 687, 691, 695, 699, 703, 707, 711, 715, 719, 723, 727, 731, 734, 737, 743, 747, 751, 457, 460, 466, 755, 760, 170, 174, 764, 768, 278, 772, 498, 776, 508, 780, 516, 784, 523, 789, 793, 282, 797, 531, 801, 538, 805, 286, 809] (by decide +kernel) (by decide +kernel) w h).1
theorem wsL_law_x0 : ∀ w ∈ (vx_atS RX4 51 "java/lang/IllegalArgumentException" ["java/lang/RuntimeException", "java/lang/Exception"]).filter goodWord, w ∈ lw_tbl := by decide +kernel
theorem wsL_law_x1 : ∀ w ∈ (vx_atS RX4 62 "java/lang/IllegalStateException" ["java/lang/RuntimeException", "java/lang/Exception"]).filter goodWord, w ∈ lw_tbl := by decide +kernel
theorem wsL_law_in : ∀ w ∈ wsL_law, w ∈ lw_tbl := fun w h => (List.mem_append.mp h).elim (fun h => (List.mem_append.mp h).elim (fun h => wsL_law_in0 w h) (fun h => wsL_law_x0 w h)) (fun h => wsL_law_x1 w h)
theorem inlX0 : ∀ w ∈ wsX00, w ∈ wsL_law := fun _ h => List.mem_append_left _ (List.mem_append_left _ (List.mem_append_left _ (List.mem_append_left _ (List.mem_append_left _ (List.mem_append_left _ (List.mem_append_right _ h))))))
theorem inX0 : ∀ w ∈ wsX00, w ∈ lw_tbl := fun w h => wsL_law_in w (inlX0 w h)
theorem inlX1 : ∀ w ∈ wsX10, w ∈ wsL_law := fun _ h => List.mem_append_left _ (List.mem_append_left _ (List.mem_append_left _ (List.mem_append_right _ h)))
theorem inX1 : ∀ w ∈ wsX10, w ∈ lw_tbl := fun w h => wsL_law_in w (inlX1 w h)
theorem inlX2 : ∀ w ∈ wsX20, w ∈ wsL_law := fun _ h => List.mem_append_left _ (List.mem_append_left _ (List.mem_append_left _ (List.mem_append_left _ (List.mem_append_right _ h))))
theorem inX2 : ∀ w ∈ wsX20, w ∈ lw_tbl := fun w h => wsL_law_in w (inlX2 w h)
theorem inlX3 : ∀ w ∈ wsX30, w ∈ wsL_law := fun _ h => List.mem_append_left _ (List.mem_append_left _ (List.mem_append_left _ (List.mem_append_left _ (List.mem_append_left _ (List.mem_append_right _ h)))))
theorem inX3 : ∀ w ∈ wsX30, w ∈ lw_tbl := fun w h => wsL_law_in w (inlX3 w h)
theorem inlX4 : ∀ w ∈ wsX40, w ∈ wsL_law := fun _ h => List.mem_append_left _ (List.mem_append_left _ (List.mem_append_left _ (List.mem_append_left _ (List.mem_append_left _ (List.mem_append_left _ (List.mem_append_left _ (List.mem_append_left _ (List.mem_append_right _ h))))))))
theorem inX4 : ∀ w ∈ wsX40, w ∈ lw_tbl := fun w h => wsL_law_in w (inlX4 w h)
theorem inlX5 : ∀ w ∈ wsX50, w ∈ wsL_law := fun _ h => List.mem_append_left _ (List.mem_append_left _ (List.mem_append_left _ (List.mem_append_left _ (List.mem_append_left _ (List.mem_append_left _ (List.mem_append_left _ (List.mem_append_right _ h)))))))
theorem inX5 : ∀ w ∈ wsX50, w ∈ lw_tbl := fun w h => wsL_law_in w (inlX5 w h)
theorem inJ9 : ∀ w ∈ wsJ90, w ∈ lw_tbl := by decide +kernel
theorem inJ0 : ∀ w ∈ wsJ00, w ∈ lw_tbl := by decide +kernel
set_option maxRecDepth 20000 in
theorem ggX0_init_X3_init : GoodIn wsX0_init wsX3_init := goodIn_r _ [9, 10, 2, 3] (by decide +kernel) (by decide +kernel)
set_option maxRecDepth 20000 in
theorem gX0_init_X3_init_n11 : GoodIn wsX0_init (wsX3_init) := ggX0_init_X3_init
theorem dX0_init_0 : decode cX0_init 0 = .ok (.aload_n 0, 1) := by decide +kernel
theorem dX0_init_1 : decode cX0_init 1 = .ok (.invokespecial 3, 3) := by decide +kernel
theorem dX0_init_4 : decode cX0_init 4 = .ok (.aload_n 0, 1) := by decide +kernel
theorem dX0_init_5 : decode cX0_init 5 = .ok (.new 9, 3) := by decide +kernel
theorem dX0_init_8 : decode cX0_init 8 = .ok (.dup, 1) := by decide +kernel
theorem dX0_init_9 : decode cX0_init 9 = .ok (.invokespecial 11, 3) := by decide +kernel
theorem dX0_init_12 : decode cX0_init 12 = .ok (.putfield 12, 3) := by decide +kernel
theorem dX0_init_15 : decode cX0_init 15 = .ok (.return_, 1) := by decide +kernel
set_option maxRecDepth 20000 in
theorem ggX0_open_X0_beginStretch : GoodIn wsX0_open wsX0_beginStretch := goodIn_r _ [24, 25, 11, 26, 27, 28, 29, 13, 4, 17, 30, 31, 32, 23, 33, 6, 7, 34, 35, 36, 37, 38, 39, 40, 41, 42, 43, 44, 56, 57, 58, 59, 60, 61, 62, 63, 64, 65, 66, 67, 68, 69, 70, 71, 72, 73, 74, 75, 76] (by decide +kernel) (by decide +kernel)
set_option maxRecDepth 20000 in
theorem gX0_open_X0_beginStretch : GoodIn wsX0_open (wsV RX0 72 RX0 yX0_beginStretch wsX0_beginStretch) := goodIn_app (goodIn_of _ (by decide +kernel)) ggX0_open_X0_beginStretch
theorem dX0_open_0 : decode cX0_open 0 = .ok (.aload_n 0, 1) := by decide +kernel
theorem dX0_open_1 : decode cX0_open 1 = .ok (.aload_n 1, 1) := by decide +kernel
theorem dX0_open_2 : decode cX0_open 2 = .ok (.getfield 18, 3) := by decide +kernel
theorem dX0_open_5 : decode cX0_open 5 = .ok (.putfield 24, 3) := by decide +kernel
theorem dX0_open_8 : decode cX0_open 8 = .ok (.aload_n 0, 1) := by decide +kernel
theorem dX0_open_9 : decode cX0_open 9 = .ok (.aload_n 1, 1) := by decide +kernel
theorem dX0_open_10 : decode cX0_open 10 = .ok (.getfield 25, 3) := by decide +kernel
theorem dX0_open_13 : decode cX0_open 13 = .ok (.putfield 28, 3) := by decide +kernel
theorem dX0_open_16 : decode cX0_open 16 = .ok (.aload_n 0, 1) := by decide +kernel
theorem dX0_open_17 : decode cX0_open 17 = .ok (.aload_n 1, 1) := by decide +kernel
theorem dX0_open_18 : decode cX0_open 18 = .ok (.getfield 29, 3) := by decide +kernel
theorem dX0_open_21 : decode cX0_open 21 = .ok (.putfield 33, 3) := by decide +kernel
theorem dX0_open_24 : decode cX0_open 24 = .ok (.aload_n 0, 1) := by decide +kernel
theorem dX0_open_25 : decode cX0_open 25 = .ok (.lconst 0, 1) := by decide +kernel
theorem dX0_open_26 : decode cX0_open 26 = .ok (.putfield 34, 3) := by decide +kernel
theorem dX0_open_29 : decode cX0_open 29 = .ok (.aload_n 0, 1) := by decide +kernel
theorem dX0_open_30 : decode cX0_open 30 = .ok (.lconst 0, 1) := by decide +kernel
theorem dX0_open_31 : decode cX0_open 31 = .ok (.putfield 37, 3) := by decide +kernel
theorem dX0_open_34 : decode cX0_open 34 = .ok (.aload_n 0, 1) := by decide +kernel
theorem dX0_open_35 : decode cX0_open 35 = .ok (.lconst 0, 1) := by decide +kernel
theorem dX0_open_36 : decode cX0_open 36 = .ok (.putfield 40, 3) := by decide +kernel
theorem dX0_open_39 : decode cX0_open 39 = .ok (.aload_n 0, 1) := by decide +kernel
theorem dX0_open_40 : decode cX0_open 40 = .ok (.aload_n 1, 1) := by decide +kernel
theorem dX0_open_41 : decode cX0_open 41 = .ok (.getfield 43, 3) := by decide +kernel
theorem dX0_open_44 : decode cX0_open 44 = .ok (.putfield 46, 3) := by decide +kernel
theorem dX0_open_47 : decode cX0_open 47 = .ok (.aload_n 0, 1) := by decide +kernel
theorem dX0_open_48 : decode cX0_open 48 = .ok (.aload_n 1, 1) := by decide +kernel
theorem dX0_open_49 : decode cX0_open 49 = .ok (.getfield 47, 3) := by decide +kernel
theorem dX0_open_52 : decode cX0_open 52 = .ok (.putfield 50, 3) := by decide +kernel
theorem dX0_open_55 : decode cX0_open 55 = .ok (.aload_n 0, 1) := by decide +kernel
theorem dX0_open_56 : decode cX0_open 56 = .ok (.iconst 0, 1) := by decide +kernel
theorem dX0_open_57 : decode cX0_open 57 = .ok (.putfield 53, 3) := by decide +kernel
theorem dX0_open_60 : decode cX0_open 60 = .ok (.aload_n 0, 1) := by decide +kernel
theorem dX0_open_61 : decode cX0_open 61 = .ok (.iconst 0, 1) := by decide +kernel
theorem dX0_open_62 : decode cX0_open 62 = .ok (.putfield 57, 3) := by decide +kernel
theorem dX0_open_65 : decode cX0_open 65 = .ok (.aload_n 0, 1) := by decide +kernel
theorem dX0_open_66 : decode cX0_open 66 = .ok (.iconst 0, 1) := by decide +kernel
theorem dX0_open_67 : decode cX0_open 67 = .ok (.putfield 60, 3) := by decide +kernel
theorem dX0_open_70 : decode cX0_open 70 = .ok (.aload_n 0, 1) := by decide +kernel
theorem dX0_open_71 : decode cX0_open 71 = .ok (.lconst 0, 1) := by decide +kernel
theorem dX0_open_72 : decode cX0_open 72 = .ok (.putfield 63, 3) := by decide +kernel
theorem dX0_open_75 : decode cX0_open 75 = .ok (.aload_n 0, 1) := by decide +kernel
theorem dX0_open_76 : decode cX0_open 76 = .ok (.lconst 0, 1) := by decide +kernel
theorem dX0_open_77 : decode cX0_open 77 = .ok (.putfield 66, 3) := by decide +kernel
theorem dX0_open_80 : decode cX0_open 80 = .ok (.aload_n 0, 1) := by decide +kernel
theorem dX0_open_81 : decode cX0_open 81 = .ok (.lconst 0, 1) := by decide +kernel
theorem dX0_open_82 : decode cX0_open 82 = .ok (.putfield 69, 3) := by decide +kernel
theorem dX0_open_85 : decode cX0_open 85 = .ok (.aload_n 0, 1) := by decide +kernel
theorem dX0_open_86 : decode cX0_open 86 = .ok (.invokevirtual 72, 3) := by decide +kernel
theorem dX0_open_89 : decode cX0_open 89 = .ok (.return_, 1) := by decide +kernel
theorem dX0_book_0 : decode cX0_book 0 = .ok (.aload_n 0, 1) := by decide +kernel
theorem dX0_book_1 : decode cX0_book 1 = .ok (.getfield 33, 3) := by decide +kernel
theorem dX0_book_4 : decode cX0_book 4 = .ok (.aload_n 0, 1) := by decide +kernel
theorem dX0_book_5 : decode cX0_book 5 = .ok (.getfield 34, 3) := by decide +kernel
theorem dX0_book_8 : decode cX0_book 8 = .ok (.lsub, 1) := by decide +kernel
theorem dX0_book_9 : decode cX0_book 9 = .ok (.lreturn, 1) := by decide +kernel
set_option maxRecDepth 20000 in
theorem ggX0_bookOrNone_X0_book : GoodIn wsX0_bookOrNone wsX0_book := goodIn_r _ [7, 8, 9, 10, 11, 12, 13, 14, 15, 16, 17, 18, 19, 20, 21, 22, 23, 24] (by decide +kernel) (by decide +kernel)
set_option maxRecDepth 20000 in
theorem gX0_bookOrNone_X0_book : GoodIn wsX0_bookOrNone (wsV RX0 77 RX0 yX0_book wsX0_book) := goodIn_app (goodIn_of _ (by decide +kernel)) ggX0_bookOrNone_X0_book
theorem dX0_bookOrNone_0 : decode cX0_bookOrNone 0 = .ok (.aload_n 0, 1) := by decide +kernel
theorem dX0_bookOrNone_1 : decode cX0_bookOrNone 1 = .ok (.getfield 60, 3) := by decide +kernel
theorem dX0_bookOrNone_4 : decode cX0_bookOrNone 4 = .ok (.ifCond .eq 9, 3) := by decide +kernel
theorem dX0_bookOrNone_7 : decode cX0_bookOrNone 7 = .ok (.ldc2_w 75, 3) := by decide +kernel
theorem dX0_bookOrNone_10 : decode cX0_bookOrNone 10 = .ok (.goto 7, 3) := by decide +kernel
theorem dX0_bookOrNone_13 : decode cX0_bookOrNone 13 = .ok (.aload_n 0, 1) := by decide +kernel
theorem dX0_bookOrNone_14 : decode cX0_bookOrNone 14 = .ok (.invokevirtual 77, 3) := by decide +kernel
theorem dX0_bookOrNone_17 : decode cX0_bookOrNone 17 = .ok (.lreturn, 1) := by decide +kernel
set_option maxRecDepth 20000 in
theorem ggX0_meet_X0_isBreach : GoodIn wsX0_meet wsX0_isBreach := goodIn_r _ [7, 8, 9, 2, 10, 11, 12, 13, 14, 15, 16, 6, 17, 18, 77, 78, 79, 80, 81, 82, 83, 84, 85, 86, 87, 88, 89, 90, 91, 92, 93, 94, 95, 96] (by decide +kernel) (by decide +kernel)
set_option maxRecDepth 20000 in
theorem gX0_meet_X0_isBreach : GoodIn wsX0_meet (wsV RX0 81 RX0 yX0_isBreach wsX0_isBreach) := goodIn_app (goodIn_of _ (by decide +kernel)) ggX0_meet_X0_isBreach
set_option maxRecDepth 20000 in
theorem ggX0_meet_X0_apply : GoodIn wsX0_meet wsX0_apply := goodIn_r _ [22, 2, 18, 12, 11, 23, 10, 9, 24, 25, 26, 6, 27, 28, 13, 14, 15, 16, 17, 29, 30, 31, 32, 33, 34, 35, 36, 37, 38, 39, 40, 41, 42, 43, 44, 45, 46, 47, 48, 49, 50, 51, 8, 52, 53, 54, 55, 92, 93, 94, 95, 96, 77, 78, 79, 80, 81, 82, 83, 84, 85, 86, 87, 88, 89, 90, 91] (by decide +kernel) (by decide +kernel)
set_option maxRecDepth 20000 in
theorem gX0_meet_X0_apply : GoodIn wsX0_meet (wsV RX0 85 RX0 yX0_apply wsX0_apply) := goodIn_app (goodIn_of _ (by decide +kernel)) ggX0_meet_X0_apply
set_option maxRecDepth 20000 in
theorem ggX0_meet_X0_beginStretch : GoodIn wsX0_meet wsX0_beginStretch := goodIn_r _ [59, 60, 11, 61, 62, 35, 63, 10, 64, 65, 14, 15, 16, 6, 17, 18, 13, 66, 67, 68, 69, 70, 71, 72, 73, 74, 75, 76, 77, 78, 79, 80, 81, 82, 83, 84, 85, 86, 87, 88, 89, 90, 91, 97, 98, 99, 100, 101, 102] (by decide +kernel) (by decide +kernel)
set_option maxRecDepth 20000 in
theorem gX0_meet_X0_beginStretch : GoodIn wsX0_meet (wsV RX0 72 RX0 yX0_beginStretch wsX0_beginStretch) := goodIn_app (goodIn_of _ (by decide +kernel)) ggX0_meet_X0_beginStretch
theorem dX0_meet_0 : decode cX0_meet 0 = .ok (.aload_n 0, 1) := by decide +kernel
theorem dX0_meet_1 : decode cX0_meet 1 = .ok (.aload_n 1, 1) := by decide +kernel
theorem dX0_meet_2 : decode cX0_meet 2 = .ok (.lload_n 2, 1) := by decide +kernel
theorem dX0_meet_3 : decode cX0_meet 3 = .ok (.invokevirtual 81, 3) := by decide +kernel
theorem dX0_meet_6 : decode cX0_meet 6 = .ok (.ifCond .eq 9, 3) := by decide +kernel
theorem dX0_meet_9 : decode cX0_meet 9 = .ok (.aload_n 0, 1) := by decide +kernel
theorem dX0_meet_10 : decode cX0_meet 10 = .ok (.iconst 1, 1) := by decide +kernel
theorem dX0_meet_11 : decode cX0_meet 11 = .ok (.putfield 60, 3) := by decide +kernel
theorem dX0_meet_14 : decode cX0_meet 14 = .ok (.return_, 1) := by decide +kernel
theorem dX0_meet_15 : decode cX0_meet 15 = .ok (.aload_n 0, 1) := by decide +kernel
theorem dX0_meet_16 : decode cX0_meet 16 = .ok (.aload_n 1, 1) := by decide +kernel
theorem dX0_meet_17 : decode cX0_meet 17 = .ok (.invokevirtual 85, 3) := by decide +kernel
theorem dX0_meet_20 : decode cX0_meet 20 = .ok (.aload_n 1, 1) := by decide +kernel
theorem dX0_meet_21 : decode cX0_meet 21 = .ok (.getfield 89, 3) := by decide +kernel
theorem dX0_meet_24 : decode cX0_meet 24 = .ok (.bipush 6, 2) := by decide +kernel
theorem dX0_meet_26 : decode cX0_meet 26 = .ok (.if_icmp .eq 16, 3) := by decide +kernel
theorem dX0_meet_29 : decode cX0_meet 29 = .ok (.aload_n 1, 1) := by decide +kernel
theorem dX0_meet_30 : decode cX0_meet 30 = .ok (.getfield 89, 3) := by decide +kernel
theorem dX0_meet_33 : decode cX0_meet 33 = .ok (.bipush 7, 2) := by decide +kernel
theorem dX0_meet_35 : decode cX0_meet 35 = .ok (.if_icmp .eq 7, 3) := by decide +kernel
theorem dX0_meet_38 : decode cX0_meet 38 = .ok (.aload_n 0, 1) := by decide +kernel
theorem dX0_meet_39 : decode cX0_meet 39 = .ok (.invokevirtual 72, 3) := by decide +kernel
theorem dX0_meet_42 : decode cX0_meet 42 = .ok (.return_, 1) := by decide +kernel
set_option maxRecDepth 20000 in
theorem ggX0_chargeMonth_X0_decliningCharge : GoodIn wsX0_chargeMonth wsX0_decliningCharge := goodIn_r _ [14, 15, 4, 16, 17, 18, 19, 20, 21, 22, 23, 24, 25, 26, 27, 13, 28, 29, 8, 30, 31, 32, 33, 54, 55, 56, 57, 58, 59, 60, 61, 62, 63, 64, 65, 66, 67, 68] (by decide +kernel) (by decide +kernel)
set_option maxRecDepth 20000 in
theorem gX0_chargeMonth_X0_decliningCharge : GoodIn wsX0_chargeMonth (wsV RX0 94 RX0 yX0_decliningCharge wsX0_decliningCharge) := goodIn_app (goodIn_of _ (by decide +kernel)) ggX0_chargeMonth_X0_decliningCharge
set_option maxRecDepth 20000 in
theorem ggX0_chargeMonth_X3_nextCharge : GoodIn wsX0_chargeMonth wsX3_nextCharge := goodIn_r _ [38, 39, 40, 41, 42, 43, 44, 37, 45, 46, 47, 48, 49, 23, 20, 24, 30, 31, 32, 33, 50, 51, 52, 53, 69, 70, 71, 72, 73, 74] (by decide +kernel) (by decide +kernel)
set_option maxRecDepth 20000 in
theorem gX0_chargeMonth_X3_nextCharge : GoodIn wsX0_chargeMonth (wsV RX0 97 RX3 yX3_nextCharge wsX3_nextCharge) := goodIn_app (goodIn_of _ (by decide +kernel)) ggX0_chargeMonth_X3_nextCharge
theorem dX0_chargeMonth_0 : decode cX0_chargeMonth 0 = .ok (.aload_n 0, 1) := by decide +kernel
theorem dX0_chargeMonth_1 : decode cX0_chargeMonth 1 = .ok (.lconst 0, 1) := by decide +kernel
theorem dX0_chargeMonth_2 : decode cX0_chargeMonth 2 = .ok (.putfield 66, 3) := by decide +kernel
theorem dX0_chargeMonth_5 : decode cX0_chargeMonth 5 = .ok (.aload_n 0, 1) := by decide +kernel
theorem dX0_chargeMonth_6 : decode cX0_chargeMonth 6 = .ok (.getfield 53, 3) := by decide +kernel
theorem dX0_chargeMonth_9 : decode cX0_chargeMonth 9 = .ok (.ifCond .ne 17, 3) := by decide +kernel
theorem dX0_chargeMonth_12 : decode cX0_chargeMonth 12 = .ok (.aload_n 0, 1) := by decide +kernel
theorem dX0_chargeMonth_13 : decode cX0_chargeMonth 13 = .ok (.getfield 57, 3) := by decide +kernel
theorem dX0_chargeMonth_16 : decode cX0_chargeMonth 16 = .ok (.ifCond .ne 10, 3) := by decide +kernel
theorem dX0_chargeMonth_19 : decode cX0_chargeMonth 19 = .ok (.aload_n 0, 1) := by decide +kernel
theorem dX0_chargeMonth_20 : decode cX0_chargeMonth 20 = .ok (.getfield 50, 3) := by decide +kernel
theorem dX0_chargeMonth_23 : decode cX0_chargeMonth 23 = .ok (.ifCond .ne 4, 3) := by decide +kernel
theorem dX0_chargeMonth_26 : decode cX0_chargeMonth 26 = .ok (.return_, 1) := by decide +kernel
theorem dX0_chargeMonth_27 : decode cX0_chargeMonth 27 = .ok (.aload_n 0, 1) := by decide +kernel
theorem dX0_chargeMonth_28 : decode cX0_chargeMonth 28 = .ok (.aload_n 0, 1) := by decide +kernel
theorem dX0_chargeMonth_29 : decode cX0_chargeMonth 29 = .ok (.getfield 24, 3) := by decide +kernel
theorem dX0_chargeMonth_32 : decode cX0_chargeMonth 32 = .ok (.iconst 1, 1) := by decide +kernel
theorem dX0_chargeMonth_33 : decode cX0_chargeMonth 33 = .ok (.if_icmp .ne 10, 3) := by decide +kernel
theorem dX0_chargeMonth_36 : decode cX0_chargeMonth 36 = .ok (.aload_n 0, 1) := by decide +kernel
theorem dX0_chargeMonth_37 : decode cX0_chargeMonth 37 = .ok (.invokevirtual 94, 3) := by decide +kernel
theorem dX0_chargeMonth_40 : decode cX0_chargeMonth 40 = .ok (.goto 15, 3) := by decide +kernel
theorem dX0_chargeMonth_43 : decode cX0_chargeMonth 43 = .ok (.aload_n 0, 1) := by decide +kernel
theorem dX0_chargeMonth_44 : decode cX0_chargeMonth 44 = .ok (.getfield 12, 3) := by decide +kernel
theorem dX0_chargeMonth_47 : decode cX0_chargeMonth 47 = .ok (.aload_n 0, 1) := by decide +kernel
theorem dX0_chargeMonth_48 : decode cX0_chargeMonth 48 = .ok (.getfield 24, 3) := by decide +kernel
theorem dX0_chargeMonth_51 : decode cX0_chargeMonth 51 = .ok (.iload_n 1, 1) := by decide +kernel
theorem dX0_chargeMonth_52 : decode cX0_chargeMonth 52 = .ok (.invokevirtual 97, 3) := by decide +kernel
theorem dX0_chargeMonth_55 : decode cX0_chargeMonth 55 = .ok (.putfield 66, 3) := by decide +kernel
theorem dX0_chargeMonth_58 : decode cX0_chargeMonth 58 = .ok (.aload_n 0, 1) := by decide +kernel
theorem dX0_chargeMonth_59 : decode cX0_chargeMonth 59 = .ok (.dup, 1) := by decide +kernel
theorem dX0_chargeMonth_60 : decode cX0_chargeMonth 60 = .ok (.getfield 50, 3) := by decide +kernel
theorem dX0_chargeMonth_63 : decode cX0_chargeMonth 63 = .ok (.iconst 1, 1) := by decide +kernel
theorem dX0_chargeMonth_64 : decode cX0_chargeMonth 64 = .ok (.isub, 1) := by decide +kernel
theorem dX0_chargeMonth_65 : decode cX0_chargeMonth 65 = .ok (.putfield 50, 3) := by decide +kernel
theorem dX0_chargeMonth_68 : decode cX0_chargeMonth 68 = .ok (.aload_n 0, 1) := by decide +kernel
theorem dX0_chargeMonth_69 : decode cX0_chargeMonth 69 = .ok (.dup, 1) := by decide +kernel
theorem dX0_chargeMonth_70 : decode cX0_chargeMonth 70 = .ok (.getfield 63, 3) := by decide +kernel
theorem dX0_chargeMonth_73 : decode cX0_chargeMonth 73 = .ok (.iload_n 1, 1) := by decide +kernel
theorem dX0_chargeMonth_74 : decode cX0_chargeMonth 74 = .ok (.i2l, 1) := by decide +kernel
theorem dX0_chargeMonth_75 : decode cX0_chargeMonth 75 = .ok (.ladd, 1) := by decide +kernel
theorem dX0_chargeMonth_76 : decode cX0_chargeMonth 76 = .ok (.putfield 63, 3) := by decide +kernel
theorem dX0_chargeMonth_79 : decode cX0_chargeMonth 79 = .ok (.aload_n 0, 1) := by decide +kernel
theorem dX0_chargeMonth_80 : decode cX0_chargeMonth 80 = .ok (.dup, 1) := by decide +kernel
theorem dX0_chargeMonth_81 : decode cX0_chargeMonth 81 = .ok (.getfield 34, 3) := by decide +kernel
theorem dX0_chargeMonth_84 : decode cX0_chargeMonth 84 = .ok (.aload_n 0, 1) := by decide +kernel
theorem dX0_chargeMonth_85 : decode cX0_chargeMonth 85 = .ok (.getfield 66, 3) := by decide +kernel
theorem dX0_chargeMonth_88 : decode cX0_chargeMonth 88 = .ok (.ladd, 1) := by decide +kernel
theorem dX0_chargeMonth_89 : decode cX0_chargeMonth 89 = .ok (.putfield 34, 3) := by decide +kernel
theorem dX0_chargeMonth_92 : decode cX0_chargeMonth 92 = .ok (.aload_n 0, 1) := by decide +kernel
theorem dX0_chargeMonth_93 : decode cX0_chargeMonth 93 = .ok (.dup, 1) := by decide +kernel
theorem dX0_chargeMonth_94 : decode cX0_chargeMonth 94 = .ok (.getfield 69, 3) := by decide +kernel
theorem dX0_chargeMonth_97 : decode cX0_chargeMonth 97 = .ok (.aload_n 0, 1) := by decide +kernel
theorem dX0_chargeMonth_98 : decode cX0_chargeMonth 98 = .ok (.getfield 66, 3) := by decide +kernel
theorem dX0_chargeMonth_101 : decode cX0_chargeMonth 101 = .ok (.ladd, 1) := by decide +kernel
theorem dX0_chargeMonth_102 : decode cX0_chargeMonth 102 = .ok (.putfield 69, 3) := by decide +kernel
theorem dX0_chargeMonth_105 : decode cX0_chargeMonth 105 = .ok (.return_, 1) := by decide +kernel
set_option maxRecDepth 20000 in
theorem ggX0_isBreach_X0_book : GoodIn wsX0_isBreach wsX0_book := goodIn_r _ [12, 13, 7, 14, 15, 16, 17, 18, 19, 20, 21, 22, 23, 24, 25, 26, 27, 28] (by decide +kernel) (by decide +kernel)
set_option maxRecDepth 20000 in
theorem gX0_isBreach_X0_book : GoodIn wsX0_isBreach (wsV RX0 77 RX0 yX0_book wsX0_book) := goodIn_app (goodIn_of _ (by decide +kernel)) ggX0_isBreach_X0_book
theorem dX0_isBreach_0 : decode cX0_isBreach 0 = .ok (.aload_n 0, 1) := by decide +kernel
theorem dX0_isBreach_1 : decode cX0_isBreach 1 = .ok (.getfield 57, 3) := by decide +kernel
theorem dX0_isBreach_4 : decode cX0_isBreach 4 = .ok (.ifCond .ne 27, 3) := by decide +kernel
theorem dX0_isBreach_7 : decode cX0_isBreach 7 = .ok (.aload_n 0, 1) := by decide +kernel
theorem dX0_isBreach_8 : decode cX0_isBreach 8 = .ok (.getfield 53, 3) := by decide +kernel
theorem dX0_isBreach_11 : decode cX0_isBreach 11 = .ok (.ifCond .eq 22, 3) := by decide +kernel
theorem dX0_isBreach_14 : decode cX0_isBreach 14 = .ok (.aload_n 1, 1) := by decide +kernel
theorem dX0_isBreach_15 : decode cX0_isBreach 15 = .ok (.getfield 89, 3) := by decide +kernel
theorem dX0_isBreach_18 : decode cX0_isBreach 18 = .ok (.bipush 7, 2) := by decide +kernel
theorem dX0_isBreach_20 : decode cX0_isBreach 20 = .ok (.if_icmp .eq 13, 3) := by decide +kernel
theorem dX0_isBreach_23 : decode cX0_isBreach 23 = .ok (.aload_n 1, 1) := by decide +kernel
theorem dX0_isBreach_24 : decode cX0_isBreach 24 = .ok (.getfield 89, 3) := by decide +kernel
theorem dX0_isBreach_27 : decode cX0_isBreach 27 = .ok (.iconst 5, 1) := by decide +kernel
theorem dX0_isBreach_28 : decode cX0_isBreach 28 = .ok (.if_icmp .eq 5, 3) := by decide +kernel
theorem dX0_isBreach_31 : decode cX0_isBreach 31 = .ok (.iconst 1, 1) := by decide +kernel
theorem dX0_isBreach_32 : decode cX0_isBreach 32 = .ok (.ireturn, 1) := by decide +kernel
theorem dX0_isBreach_33 : decode cX0_isBreach 33 = .ok (.aload_n 1, 1) := by decide +kernel
theorem dX0_isBreach_34 : decode cX0_isBreach 34 = .ok (.getfield 89, 3) := by decide +kernel
theorem dX0_isBreach_37 : decode cX0_isBreach 37 = .ok (.tableswitch 182 0 7 #[47, 77, 182, 95, 113, 182, 182, 169], 47) := by decide +kernel
theorem dX0_isBreach_84 : decode cX0_isBreach 84 = .ok (.aload_n 0, 1) := by decide +kernel
theorem dX0_isBreach_85 : decode cX0_isBreach 85 = .ok (.getfield 50, 3) := by decide +kernel
theorem dX0_isBreach_88 : decode cX0_isBreach 88 = .ok (.ifCond .eq 20, 3) := by decide +kernel
theorem dX0_isBreach_91 : decode cX0_isBreach 91 = .ok (.aload_n 0, 1) := by decide +kernel
theorem dX0_isBreach_92 : decode cX0_isBreach 92 = .ok (.getfield 46, 3) := by decide +kernel
theorem dX0_isBreach_95 : decode cX0_isBreach 95 = .ok (.aload_n 0, 1) := by decide +kernel
theorem dX0_isBreach_96 : decode cX0_isBreach 96 = .ok (.invokevirtual 77, 3) := by decide +kernel
theorem dX0_isBreach_99 : decode cX0_isBreach 99 = .ok (.aload_n 1, 1) := by decide +kernel
theorem dX0_isBreach_100 : decode cX0_isBreach 100 = .ok (.getfield 101, 3) := by decide +kernel
theorem dX0_isBreach_103 : decode cX0_isBreach 103 = .ok (.ladd, 1) := by decide +kernel
theorem dX0_isBreach_104 : decode cX0_isBreach 104 = .ok (.lcmp, 1) := by decide +kernel
theorem dX0_isBreach_105 : decode cX0_isBreach 105 = .ok (.ifCond .le 7, 3) := by decide +kernel
theorem dX0_isBreach_108 : decode cX0_isBreach 108 = .ok (.iconst 1, 1) := by decide +kernel
theorem dX0_isBreach_109 : decode cX0_isBreach 109 = .ok (.goto 4, 3) := by decide +kernel
theorem dX0_isBreach_112 : decode cX0_isBreach 112 = .ok (.iconst 0, 1) := by decide +kernel
theorem dX0_isBreach_113 : decode cX0_isBreach 113 = .ok (.ireturn, 1) := by decide +kernel
theorem dX0_isBreach_114 : decode cX0_isBreach 114 = .ok (.aload_n 1, 1) := by decide +kernel
theorem dX0_isBreach_115 : decode cX0_isBreach 115 = .ok (.getfield 101, 3) := by decide +kernel
theorem dX0_isBreach_118 : decode cX0_isBreach 118 = .ok (.aload_n 0, 1) := by decide +kernel
theorem dX0_isBreach_119 : decode cX0_isBreach 119 = .ok (.invokevirtual 77, 3) := by decide +kernel
theorem dX0_isBreach_122 : decode cX0_isBreach 122 = .ok (.lcmp, 1) := by decide +kernel
theorem dX0_isBreach_123 : decode cX0_isBreach 123 = .ok (.ifCond .le 7, 3) := by decide +kernel
theorem dX0_isBreach_126 : decode cX0_isBreach 126 = .ok (.iconst 1, 1) := by decide +kernel
theorem dX0_isBreach_127 : decode cX0_isBreach 127 = .ok (.goto 4, 3) := by decide +kernel
theorem dX0_isBreach_130 : decode cX0_isBreach 130 = .ok (.iconst 0, 1) := by decide +kernel
theorem dX0_isBreach_131 : decode cX0_isBreach 131 = .ok (.ireturn, 1) := by decide +kernel
theorem dX0_isBreach_132 : decode cX0_isBreach 132 = .ok (.aload_n 1, 1) := by decide +kernel
theorem dX0_isBreach_133 : decode cX0_isBreach 133 = .ok (.getfield 101, 3) := by decide +kernel
theorem dX0_isBreach_136 : decode cX0_isBreach 136 = .ok (.aload_n 0, 1) := by decide +kernel
theorem dX0_isBreach_137 : decode cX0_isBreach 137 = .ok (.invokevirtual 77, 3) := by decide +kernel
theorem dX0_isBreach_140 : decode cX0_isBreach 140 = .ok (.lcmp, 1) := by decide +kernel
theorem dX0_isBreach_141 : decode cX0_isBreach 141 = .ok (.ifCond .lt 7, 3) := by decide +kernel
theorem dX0_isBreach_144 : decode cX0_isBreach 144 = .ok (.iconst 1, 1) := by decide +kernel
theorem dX0_isBreach_145 : decode cX0_isBreach 145 = .ok (.goto 4, 3) := by decide +kernel
theorem dX0_isBreach_148 : decode cX0_isBreach 148 = .ok (.iconst 0, 1) := by decide +kernel
theorem dX0_isBreach_149 : decode cX0_isBreach 149 = .ok (.ireturn, 1) := by decide +kernel
theorem dX0_isBreach_150 : decode cX0_isBreach 150 = .ok (.aload_n 1, 1) := by decide +kernel
theorem dX0_isBreach_151 : decode cX0_isBreach 151 = .ok (.getfield 101, 3) := by decide +kernel
theorem dX0_isBreach_154 : decode cX0_isBreach 154 = .ok (.aload_n 0, 1) := by decide +kernel
theorem dX0_isBreach_155 : decode cX0_isBreach 155 = .ok (.invokevirtual 77, 3) := by decide +kernel
theorem dX0_isBreach_158 : decode cX0_isBreach 158 = .ok (.lcmp, 1) := by decide +kernel
theorem dX0_isBreach_159 : decode cX0_isBreach 159 = .ok (.ifCond .le 41, 3) := by decide +kernel
theorem dX0_isBreach_162 : decode cX0_isBreach 162 = .ok (.aload_n 1, 1) := by decide +kernel
theorem dX0_isBreach_163 : decode cX0_isBreach 163 = .ok (.getfield 101, 3) := by decide +kernel
theorem dX0_isBreach_166 : decode cX0_isBreach 166 = .ok (.lload_n 2, 1) := by decide +kernel
theorem dX0_isBreach_167 : decode cX0_isBreach 167 = .ok (.lcmp, 1) := by decide +kernel
theorem dX0_isBreach_168 : decode cX0_isBreach 168 = .ok (.ifCond .gt 32, 3) := by decide +kernel
theorem dX0_isBreach_171 : decode cX0_isBreach 171 = .ok (.aload_n 1, 1) := by decide +kernel
theorem dX0_isBreach_172 : decode cX0_isBreach 172 = .ok (.getfield 101, 3) := by decide +kernel
theorem dX0_isBreach_175 : decode cX0_isBreach 175 = .ok (.aload_n 0, 1) := by decide +kernel
theorem dX0_isBreach_176 : decode cX0_isBreach 176 = .ok (.invokevirtual 77, 3) := by decide +kernel
theorem dX0_isBreach_179 : decode cX0_isBreach 179 = .ok (.lsub, 1) := by decide +kernel
theorem dX0_isBreach_180 : decode cX0_isBreach 180 = .ok (.aload_n 0, 1) := by decide +kernel
theorem dX0_isBreach_181 : decode cX0_isBreach 181 = .ok (.getfield 34, 3) := by decide +kernel
theorem dX0_isBreach_184 : decode cX0_isBreach 184 = .ok (.lcmp, 1) := by decide +kernel
theorem dX0_isBreach_185 : decode cX0_isBreach 185 = .ok (.ifCond .gt 15, 3) := by decide +kernel
theorem dX0_isBreach_188 : decode cX0_isBreach 188 = .ok (.aload_n 0, 1) := by decide +kernel
theorem dX0_isBreach_189 : decode cX0_isBreach 189 = .ok (.getfield 46, 3) := by decide +kernel
theorem dX0_isBreach_192 : decode cX0_isBreach 192 = .ok (.aload_n 1, 1) := by decide +kernel
theorem dX0_isBreach_193 : decode cX0_isBreach 193 = .ok (.getfield 101, 3) := by decide +kernel
theorem dX0_isBreach_196 : decode cX0_isBreach 196 = .ok (.lcmp, 1) := by decide +kernel
theorem dX0_isBreach_197 : decode cX0_isBreach 197 = .ok (.ifCond .le 7, 3) := by decide +kernel
theorem dX0_isBreach_200 : decode cX0_isBreach 200 = .ok (.iconst 1, 1) := by decide +kernel
theorem dX0_isBreach_201 : decode cX0_isBreach 201 = .ok (.goto 4, 3) := by decide +kernel
theorem dX0_isBreach_204 : decode cX0_isBreach 204 = .ok (.iconst 0, 1) := by decide +kernel
theorem dX0_isBreach_205 : decode cX0_isBreach 205 = .ok (.ireturn, 1) := by decide +kernel
theorem dX0_isBreach_206 : decode cX0_isBreach 206 = .ok (.aload_n 0, 1) := by decide +kernel
theorem dX0_isBreach_207 : decode cX0_isBreach 207 = .ok (.getfield 53, 3) := by decide +kernel
theorem dX0_isBreach_210 : decode cX0_isBreach 210 = .ok (.ifCond .ne 7, 3) := by decide +kernel
theorem dX0_isBreach_213 : decode cX0_isBreach 213 = .ok (.iconst 1, 1) := by decide +kernel
theorem dX0_isBreach_214 : decode cX0_isBreach 214 = .ok (.goto 4, 3) := by decide +kernel
theorem dX0_isBreach_217 : decode cX0_isBreach 217 = .ok (.iconst 0, 1) := by decide +kernel
theorem dX0_isBreach_218 : decode cX0_isBreach 218 = .ok (.ireturn, 1) := by decide +kernel
theorem dX0_isBreach_219 : decode cX0_isBreach 219 = .ok (.iconst 0, 1) := by decide +kernel
theorem dX0_isBreach_220 : decode cX0_isBreach 220 = .ok (.ireturn, 1) := by decide +kernel
set_option maxRecDepth 20000 in
theorem ggX0_apply_X0_revalue : GoodIn wsX0_apply wsX0_revalue := goodIn_r _ [12, 13, 2, 14, 15, 16, 17, 11, 18, 19, 20, 21, 22, 23, 24, 25, 26, 27, 52, 53, 54, 55, 56, 57, 58, 59, 60, 61, 62, 63, 64, 65, 66] (by decide +kernel) (by decide +kernel)
set_option maxRecDepth 20000 in
theorem gX0_apply_X0_revalue : GoodIn wsX0_apply (wsV RX0 107 RX0 yX0_revalue wsX0_revalue) := goodIn_app (goodIn_of _ (by decide +kernel)) ggX0_apply_X0_revalue
set_option maxRecDepth 20000 in
theorem ggX0_apply_X0_book : GoodIn wsX0_apply wsX0_book := goodIn_r _ [18, 2, 14, 52, 53, 54, 55, 56, 57, 58, 59, 60, 61, 62, 63, 64, 65, 66] (by decide +kernel) (by decide +kernel)
set_option maxRecDepth 20000 in
theorem gX0_apply_X0_book : GoodIn wsX0_apply (wsV RX0 77 RX0 yX0_book wsX0_book) := goodIn_app (goodIn_of _ (by decide +kernel)) ggX0_apply_X0_book
set_option maxRecDepth 20000 in
theorem ggX0_apply_X0_impair : GoodIn wsX0_apply wsX0_impair := goodIn_r _ [31, 14, 19, 20, 21, 11, 22, 13, 23, 24, 25, 26, 27, 52, 53, 54, 55, 56, 57, 58, 59, 60, 61, 62, 63, 64, 65, 66] (by decide +kernel) (by decide +kernel)
set_option maxRecDepth 20000 in
theorem gX0_apply_X0_impair : GoodIn wsX0_apply (wsV RX0 111 RX0 yX0_impair wsX0_impair) := goodIn_app (goodIn_of _ (by decide +kernel)) ggX0_apply_X0_impair
set_option maxRecDepth 20000 in
theorem ggX0_apply_X0_restore : GoodIn wsX0_apply wsX0_restore := goodIn_r _ [35, 14, 27, 23, 24, 25, 26, 52, 53, 54, 55, 56, 57, 58, 59, 60, 61, 62, 63, 64, 65, 66] (by decide +kernel) (by decide +kernel)
set_option maxRecDepth 20000 in
theorem gX0_apply_X0_restore : GoodIn wsX0_apply (wsV RX0 114 RX0 yX0_restore wsX0_restore) := goodIn_app (goodIn_of _ (by decide +kernel)) ggX0_apply_X0_restore
set_option maxRecDepth 20000 in
theorem ggX0_apply_X0_sell : GoodIn wsX0_apply wsX0_sell := goodIn_r _ [39, 2, 40, 14, 13, 4, 41, 42, 43, 44, 45, 46, 52, 53, 54, 55, 56, 57, 58, 59, 60, 61, 62, 63, 64, 65, 66] (by decide +kernel) (by decide +kernel)
set_option maxRecDepth 20000 in
theorem gX0_apply_X0_sell : GoodIn wsX0_apply (wsV RX0 117 RX0 yX0_sell wsX0_sell) := goodIn_app (goodIn_of _ (by decide +kernel)) ggX0_apply_X0_sell
theorem dX0_apply_0 : decode cX0_apply 0 = .ok (.aload_n 1, 1) := by decide +kernel
theorem dX0_apply_1 : decode cX0_apply 1 = .ok (.getfield 89, 3) := by decide +kernel
theorem dX0_apply_4 : decode cX0_apply 4 = .ok (.tableswitch 129 0 5 #[40, 56, 75, 86, 102, 118], 40) := by decide +kernel
theorem dX0_apply_44 : decode cX0_apply 44 = .ok (.aload_n 0, 1) := by decide +kernel
theorem dX0_apply_45 : decode cX0_apply 45 = .ok (.dup, 1) := by decide +kernel
theorem dX0_apply_46 : decode cX0_apply 46 = .ok (.getfield 33, 3) := by decide +kernel
theorem dX0_apply_49 : decode cX0_apply 49 = .ok (.aload_n 1, 1) := by decide +kernel
theorem dX0_apply_50 : decode cX0_apply 50 = .ok (.getfield 101, 3) := by decide +kernel
theorem dX0_apply_53 : decode cX0_apply 53 = .ok (.ladd, 1) := by decide +kernel
theorem dX0_apply_54 : decode cX0_apply 54 = .ok (.putfield 33, 3) := by decide +kernel
theorem dX0_apply_57 : decode cX0_apply 57 = .ok (.goto 94, 3) := by decide +kernel
theorem dX0_apply_60 : decode cX0_apply 60 = .ok (.aload_n 0, 1) := by decide +kernel
theorem dX0_apply_61 : decode cX0_apply 61 = .ok (.aload_n 1, 1) := by decide +kernel
theorem dX0_apply_62 : decode cX0_apply 62 = .ok (.getfield 101, 3) := by decide +kernel
theorem dX0_apply_65 : decode cX0_apply 65 = .ok (.putfield 46, 3) := by decide +kernel
theorem dX0_apply_68 : decode cX0_apply 68 = .ok (.aload_n 0, 1) := by decide +kernel
theorem dX0_apply_69 : decode cX0_apply 69 = .ok (.aload_n 1, 1) := by decide +kernel
theorem dX0_apply_70 : decode cX0_apply 70 = .ok (.getfield 104, 3) := by decide +kernel
theorem dX0_apply_73 : decode cX0_apply 73 = .ok (.putfield 50, 3) := by decide +kernel
theorem dX0_apply_76 : decode cX0_apply 76 = .ok (.goto 75, 3) := by decide +kernel
theorem dX0_apply_79 : decode cX0_apply 79 = .ok (.aload_n 0, 1) := by decide +kernel
theorem dX0_apply_80 : decode cX0_apply 80 = .ok (.aload_n 1, 1) := by decide +kernel
theorem dX0_apply_81 : decode cX0_apply 81 = .ok (.getfield 101, 3) := by decide +kernel
theorem dX0_apply_84 : decode cX0_apply 84 = .ok (.invokevirtual 107, 3) := by decide +kernel
theorem dX0_apply_87 : decode cX0_apply 87 = .ok (.goto 64, 3) := by decide +kernel
theorem dX0_apply_90 : decode cX0_apply 90 = .ok (.aload_n 0, 1) := by decide +kernel
theorem dX0_apply_91 : decode cX0_apply 91 = .ok (.aload_n 0, 1) := by decide +kernel
theorem dX0_apply_92 : decode cX0_apply 92 = .ok (.invokevirtual 77, 3) := by decide +kernel
theorem dX0_apply_95 : decode cX0_apply 95 = .ok (.aload_n 1, 1) := by decide +kernel
theorem dX0_apply_96 : decode cX0_apply 96 = .ok (.getfield 101, 3) := by decide +kernel
theorem dX0_apply_99 : decode cX0_apply 99 = .ok (.lsub, 1) := by decide +kernel
theorem dX0_apply_100 : decode cX0_apply 100 = .ok (.invokevirtual 111, 3) := by decide +kernel
theorem dX0_apply_103 : decode cX0_apply 103 = .ok (.goto 48, 3) := by decide +kernel
theorem dX0_apply_106 : decode cX0_apply 106 = .ok (.aload_n 0, 1) := by decide +kernel
theorem dX0_apply_107 : decode cX0_apply 107 = .ok (.aload_n 1, 1) := by decide +kernel
theorem dX0_apply_108 : decode cX0_apply 108 = .ok (.getfield 101, 3) := by decide +kernel
theorem dX0_apply_111 : decode cX0_apply 111 = .ok (.aload_n 0, 1) := by decide +kernel
theorem dX0_apply_112 : decode cX0_apply 112 = .ok (.invokevirtual 77, 3) := by decide +kernel
theorem dX0_apply_115 : decode cX0_apply 115 = .ok (.lsub, 1) := by decide +kernel
theorem dX0_apply_116 : decode cX0_apply 116 = .ok (.invokevirtual 114, 3) := by decide +kernel
theorem dX0_apply_119 : decode cX0_apply 119 = .ok (.goto 32, 3) := by decide +kernel
theorem dX0_apply_122 : decode cX0_apply 122 = .ok (.aload_n 0, 1) := by decide +kernel
theorem dX0_apply_123 : decode cX0_apply 123 = .ok (.aload_n 1, 1) := by decide +kernel
theorem dX0_apply_124 : decode cX0_apply 124 = .ok (.getfield 104, 3) := by decide +kernel
theorem dX0_apply_127 : decode cX0_apply 127 = .ok (.invokevirtual 117, 3) := by decide +kernel
theorem dX0_apply_130 : decode cX0_apply 130 = .ok (.goto 21, 3) := by decide +kernel
theorem dX0_apply_133 : decode cX0_apply 133 = .ok (.aload_n 0, 1) := by decide +kernel
theorem dX0_apply_134 : decode cX0_apply 134 = .ok (.aload_n 1, 1) := by decide +kernel
theorem dX0_apply_135 : decode cX0_apply 135 = .ok (.getfield 89, 3) := by decide +kernel
theorem dX0_apply_138 : decode cX0_apply 138 = .ok (.bipush 6, 2) := by decide +kernel
theorem dX0_apply_140 : decode cX0_apply 140 = .ok (.if_icmp .ne 7, 3) := by decide +kernel
theorem dX0_apply_143 : decode cX0_apply 143 = .ok (.iconst 1, 1) := by decide +kernel
theorem dX0_apply_144 : decode cX0_apply 144 = .ok (.goto 4, 3) := by decide +kernel
theorem dX0_apply_147 : decode cX0_apply 147 = .ok (.iconst 0, 1) := by decide +kernel
theorem dX0_apply_148 : decode cX0_apply 148 = .ok (.putfield 53, 3) := by decide +kernel
theorem dX0_apply_151 : decode cX0_apply 151 = .ok (.return_, 1) := by decide +kernel
set_option maxRecDepth 20000 in
theorem ggX0_revalue_X0_book : GoodIn wsX0_revalue wsX0_book := goodIn_r _ [8, 2, 3, 18, 19, 20, 21, 22, 23, 24, 25, 26, 27, 28, 29, 30, 31, 32] (by decide +kernel) (by decide +kernel)
set_option maxRecDepth 20000 in
theorem gX0_revalue_X0_book : GoodIn wsX0_revalue (wsV RX0 77 RX0 yX0_book wsX0_book) := goodIn_app (goodIn_of _ (by decide +kernel)) ggX0_revalue_X0_book
set_option maxRecDepth 20000 in
theorem ggX0_revalue_X0_lose : GoodIn wsX0_revalue wsX0_lose := goodIn_r _ [12, 1, 13, 14, 15, 16, 17, 18, 19, 20, 21, 22, 23, 24, 25, 26, 27, 28, 29, 30, 31, 32] (by decide +kernel) (by decide +kernel)
set_option maxRecDepth 20000 in
theorem gX0_revalue_X0_lose : GoodIn wsX0_revalue (wsV RX0 121 RX0 yX0_lose wsX0_lose) := goodIn_app (goodIn_of _ (by decide +kernel)) ggX0_revalue_X0_lose
theorem dX0_revalue_0 : decode cX0_revalue 0 = .ok (.lload_n 1, 1) := by decide +kernel
theorem dX0_revalue_1 : decode cX0_revalue 1 = .ok (.aload_n 0, 1) := by decide +kernel
theorem dX0_revalue_2 : decode cX0_revalue 2 = .ok (.invokevirtual 77, 3) := by decide +kernel
theorem dX0_revalue_5 : decode cX0_revalue 5 = .ok (.lcmp, 1) := by decide +kernel
theorem dX0_revalue_6 : decode cX0_revalue 6 = .ok (.ifCond .le 21, 3) := by decide +kernel
theorem dX0_revalue_9 : decode cX0_revalue 9 = .ok (.aload_n 0, 1) := by decide +kernel
theorem dX0_revalue_10 : decode cX0_revalue 10 = .ok (.dup, 1) := by decide +kernel
theorem dX0_revalue_11 : decode cX0_revalue 11 = .ok (.getfield 37, 3) := by decide +kernel
theorem dX0_revalue_14 : decode cX0_revalue 14 = .ok (.lload_n 1, 1) := by decide +kernel
theorem dX0_revalue_15 : decode cX0_revalue 15 = .ok (.aload_n 0, 1) := by decide +kernel
theorem dX0_revalue_16 : decode cX0_revalue 16 = .ok (.invokevirtual 77, 3) := by decide +kernel
theorem dX0_revalue_19 : decode cX0_revalue 19 = .ok (.lsub, 1) := by decide +kernel
theorem dX0_revalue_20 : decode cX0_revalue 20 = .ok (.ladd, 1) := by decide +kernel
theorem dX0_revalue_21 : decode cX0_revalue 21 = .ok (.putfield 37, 3) := by decide +kernel
theorem dX0_revalue_24 : decode cX0_revalue 24 = .ok (.goto 13, 3) := by decide +kernel
theorem dX0_revalue_27 : decode cX0_revalue 27 = .ok (.aload_n 0, 1) := by decide +kernel
theorem dX0_revalue_28 : decode cX0_revalue 28 = .ok (.aload_n 0, 1) := by decide +kernel
theorem dX0_revalue_29 : decode cX0_revalue 29 = .ok (.invokevirtual 77, 3) := by decide +kernel
theorem dX0_revalue_32 : decode cX0_revalue 32 = .ok (.lload_n 1, 1) := by decide +kernel
theorem dX0_revalue_33 : decode cX0_revalue 33 = .ok (.lsub, 1) := by decide +kernel
theorem dX0_revalue_34 : decode cX0_revalue 34 = .ok (.invokevirtual 121, 3) := by decide +kernel
theorem dX0_revalue_37 : decode cX0_revalue 37 = .ok (.aload_n 0, 1) := by decide +kernel
theorem dX0_revalue_38 : decode cX0_revalue 38 = .ok (.lload_n 1, 1) := by decide +kernel
theorem dX0_revalue_39 : decode cX0_revalue 39 = .ok (.putfield 33, 3) := by decide +kernel
theorem dX0_revalue_42 : decode cX0_revalue 42 = .ok (.aload_n 0, 1) := by decide +kernel
theorem dX0_revalue_43 : decode cX0_revalue 43 = .ok (.lconst 0, 1) := by decide +kernel
theorem dX0_revalue_44 : decode cX0_revalue 44 = .ok (.putfield 34, 3) := by decide +kernel
theorem dX0_revalue_47 : decode cX0_revalue 47 = .ok (.return_, 1) := by decide +kernel
set_option maxRecDepth 20000 in
theorem ggX0_impair_X0_lose : GoodIn wsX0_impair wsX0_lose := goodIn_r _ [6, 7, 8, 9, 10, 11, 12, 13, 14, 15, 16, 17, 18, 19, 20, 21, 22, 23, 24, 25, 26, 27] (by decide +kernel) (by decide +kernel)
set_option maxRecDepth 20000 in
theorem gX0_impair_X0_lose : GoodIn wsX0_impair (wsV RX0 121 RX0 yX0_lose wsX0_lose) := goodIn_app (goodIn_of _ (by decide +kernel)) ggX0_impair_X0_lose
theorem dX0_impair_0 : decode cX0_impair 0 = .ok (.aload_n 0, 1) := by decide +kernel
theorem dX0_impair_1 : decode cX0_impair 1 = .ok (.lload_n 1, 1) := by decide +kernel
theorem dX0_impair_2 : decode cX0_impair 2 = .ok (.invokevirtual 121, 3) := by decide +kernel
theorem dX0_impair_5 : decode cX0_impair 5 = .ok (.aload_n 0, 1) := by decide +kernel
theorem dX0_impair_6 : decode cX0_impair 6 = .ok (.dup, 1) := by decide +kernel
theorem dX0_impair_7 : decode cX0_impair 7 = .ok (.getfield 34, 3) := by decide +kernel
theorem dX0_impair_10 : decode cX0_impair 10 = .ok (.lload_n 1, 1) := by decide +kernel
theorem dX0_impair_11 : decode cX0_impair 11 = .ok (.ladd, 1) := by decide +kernel
theorem dX0_impair_12 : decode cX0_impair 12 = .ok (.putfield 34, 3) := by decide +kernel
theorem dX0_impair_15 : decode cX0_impair 15 = .ok (.return_, 1) := by decide +kernel
theorem dX0_lose_0 : decode cX0_lose 0 = .ok (.lload_n 1, 1) := by decide +kernel
theorem dX0_lose_1 : decode cX0_lose 1 = .ok (.aload_n 0, 1) := by decide +kernel
theorem dX0_lose_2 : decode cX0_lose 2 = .ok (.getfield 37, 3) := by decide +kernel
theorem dX0_lose_5 : decode cX0_lose 5 = .ok (.invokestatic 124, 3) := by decide +kernel
theorem dX0_lose_8 : decode cX0_lose 8 = .ok (.lstore_n 3, 1) := by decide +kernel
theorem dX0_lose_9 : decode cX0_lose 9 = .ok (.aload_n 0, 1) := by decide +kernel
theorem dX0_lose_10 : decode cX0_lose 10 = .ok (.dup, 1) := by decide +kernel
theorem dX0_lose_11 : decode cX0_lose 11 = .ok (.getfield 37, 3) := by decide +kernel
theorem dX0_lose_14 : decode cX0_lose 14 = .ok (.lload_n 3, 1) := by decide +kernel
theorem dX0_lose_15 : decode cX0_lose 15 = .ok (.lsub, 1) := by decide +kernel
theorem dX0_lose_16 : decode cX0_lose 16 = .ok (.putfield 37, 3) := by decide +kernel
theorem dX0_lose_19 : decode cX0_lose 19 = .ok (.aload_n 0, 1) := by decide +kernel
theorem dX0_lose_20 : decode cX0_lose 20 = .ok (.dup, 1) := by decide +kernel
theorem dX0_lose_21 : decode cX0_lose 21 = .ok (.getfield 40, 3) := by decide +kernel
theorem dX0_lose_24 : decode cX0_lose 24 = .ok (.lload_n 1, 1) := by decide +kernel
theorem dX0_lose_25 : decode cX0_lose 25 = .ok (.lload_n 3, 1) := by decide +kernel
theorem dX0_lose_26 : decode cX0_lose 26 = .ok (.lsub, 1) := by decide +kernel
theorem dX0_lose_27 : decode cX0_lose 27 = .ok (.ladd, 1) := by decide +kernel
theorem dX0_lose_28 : decode cX0_lose 28 = .ok (.putfield 40, 3) := by decide +kernel
theorem dX0_lose_31 : decode cX0_lose 31 = .ok (.return_, 1) := by decide +kernel
theorem dX0_restore_0 : decode cX0_restore 0 = .ok (.aload_n 0, 1) := by decide +kernel
theorem dX0_restore_1 : decode cX0_restore 1 = .ok (.dup, 1) := by decide +kernel
theorem dX0_restore_2 : decode cX0_restore 2 = .ok (.getfield 34, 3) := by decide +kernel
theorem dX0_restore_5 : decode cX0_restore 5 = .ok (.lload_n 1, 1) := by decide +kernel
theorem dX0_restore_6 : decode cX0_restore 6 = .ok (.lsub, 1) := by decide +kernel
theorem dX0_restore_7 : decode cX0_restore 7 = .ok (.putfield 34, 3) := by decide +kernel
theorem dX0_restore_10 : decode cX0_restore 10 = .ok (.aload_n 0, 1) := by decide +kernel
theorem dX0_restore_11 : decode cX0_restore 11 = .ok (.dup, 1) := by decide +kernel
theorem dX0_restore_12 : decode cX0_restore 12 = .ok (.getfield 40, 3) := by decide +kernel
theorem dX0_restore_15 : decode cX0_restore 15 = .ok (.lload_n 1, 1) := by decide +kernel
theorem dX0_restore_16 : decode cX0_restore 16 = .ok (.aload_n 0, 1) := by decide +kernel
theorem dX0_restore_17 : decode cX0_restore 17 = .ok (.getfield 40, 3) := by decide +kernel
theorem dX0_restore_20 : decode cX0_restore 20 = .ok (.invokestatic 124, 3) := by decide +kernel
theorem dX0_restore_23 : decode cX0_restore 23 = .ok (.lsub, 1) := by decide +kernel
theorem dX0_restore_24 : decode cX0_restore 24 = .ok (.putfield 40, 3) := by decide +kernel
theorem dX0_restore_27 : decode cX0_restore 27 = .ok (.return_, 1) := by decide +kernel
set_option maxRecDepth 20000 in
theorem ggX0_sell_X4_rounded : GoodIn wsX0_sell wsX4_rounded := goodIn_r _ [10, 11] (by decide +kernel) (by decide +kernel)
set_option maxRecDepth 20000 in
theorem gX0_sell_X4_rounded_n132 : GoodIn wsX0_sell (wsX4_rounded) := ggX0_sell_X4_rounded
theorem dX0_sell_0 : decode cX0_sell 0 = .ok (.aload_n 0, 1) := by decide +kernel
theorem dX0_sell_1 : decode cX0_sell 1 = .ok (.dup, 1) := by decide +kernel
theorem dX0_sell_2 : decode cX0_sell 2 = .ok (.getfield 33, 3) := by decide +kernel
theorem dX0_sell_5 : decode cX0_sell 5 = .ok (.aload_n 0, 1) := by decide +kernel
theorem dX0_sell_6 : decode cX0_sell 6 = .ok (.getfield 33, 3) := by decide +kernel
theorem dX0_sell_9 : decode cX0_sell 9 = .ok (.iload_n 1, 1) := by decide +kernel
theorem dX0_sell_10 : decode cX0_sell 10 = .ok (.i2l, 1) := by decide +kernel
theorem dX0_sell_11 : decode cX0_sell 11 = .ok (.lmul, 1) := by decide +kernel
theorem dX0_sell_12 : decode cX0_sell 12 = .ok (.ldc2_w 130, 3) := by decide +kernel
theorem dX0_sell_15 : decode cX0_sell 15 = .ok (.invokestatic 132, 3) := by decide +kernel
theorem dX0_sell_18 : decode cX0_sell 18 = .ok (.lsub, 1) := by decide +kernel
theorem dX0_sell_19 : decode cX0_sell 19 = .ok (.putfield 33, 3) := by decide +kernel
theorem dX0_sell_22 : decode cX0_sell 22 = .ok (.aload_n 0, 1) := by decide +kernel
theorem dX0_sell_23 : decode cX0_sell 23 = .ok (.dup, 1) := by decide +kernel
theorem dX0_sell_24 : decode cX0_sell 24 = .ok (.getfield 34, 3) := by decide +kernel
theorem dX0_sell_27 : decode cX0_sell 27 = .ok (.aload_n 0, 1) := by decide +kernel
theorem dX0_sell_28 : decode cX0_sell 28 = .ok (.getfield 34, 3) := by decide +kernel
theorem dX0_sell_31 : decode cX0_sell 31 = .ok (.iload_n 1, 1) := by decide +kernel
theorem dX0_sell_32 : decode cX0_sell 32 = .ok (.i2l, 1) := by decide +kernel
theorem dX0_sell_33 : decode cX0_sell 33 = .ok (.lmul, 1) := by decide +kernel
theorem dX0_sell_34 : decode cX0_sell 34 = .ok (.ldc2_w 130, 3) := by decide +kernel
theorem dX0_sell_37 : decode cX0_sell 37 = .ok (.invokestatic 132, 3) := by decide +kernel
theorem dX0_sell_40 : decode cX0_sell 40 = .ok (.lsub, 1) := by decide +kernel
theorem dX0_sell_41 : decode cX0_sell 41 = .ok (.putfield 34, 3) := by decide +kernel
theorem dX0_sell_44 : decode cX0_sell 44 = .ok (.aload_n 0, 1) := by decide +kernel
theorem dX0_sell_45 : decode cX0_sell 45 = .ok (.dup, 1) := by decide +kernel
theorem dX0_sell_46 : decode cX0_sell 46 = .ok (.getfield 37, 3) := by decide +kernel
theorem dX0_sell_49 : decode cX0_sell 49 = .ok (.aload_n 0, 1) := by decide +kernel
theorem dX0_sell_50 : decode cX0_sell 50 = .ok (.getfield 37, 3) := by decide +kernel
theorem dX0_sell_53 : decode cX0_sell 53 = .ok (.iload_n 1, 1) := by decide +kernel
theorem dX0_sell_54 : decode cX0_sell 54 = .ok (.i2l, 1) := by decide +kernel
theorem dX0_sell_55 : decode cX0_sell 55 = .ok (.lmul, 1) := by decide +kernel
theorem dX0_sell_56 : decode cX0_sell 56 = .ok (.ldc2_w 130, 3) := by decide +kernel
theorem dX0_sell_59 : decode cX0_sell 59 = .ok (.invokestatic 132, 3) := by decide +kernel
theorem dX0_sell_62 : decode cX0_sell 62 = .ok (.lsub, 1) := by decide +kernel
theorem dX0_sell_63 : decode cX0_sell 63 = .ok (.putfield 37, 3) := by decide +kernel
theorem dX0_sell_66 : decode cX0_sell 66 = .ok (.aload_n 0, 1) := by decide +kernel
theorem dX0_sell_67 : decode cX0_sell 67 = .ok (.dup, 1) := by decide +kernel
theorem dX0_sell_68 : decode cX0_sell 68 = .ok (.getfield 46, 3) := by decide +kernel
theorem dX0_sell_71 : decode cX0_sell 71 = .ok (.aload_n 0, 1) := by decide +kernel
theorem dX0_sell_72 : decode cX0_sell 72 = .ok (.getfield 46, 3) := by decide +kernel
theorem dX0_sell_75 : decode cX0_sell 75 = .ok (.iload_n 1, 1) := by decide +kernel
theorem dX0_sell_76 : decode cX0_sell 76 = .ok (.i2l, 1) := by decide +kernel
theorem dX0_sell_77 : decode cX0_sell 77 = .ok (.lmul, 1) := by decide +kernel
theorem dX0_sell_78 : decode cX0_sell 78 = .ok (.ldc2_w 130, 3) := by decide +kernel
theorem dX0_sell_81 : decode cX0_sell 81 = .ok (.invokestatic 132, 3) := by decide +kernel
theorem dX0_sell_84 : decode cX0_sell 84 = .ok (.lsub, 1) := by decide +kernel
theorem dX0_sell_85 : decode cX0_sell 85 = .ok (.putfield 46, 3) := by decide +kernel
theorem dX0_sell_88 : decode cX0_sell 88 = .ok (.aload_n 0, 1) := by decide +kernel
theorem dX0_sell_89 : decode cX0_sell 89 = .ok (.iload_n 1, 1) := by decide +kernel
theorem dX0_sell_90 : decode cX0_sell 90 = .ok (.ldc 135, 2) := by decide +kernel
theorem dX0_sell_92 : decode cX0_sell 92 = .ok (.if_icmp .ne 7, 3) := by decide +kernel
theorem dX0_sell_95 : decode cX0_sell 95 = .ok (.iconst 1, 1) := by decide +kernel
theorem dX0_sell_96 : decode cX0_sell 96 = .ok (.goto 4, 3) := by decide +kernel
theorem dX0_sell_99 : decode cX0_sell 99 = .ok (.iconst 0, 1) := by decide +kernel
theorem dX0_sell_100 : decode cX0_sell 100 = .ok (.putfield 57, 3) := by decide +kernel
theorem dX0_sell_103 : decode cX0_sell 103 = .ok (.return_, 1) := by decide +kernel
set_option maxRecDepth 20000 in
theorem ggX0_beginStretch_X0_book : GoodIn wsX0_beginStretch wsX0_book := goodIn_r _ [14, 15, 16, 28, 29, 30, 31, 32, 33, 34, 35, 36, 37, 38, 39, 40, 41, 42] (by decide +kernel) (by decide +kernel)
set_option maxRecDepth 20000 in
theorem gX0_beginStretch_X0_book : GoodIn wsX0_beginStretch (wsV RX0 77 RX0 yX0_book wsX0_book) := goodIn_app (goodIn_of _ (by decide +kernel)) ggX0_beginStretch_X0_book
set_option maxRecDepth 20000 in
theorem ggX0_beginStretch_X3_begin : GoodIn wsX0_beginStretch wsX3_begin := goodIn_r _ [21, 22, 23, 24, 25, 26, 27, 43, 44, 45, 46, 47, 48] (by decide +kernel) (by decide +kernel)
set_option maxRecDepth 20000 in
theorem gX0_beginStretch_X3_begin : GoodIn wsX0_beginStretch (wsV RX0 139 RX3 yX3_begin wsX3_begin) := goodIn_app (goodIn_of _ (by decide +kernel)) ggX0_beginStretch_X3_begin
theorem dX0_beginStretch_0 : decode cX0_beginStretch 0 = .ok (.aload_n 0, 1) := by decide +kernel
theorem dX0_beginStretch_1 : decode cX0_beginStretch 1 = .ok (.getfield 12, 3) := by decide +kernel
theorem dX0_beginStretch_4 : decode cX0_beginStretch 4 = .ok (.lconst 0, 1) := by decide +kernel
theorem dX0_beginStretch_5 : decode cX0_beginStretch 5 = .ok (.aload_n 0, 1) := by decide +kernel
theorem dX0_beginStretch_6 : decode cX0_beginStretch 6 = .ok (.invokevirtual 77, 3) := by decide +kernel
theorem dX0_beginStretch_9 : decode cX0_beginStretch 9 = .ok (.aload_n 0, 1) := by decide +kernel
theorem dX0_beginStretch_10 : decode cX0_beginStretch 10 = .ok (.getfield 46, 3) := by decide +kernel
theorem dX0_beginStretch_13 : decode cX0_beginStretch 13 = .ok (.lsub, 1) := by decide +kernel
theorem dX0_beginStretch_14 : decode cX0_beginStretch 14 = .ok (.invokestatic 136, 3) := by decide +kernel
theorem dX0_beginStretch_17 : decode cX0_beginStretch 17 = .ok (.aload_n 0, 1) := by decide +kernel
theorem dX0_beginStretch_18 : decode cX0_beginStretch 18 = .ok (.getfield 50, 3) := by decide +kernel
theorem dX0_beginStretch_21 : decode cX0_beginStretch 21 = .ok (.i2l, 1) := by decide +kernel
theorem dX0_beginStretch_22 : decode cX0_beginStretch 22 = .ok (.lconst 0, 1) := by decide +kernel
theorem dX0_beginStretch_23 : decode cX0_beginStretch 23 = .ok (.aload_n 0, 1) := by decide +kernel
theorem dX0_beginStretch_24 : decode cX0_beginStretch 24 = .ok (.getfield 28, 3) := by decide +kernel
theorem dX0_beginStretch_27 : decode cX0_beginStretch 27 = .ok (.i2l, 1) := by decide +kernel
theorem dX0_beginStretch_28 : decode cX0_beginStretch 28 = .ok (.aload_n 0, 1) := by decide +kernel
theorem dX0_beginStretch_29 : decode cX0_beginStretch 29 = .ok (.getfield 63, 3) := by decide +kernel
theorem dX0_beginStretch_32 : decode cX0_beginStretch 32 = .ok (.lsub, 1) := by decide +kernel
theorem dX0_beginStretch_33 : decode cX0_beginStretch 33 = .ok (.invokestatic 136, 3) := by decide +kernel
theorem dX0_beginStretch_36 : decode cX0_beginStretch 36 = .ok (.invokevirtual 139, 3) := by decide +kernel
theorem dX0_beginStretch_39 : decode cX0_beginStretch 39 = .ok (.return_, 1) := by decide +kernel
set_option maxRecDepth 20000 in
theorem ggX0_decliningCharge_X0_book : GoodIn wsX0_decliningCharge wsX0_book := goodIn_r _ [16, 17, 18, 23, 24, 25, 26, 27, 28, 29, 30, 31, 32, 33, 34, 35, 36, 37] (by decide +kernel) (by decide +kernel)
set_option maxRecDepth 20000 in
theorem gX0_decliningCharge_X0_book : GoodIn wsX0_decliningCharge (wsV RX0 77 RX0 yX0_book wsX0_book) := goodIn_app (goodIn_of _ (by decide +kernel)) ggX0_decliningCharge_X0_book
set_option maxRecDepth 20000 in
theorem ggX0_decliningCharge_X4_rounded : GoodIn wsX0_decliningCharge wsX4_rounded := goodIn_r _ [21, 22] (by decide +kernel) (by decide +kernel)
set_option maxRecDepth 20000 in
theorem gX0_decliningCharge_X4_rounded_n132 : GoodIn wsX0_decliningCharge (wsX4_rounded) := ggX0_decliningCharge_X4_rounded
theorem dX0_decliningCharge_0 : decode cX0_decliningCharge 0 = .ok (.aload_n 0, 1) := by decide +kernel
theorem dX0_decliningCharge_1 : decode cX0_decliningCharge 1 = .ok (.invokevirtual 77, 3) := by decide +kernel
theorem dX0_decliningCharge_4 : decode cX0_decliningCharge 4 = .ok (.aload_n 0, 1) := by decide +kernel
theorem dX0_decliningCharge_5 : decode cX0_decliningCharge 5 = .ok (.getfield 46, 3) := by decide +kernel
theorem dX0_decliningCharge_8 : decode cX0_decliningCharge 8 = .ok (.lsub, 1) := by decide +kernel
theorem dX0_decliningCharge_9 : decode cX0_decliningCharge 9 = .ok (.lstore_n 1, 1) := by decide +kernel
theorem dX0_decliningCharge_10 : decode cX0_decliningCharge 10 = .ok (.lload_n 1, 1) := by decide +kernel
theorem dX0_decliningCharge_11 : decode cX0_decliningCharge 11 = .ok (.lconst 0, 1) := by decide +kernel
theorem dX0_decliningCharge_12 : decode cX0_decliningCharge 12 = .ok (.lcmp, 1) := by decide +kernel
theorem dX0_decliningCharge_13 : decode cX0_decliningCharge 13 = .ok (.ifCond .gt 5, 3) := by decide +kernel
theorem dX0_decliningCharge_16 : decode cX0_decliningCharge 16 = .ok (.lconst 0, 1) := by decide +kernel
theorem dX0_decliningCharge_17 : decode cX0_decliningCharge 17 = .ok (.lreturn, 1) := by decide +kernel
theorem dX0_decliningCharge_18 : decode cX0_decliningCharge 18 = .ok (.aload_n 0, 1) := by decide +kernel
theorem dX0_decliningCharge_19 : decode cX0_decliningCharge 19 = .ok (.getfield 50, 3) := by decide +kernel
theorem dX0_decliningCharge_22 : decode cX0_decliningCharge 22 = .ok (.iconst 1, 1) := by decide +kernel
theorem dX0_decliningCharge_23 : decode cX0_decliningCharge 23 = .ok (.if_icmp .ne 5, 3) := by decide +kernel
theorem dX0_decliningCharge_26 : decode cX0_decliningCharge 26 = .ok (.lload_n 1, 1) := by decide +kernel
theorem dX0_decliningCharge_27 : decode cX0_decliningCharge 27 = .ok (.lreturn, 1) := by decide +kernel
theorem dX0_decliningCharge_28 : decode cX0_decliningCharge 28 = .ok (.aload_n 0, 1) := by decide +kernel
theorem dX0_decliningCharge_29 : decode cX0_decliningCharge 29 = .ok (.invokevirtual 77, 3) := by decide +kernel
theorem dX0_decliningCharge_32 : decode cX0_decliningCharge 32 = .ok (.aload_n 0, 1) := by decide +kernel
theorem dX0_decliningCharge_33 : decode cX0_decliningCharge 33 = .ok (.getfield 28, 3) := by decide +kernel
theorem dX0_decliningCharge_36 : decode cX0_decliningCharge 36 = .ok (.i2l, 1) := by decide +kernel
theorem dX0_decliningCharge_37 : decode cX0_decliningCharge 37 = .ok (.lmul, 1) := by decide +kernel
theorem dX0_decliningCharge_38 : decode cX0_decliningCharge 38 = .ok (.ldc2_w 130, 3) := by decide +kernel
theorem dX0_decliningCharge_41 : decode cX0_decliningCharge 41 = .ok (.invokestatic 132, 3) := by decide +kernel
theorem dX0_decliningCharge_44 : decode cX0_decliningCharge 44 = .ok (.lstore_n 3, 1) := by decide +kernel
theorem dX0_decliningCharge_45 : decode cX0_decliningCharge 45 = .ok (.lload_n 1, 1) := by decide +kernel
theorem dX0_decliningCharge_46 : decode cX0_decliningCharge 46 = .ok (.aload_n 0, 1) := by decide +kernel
theorem dX0_decliningCharge_47 : decode cX0_decliningCharge 47 = .ok (.getfield 50, 3) := by decide +kernel
theorem dX0_decliningCharge_50 : decode cX0_decliningCharge 50 = .ok (.i2l, 1) := by decide +kernel
theorem dX0_decliningCharge_51 : decode cX0_decliningCharge 51 = .ok (.invokestatic 132, 3) := by decide +kernel
theorem dX0_decliningCharge_54 : decode cX0_decliningCharge 54 = .ok (.lstore 5, 2) := by decide +kernel
theorem dX0_decliningCharge_56 : decode cX0_decliningCharge 56 = .ok (.lload_n 1, 1) := by decide +kernel
theorem dX0_decliningCharge_57 : decode cX0_decliningCharge 57 = .ok (.lload_n 3, 1) := by decide +kernel
theorem dX0_decliningCharge_58 : decode cX0_decliningCharge 58 = .ok (.lload 5, 2) := by decide +kernel
theorem dX0_decliningCharge_60 : decode cX0_decliningCharge 60 = .ok (.invokestatic 136, 3) := by decide +kernel
theorem dX0_decliningCharge_63 : decode cX0_decliningCharge 63 = .ok (.invokestatic 124, 3) := by decide +kernel
theorem dX0_decliningCharge_66 : decode cX0_decliningCharge 66 = .ok (.lreturn, 1) := by decide +kernel
theorem dX1_init_0 : decode cX1_init 0 = .ok (.aload_n 0, 1) := by decide +kernel
theorem dX1_init_1 : decode cX1_init 1 = .ok (.invokespecial 1, 3) := by decide +kernel
theorem dX1_init_4 : decode cX1_init 4 = .ok (.aload_n 0, 1) := by decide +kernel
theorem dX1_init_5 : decode cX1_init 5 = .ok (.iload_n 1, 1) := by decide +kernel
theorem dX1_init_6 : decode cX1_init 6 = .ok (.putfield 7, 3) := by decide +kernel
theorem dX1_init_9 : decode cX1_init 9 = .ok (.aload_n 0, 1) := by decide +kernel
theorem dX1_init_10 : decode cX1_init 10 = .ok (.iload_n 2, 1) := by decide +kernel
theorem dX1_init_11 : decode cX1_init 11 = .ok (.putfield 13, 3) := by decide +kernel
theorem dX1_init_14 : decode cX1_init 14 = .ok (.aload_n 0, 1) := by decide +kernel
theorem dX1_init_15 : decode cX1_init 15 = .ok (.iload_n 3, 1) := by decide +kernel
theorem dX1_init_16 : decode cX1_init 16 = .ok (.putfield 16, 3) := by decide +kernel
theorem dX1_init_19 : decode cX1_init 19 = .ok (.aload_n 0, 1) := by decide +kernel
theorem dX1_init_20 : decode cX1_init 20 = .ok (.lload 4, 2) := by decide +kernel
theorem dX1_init_22 : decode cX1_init 22 = .ok (.putfield 19, 3) := by decide +kernel
theorem dX1_init_25 : decode cX1_init 25 = .ok (.aload_n 0, 1) := by decide +kernel
theorem dX1_init_26 : decode cX1_init 26 = .ok (.iload 6, 2) := by decide +kernel
theorem dX1_init_28 : decode cX1_init 28 = .ok (.putfield 23, 3) := by decide +kernel
theorem dX1_init_31 : decode cX1_init 31 = .ok (.return_, 1) := by decide +kernel
theorem dX2_init_0 : decode cX2_init 0 = .ok (.aload_n 0, 1) := by decide +kernel
theorem dX2_init_1 : decode cX2_init 1 = .ok (.invokespecial 3, 3) := by decide +kernel
theorem dX2_init_4 : decode cX2_init 4 = .ok (.aload_n 0, 1) := by decide +kernel
theorem dX2_init_5 : decode cX2_init 5 = .ok (.lload_n 1, 1) := by decide +kernel
theorem dX2_init_6 : decode cX2_init 6 = .ok (.putfield 9, 3) := by decide +kernel
theorem dX2_init_9 : decode cX2_init 9 = .ok (.aload_n 0, 1) := by decide +kernel
theorem dX2_init_10 : decode cX2_init 10 = .ok (.lload_n 3, 1) := by decide +kernel
theorem dX2_init_11 : decode cX2_init 11 = .ok (.putfield 15, 3) := by decide +kernel
theorem dX2_init_14 : decode cX2_init 14 = .ok (.aload_n 0, 1) := by decide +kernel
theorem dX2_init_15 : decode cX2_init 15 = .ok (.iload 5, 2) := by decide +kernel
theorem dX2_init_17 : decode cX2_init 17 = .ok (.putfield 18, 3) := by decide +kernel
theorem dX2_init_20 : decode cX2_init 20 = .ok (.aload_n 0, 1) := by decide +kernel
theorem dX2_init_21 : decode cX2_init 21 = .ok (.iload 6, 2) := by decide +kernel
theorem dX2_init_23 : decode cX2_init 23 = .ok (.putfield 22, 3) := by decide +kernel
theorem dX2_init_26 : decode cX2_init 26 = .ok (.aload_n 0, 1) := by decide +kernel
theorem dX2_init_27 : decode cX2_init 27 = .ok (.iload 7, 2) := by decide +kernel
theorem dX2_init_29 : decode cX2_init 29 = .ok (.putfield 25, 3) := by decide +kernel
theorem dX2_init_32 : decode cX2_init 32 = .ok (.aload_n 0, 1) := by decide +kernel
theorem dX2_init_33 : decode cX2_init 33 = .ok (.iload 8, 2) := by decide +kernel
theorem dX2_init_35 : decode cX2_init 35 = .ok (.putfield 28, 3) := by decide +kernel
theorem dX2_init_38 : decode cX2_init 38 = .ok (.aload_n 0, 1) := by decide +kernel
theorem dX2_init_39 : decode cX2_init 39 = .ok (.bipush 36, 2) := by decide +kernel
theorem dX2_init_41 : decode cX2_init 41 = .ok (.newarray .int, 2) := by decide +kernel
theorem dX2_init_43 : decode cX2_init 43 = .ok (.putfield 31, 3) := by decide +kernel
theorem dX2_init_46 : decode cX2_init 46 = .ok (.aload_n 0, 1) := by decide +kernel
theorem dX2_init_47 : decode cX2_init 47 = .ok (.bipush 36, 2) := by decide +kernel
theorem dX2_init_49 : decode cX2_init 49 = .ok (.anewarray 35, 3) := by decide +kernel
theorem dX2_init_52 : decode cX2_init 52 = .ok (.putfield 37, 3) := by decide +kernel
theorem dX2_init_55 : decode cX2_init 55 = .ok (.aload_n 0, 1) := by decide +kernel
theorem dX2_init_56 : decode cX2_init 56 = .ok (.bipush 36, 2) := by decide +kernel
theorem dX2_init_58 : decode cX2_init 58 = .ok (.newarray .long, 2) := by decide +kernel
theorem dX2_init_60 : decode cX2_init 60 = .ok (.putfield 41, 3) := by decide +kernel
theorem dX2_init_63 : decode cX2_init 63 = .ok (.return_, 1) := by decide +kernel
theorem dX3_init_0 : decode cX3_init 0 = .ok (.aload_n 0, 1) := by decide +kernel
theorem dX3_init_1 : decode cX3_init 1 = .ok (.invokespecial 3, 3) := by decide +kernel
theorem dX3_init_4 : decode cX3_init 4 = .ok (.return_, 1) := by decide +kernel
theorem dX3_begin_0 : decode cX3_begin 0 = .ok (.aload_n 0, 1) := by decide +kernel
theorem dX3_begin_1 : decode cX3_begin 1 = .ok (.lload_n 1, 1) := by decide +kernel
theorem dX3_begin_2 : decode cX3_begin 2 = .ok (.putfield 9, 3) := by decide +kernel
theorem dX3_begin_5 : decode cX3_begin 5 = .ok (.aload_n 0, 1) := by decide +kernel
theorem dX3_begin_6 : decode cX3_begin 6 = .ok (.lload_n 3, 1) := by decide +kernel
theorem dX3_begin_7 : decode cX3_begin 7 = .ok (.putfield 15, 3) := by decide +kernel
theorem dX3_begin_10 : decode cX3_begin 10 = .ok (.aload_n 0, 1) := by decide +kernel
theorem dX3_begin_11 : decode cX3_begin 11 = .ok (.lload 5, 2) := by decide +kernel
theorem dX3_begin_13 : decode cX3_begin 13 = .ok (.putfield 18, 3) := by decide +kernel
theorem dX3_begin_16 : decode cX3_begin 16 = .ok (.aload_n 0, 1) := by decide +kernel
theorem dX3_begin_17 : decode cX3_begin 17 = .ok (.lconst 0, 1) := by decide +kernel
theorem dX3_begin_18 : decode cX3_begin 18 = .ok (.putfield 21, 3) := by decide +kernel
theorem dX3_begin_21 : decode cX3_begin 21 = .ok (.aload_n 0, 1) := by decide +kernel
theorem dX3_begin_22 : decode cX3_begin 22 = .ok (.lconst 0, 1) := by decide +kernel
theorem dX3_begin_23 : decode cX3_begin 23 = .ok (.putfield 24, 3) := by decide +kernel
theorem dX3_begin_26 : decode cX3_begin 26 = .ok (.aload_n 0, 1) := by decide +kernel
theorem dX3_begin_27 : decode cX3_begin 27 = .ok (.lconst 0, 1) := by decide +kernel
theorem dX3_begin_28 : decode cX3_begin 28 = .ok (.putfield 27, 3) := by decide +kernel
theorem dX3_begin_31 : decode cX3_begin 31 = .ok (.return_, 1) := by decide +kernel
set_option maxRecDepth 20000 in
theorem ggX3_nextCharge_X3_chargesTogether : GoodIn wsX3_nextCharge wsX3_chargesTogether := goodIn_r _ [8, 9, 1, 10, 11, 2, 12, 13, 14, 15, 16, 17, 18, 19, 20, 21, 7, 22, 23, 24, 25, 26, 27, 28, 29] (by decide +kernel) (by decide +kernel)
set_option maxRecDepth 20000 in
theorem gX3_nextCharge_X3_chargesTogether : GoodIn wsX3_nextCharge (wsV RX3 30 RX3 yX3_chargesTogether wsX3_chargesTogether) := goodIn_app (goodIn_of _ (by decide +kernel)) ggX3_nextCharge_X3_chargesTogether
theorem dX3_nextCharge_0 : decode cX3_nextCharge 0 = .ok (.aload_n 0, 1) := by decide +kernel
theorem dX3_nextCharge_1 : decode cX3_nextCharge 1 = .ok (.dup, 1) := by decide +kernel
theorem dX3_nextCharge_2 : decode cX3_nextCharge 2 = .ok (.getfield 21, 3) := by decide +kernel
theorem dX3_nextCharge_5 : decode cX3_nextCharge 5 = .ok (.lconst 1, 1) := by decide +kernel
theorem dX3_nextCharge_6 : decode cX3_nextCharge 6 = .ok (.ladd, 1) := by decide +kernel
theorem dX3_nextCharge_7 : decode cX3_nextCharge 7 = .ok (.putfield 21, 3) := by decide +kernel
theorem dX3_nextCharge_10 : decode cX3_nextCharge 10 = .ok (.aload_n 0, 1) := by decide +kernel
theorem dX3_nextCharge_11 : decode cX3_nextCharge 11 = .ok (.dup, 1) := by decide +kernel
theorem dX3_nextCharge_12 : decode cX3_nextCharge 12 = .ok (.getfield 24, 3) := by decide +kernel
theorem dX3_nextCharge_15 : decode cX3_nextCharge 15 = .ok (.iload_n 2, 1) := by decide +kernel
theorem dX3_nextCharge_16 : decode cX3_nextCharge 16 = .ok (.i2l, 1) := by decide +kernel
theorem dX3_nextCharge_17 : decode cX3_nextCharge 17 = .ok (.ladd, 1) := by decide +kernel
theorem dX3_nextCharge_18 : decode cX3_nextCharge 18 = .ok (.putfield 24, 3) := by decide +kernel
theorem dX3_nextCharge_21 : decode cX3_nextCharge 21 = .ok (.aload_n 0, 1) := by decide +kernel
theorem dX3_nextCharge_22 : decode cX3_nextCharge 22 = .ok (.getfield 27, 3) := by decide +kernel
theorem dX3_nextCharge_25 : decode cX3_nextCharge 25 = .ok (.lstore_n 3, 1) := by decide +kernel
theorem dX3_nextCharge_26 : decode cX3_nextCharge 26 = .ok (.aload_n 0, 1) := by decide +kernel
theorem dX3_nextCharge_27 : decode cX3_nextCharge 27 = .ok (.aload_n 0, 1) := by decide +kernel
theorem dX3_nextCharge_28 : decode cX3_nextCharge 28 = .ok (.iload_n 1, 1) := by decide +kernel
theorem dX3_nextCharge_29 : decode cX3_nextCharge 29 = .ok (.invokevirtual 30, 3) := by decide +kernel
theorem dX3_nextCharge_32 : decode cX3_nextCharge 32 = .ok (.putfield 27, 3) := by decide +kernel
theorem dX3_nextCharge_35 : decode cX3_nextCharge 35 = .ok (.aload_n 0, 1) := by decide +kernel
theorem dX3_nextCharge_36 : decode cX3_nextCharge 36 = .ok (.getfield 27, 3) := by decide +kernel
theorem dX3_nextCharge_39 : decode cX3_nextCharge 39 = .ok (.lload_n 3, 1) := by decide +kernel
theorem dX3_nextCharge_40 : decode cX3_nextCharge 40 = .ok (.lsub, 1) := by decide +kernel
theorem dX3_nextCharge_41 : decode cX3_nextCharge 41 = .ok (.lreturn, 1) := by decide +kernel
set_option maxRecDepth 20000 in
theorem ggX3_chargesTogether_X4_rounded : GoodIn wsX3_chargesTogether wsX4_rounded := goodIn_r _ [12, 13] (by decide +kernel) (by decide +kernel)
set_option maxRecDepth 20000 in
theorem gX3_chargesTogether_X4_rounded_n34 : GoodIn wsX3_chargesTogether (wsX4_rounded) := ggX3_chargesTogether_X4_rounded
set_option maxRecDepth 20000 in
theorem ggX3_chargesTogether_X3_sumUpTo : GoodIn wsX3_chargesTogether wsX3_sumUpTo := goodIn_r _ [17, 18] (by decide +kernel) (by decide +kernel)
set_option maxRecDepth 20000 in
theorem gX3_chargesTogether_X3_sumUpTo : GoodIn wsX3_chargesTogether (va_wsS RX3 38 yX3_sumUpTo wsX3_sumUpTo) := goodIn_app (goodIn_of _ (by decide +kernel)) ggX3_chargesTogether_X3_sumUpTo
theorem dX3_chargesTogether_0 : decode cX3_chargesTogether 0 = .ok (.iload_n 1, 1) := by decide +kernel
theorem dX3_chargesTogether_1 : decode cX3_chargesTogether 1 = .ok (.lookupswitch 80 #[(0, 27), (2, 44)], 27) := by decide +kernel
theorem dX3_chargesTogether_28 : decode cX3_chargesTogether 28 = .ok (.aload_n 0, 1) := by decide +kernel
theorem dX3_chargesTogether_29 : decode cX3_chargesTogether 29 = .ok (.getfield 9, 3) := by decide +kernel
theorem dX3_chargesTogether_32 : decode cX3_chargesTogether 32 = .ok (.aload_n 0, 1) := by decide +kernel
theorem dX3_chargesTogether_33 : decode cX3_chargesTogether 33 = .ok (.getfield 21, 3) := by decide +kernel
theorem dX3_chargesTogether_36 : decode cX3_chargesTogether 36 = .ok (.lmul, 1) := by decide +kernel
theorem dX3_chargesTogether_37 : decode cX3_chargesTogether 37 = .ok (.aload_n 0, 1) := by decide +kernel
theorem dX3_chargesTogether_38 : decode cX3_chargesTogether 38 = .ok (.getfield 15, 3) := by decide +kernel
theorem dX3_chargesTogether_41 : decode cX3_chargesTogether 41 = .ok (.invokestatic 34, 3) := by decide +kernel
theorem dX3_chargesTogether_44 : decode cX3_chargesTogether 44 = .ok (.lreturn, 1) := by decide +kernel
theorem dX3_chargesTogether_45 : decode cX3_chargesTogether 45 = .ok (.aload_n 0, 1) := by decide +kernel
theorem dX3_chargesTogether_46 : decode cX3_chargesTogether 46 = .ok (.getfield 9, 3) := by decide +kernel
theorem dX3_chargesTogether_49 : decode cX3_chargesTogether 49 = .ok (.aload_n 0, 1) := by decide +kernel
theorem dX3_chargesTogether_50 : decode cX3_chargesTogether 50 = .ok (.getfield 15, 3) := by decide +kernel
theorem dX3_chargesTogether_53 : decode cX3_chargesTogether 53 = .ok (.invokestatic 38, 3) := by decide +kernel
theorem dX3_chargesTogether_56 : decode cX3_chargesTogether 56 = .ok (.aload_n 0, 1) := by decide +kernel
theorem dX3_chargesTogether_57 : decode cX3_chargesTogether 57 = .ok (.getfield 15, 3) := by decide +kernel
theorem dX3_chargesTogether_60 : decode cX3_chargesTogether 60 = .ok (.aload_n 0, 1) := by decide +kernel
theorem dX3_chargesTogether_61 : decode cX3_chargesTogether 61 = .ok (.getfield 21, 3) := by decide +kernel
theorem dX3_chargesTogether_64 : decode cX3_chargesTogether 64 = .ok (.lsub, 1) := by decide +kernel
theorem dX3_chargesTogether_65 : decode cX3_chargesTogether 65 = .ok (.invokestatic 38, 3) := by decide +kernel
theorem dX3_chargesTogether_68 : decode cX3_chargesTogether 68 = .ok (.lsub, 1) := by decide +kernel
theorem dX3_chargesTogether_69 : decode cX3_chargesTogether 69 = .ok (.lmul, 1) := by decide +kernel
theorem dX3_chargesTogether_70 : decode cX3_chargesTogether 70 = .ok (.aload_n 0, 1) := by decide +kernel
theorem dX3_chargesTogether_71 : decode cX3_chargesTogether 71 = .ok (.getfield 15, 3) := by decide +kernel
theorem dX3_chargesTogether_74 : decode cX3_chargesTogether 74 = .ok (.invokestatic 38, 3) := by decide +kernel
theorem dX3_chargesTogether_77 : decode cX3_chargesTogether 77 = .ok (.invokestatic 34, 3) := by decide +kernel
theorem dX3_chargesTogether_80 : decode cX3_chargesTogether 80 = .ok (.lreturn, 1) := by decide +kernel
theorem dX3_chargesTogether_81 : decode cX3_chargesTogether 81 = .ok (.aload_n 0, 1) := by decide +kernel
theorem dX3_chargesTogether_82 : decode cX3_chargesTogether 82 = .ok (.getfield 18, 3) := by decide +kernel
theorem dX3_chargesTogether_85 : decode cX3_chargesTogether 85 = .ok (.lconst 0, 1) := by decide +kernel
theorem dX3_chargesTogether_86 : decode cX3_chargesTogether 86 = .ok (.lcmp, 1) := by decide +kernel
theorem dX3_chargesTogether_87 : decode cX3_chargesTogether 87 = .ok (.ifCond .ne 10, 3) := by decide +kernel
theorem dX3_chargesTogether_90 : decode cX3_chargesTogether 90 = .ok (.aload_n 0, 1) := by decide +kernel
theorem dX3_chargesTogether_91 : decode cX3_chargesTogether 91 = .ok (.getfield 9, 3) := by decide +kernel
theorem dX3_chargesTogether_94 : decode cX3_chargesTogether 94 = .ok (.goto 26, 3) := by decide +kernel
theorem dX3_chargesTogether_97 : decode cX3_chargesTogether 97 = .ok (.aload_n 0, 1) := by decide +kernel
theorem dX3_chargesTogether_98 : decode cX3_chargesTogether 98 = .ok (.getfield 9, 3) := by decide +kernel
theorem dX3_chargesTogether_101 : decode cX3_chargesTogether 101 = .ok (.aload_n 0, 1) := by decide +kernel
theorem dX3_chargesTogether_102 : decode cX3_chargesTogether 102 = .ok (.getfield 24, 3) := by decide +kernel
theorem dX3_chargesTogether_105 : decode cX3_chargesTogether 105 = .ok (.aload_n 0, 1) := by decide +kernel
theorem dX3_chargesTogether_106 : decode cX3_chargesTogether 106 = .ok (.getfield 18, 3) := by decide +kernel
theorem dX3_chargesTogether_109 : decode cX3_chargesTogether 109 = .ok (.invokestatic 42, 3) := by decide +kernel
theorem dX3_chargesTogether_112 : decode cX3_chargesTogether 112 = .ok (.lmul, 1) := by decide +kernel
theorem dX3_chargesTogether_113 : decode cX3_chargesTogether 113 = .ok (.aload_n 0, 1) := by decide +kernel
theorem dX3_chargesTogether_114 : decode cX3_chargesTogether 114 = .ok (.getfield 18, 3) := by decide +kernel
theorem dX3_chargesTogether_117 : decode cX3_chargesTogether 117 = .ok (.invokestatic 34, 3) := by decide +kernel
theorem dX3_chargesTogether_120 : decode cX3_chargesTogether 120 = .ok (.lreturn, 1) := by decide +kernel
theorem dX3_sumUpTo_0 : decode cX3_sumUpTo 0 = .ok (.lload_n 0, 1) := by decide +kernel
theorem dX3_sumUpTo_1 : decode cX3_sumUpTo 1 = .ok (.lload_n 0, 1) := by decide +kernel
theorem dX3_sumUpTo_2 : decode cX3_sumUpTo 2 = .ok (.lconst 1, 1) := by decide +kernel
theorem dX3_sumUpTo_3 : decode cX3_sumUpTo 3 = .ok (.ladd, 1) := by decide +kernel
theorem dX3_sumUpTo_4 : decode cX3_sumUpTo 4 = .ok (.lmul, 1) := by decide +kernel
theorem dX3_sumUpTo_5 : decode cX3_sumUpTo 5 = .ok (.ldc2_w 47, 3) := by decide +kernel
theorem dX3_sumUpTo_8 : decode cX3_sumUpTo 8 = .ok (.ldiv, 1) := by decide +kernel
theorem dX3_sumUpTo_9 : decode cX3_sumUpTo 9 = .ok (.lreturn, 1) := by decide +kernel
set_option maxRecDepth 20000 in
theorem ggX4_init_X0_init : GoodIn wsX4_init wsX0_init := goodIn_r _ [15, 16, 2, 3, 17, 18, 19, 20, 21, 22, 23, 46, 47, 48, 49, 50, 51, 31, 32, 33, 34, 35, 36, 37, 38, 39, 40, 41, 42, 43, 44, 45] (by decide +kernel) (by decide +kernel)
set_option maxRecDepth 20000 in
theorem gX4_init_X0_init : GoodIn wsX4_init (wsX0_init) := ggX4_init_X0_init
theorem dX4_init_0 : decode cX4_init 0 = .ok (.aload_n 0, 1) := by decide +kernel
theorem dX4_init_1 : decode cX4_init 1 = .ok (.invokespecial 1, 3) := by decide +kernel
theorem dX4_init_4 : decode cX4_init 4 = .ok (.aload_n 0, 1) := by decide +kernel
theorem dX4_init_5 : decode cX4_init 5 = .ok (.bipush 6, 2) := by decide +kernel
theorem dX4_init_7 : decode cX4_init 7 = .ok (.anewarray 9, 3) := by decide +kernel
theorem dX4_init_10 : decode cX4_init 10 = .ok (.putfield 11, 3) := by decide +kernel
theorem dX4_init_13 : decode cX4_init 13 = .ok (.aload_n 0, 1) := by decide +kernel
theorem dX4_init_14 : decode cX4_init 14 = .ok (.bipush 40, 2) := by decide +kernel
theorem dX4_init_16 : decode cX4_init 16 = .ok (.anewarray 15, 3) := by decide +kernel
theorem dX4_init_19 : decode cX4_init 19 = .ok (.putfield 17, 3) := by decide +kernel
theorem dX4_init_22 : decode cX4_init 22 = .ok (.aload_n 0, 1) := by decide +kernel
theorem dX4_init_23 : decode cX4_init 23 = .ok (.new 21, 3) := by decide +kernel
theorem dX4_init_26 : decode cX4_init 26 = .ok (.dup, 1) := by decide +kernel
theorem dX4_init_27 : decode cX4_init 27 = .ok (.invokespecial 23, 3) := by decide +kernel
theorem dX4_init_30 : decode cX4_init 30 = .ok (.putfield 24, 3) := by decide +kernel
theorem dX4_init_33 : decode cX4_init 33 = .ok (.aload_n 0, 1) := by decide +kernel
theorem dX4_init_34 : decode cX4_init 34 = .ok (.new 21, 3) := by decide +kernel
theorem dX4_init_37 : decode cX4_init 37 = .ok (.dup, 1) := by decide +kernel
theorem dX4_init_38 : decode cX4_init 38 = .ok (.invokespecial 23, 3) := by decide +kernel
theorem dX4_init_41 : decode cX4_init 41 = .ok (.putfield 28, 3) := by decide +kernel
theorem dX4_init_44 : decode cX4_init 44 = .ok (.return_, 1) := by decide +kernel
set_option maxRecDepth 20000 in
theorem ggX4_part_X4_isWithin : GoodIn wsX4_part wsX4_isWithin := goodIn_r _ [15] (by decide +kernel) (by decide +kernel)
set_option maxRecDepth 20000 in
theorem gX4_part_X4_isWithin : GoodIn wsX4_part (va_wsS RX4 33 yX4_isWithin wsX4_isWithin) := goodIn_app (goodIn_of _ (by decide +kernel)) ggX4_part_X4_isWithin
set_option maxRecDepth 20000 in
theorem ggX4_part_X4_isMonth : GoodIn wsX4_part wsX4_isMonth := goodIn_r _ [18] (by decide +kernel) (by decide +kernel)
set_option maxRecDepth 20000 in
theorem gX4_part_X4_isMonth : GoodIn wsX4_part (va_wsS RX4 37 yX4_isMonth wsX4_isMonth) := goodIn_app (goodIn_of _ (by decide +kernel)) ggX4_part_X4_isMonth
set_option maxRecDepth 20000 in
theorem ggX4_part_X4_isRateOf : GoodIn wsX4_part wsX4_isRateOf := goodIn_r _ [21, 22, 12, 13, 14, 15] (by decide +kernel) (by decide +kernel)
set_option maxRecDepth 20000 in
theorem gX4_part_X4_isRateOf : GoodIn wsX4_part (va_wsS RX4 43 yX4_isRateOf wsX4_isRateOf) := goodIn_app (goodIn_of _ (by decide +kernel)) ggX4_part_X4_isRateOf
set_option maxRecDepth 20000 in
theorem ggX4_part_X2_init : GoodIn wsX4_part wsX2_init := goodIn_r _ [25, 26, 27, 28, 29, 30, 31, 32, 33, 34, 35, 36, 37, 38, 39, 40, 48, 49, 50, 51, 52, 53, 54, 55, 56, 57, 58] (by decide +kernel) (by decide +kernel)
set_option maxRecDepth 20000 in
theorem gX4_part_X2_init : GoodIn wsX4_part (wsX2_init) := ggX4_part_X2_init
theorem dX4_part_0 : decode cX4_part 0 = .ok (.lload_n 1, 1) := by decide +kernel
theorem dX4_part_1 : decode cX4_part 1 = .ok (.lconst 1, 1) := by decide +kernel
theorem dX4_part_2 : decode cX4_part 2 = .ok (.ldc2_w 31, 3) := by decide +kernel
theorem dX4_part_5 : decode cX4_part 5 = .ok (.invokestatic 33, 3) := by decide +kernel
theorem dX4_part_8 : decode cX4_part 8 = .ok (.ifCond .eq 16, 3) := by decide +kernel
theorem dX4_part_11 : decode cX4_part 11 = .ok (.lload_n 3, 1) := by decide +kernel
theorem dX4_part_12 : decode cX4_part 12 = .ok (.lconst 0, 1) := by decide +kernel
theorem dX4_part_13 : decode cX4_part 13 = .ok (.lload_n 1, 1) := by decide +kernel
theorem dX4_part_14 : decode cX4_part 14 = .ok (.invokestatic 33, 3) := by decide +kernel
theorem dX4_part_17 : decode cX4_part 17 = .ok (.ifCond .eq 7, 3) := by decide +kernel
theorem dX4_part_20 : decode cX4_part 20 = .ok (.iconst 1, 1) := by decide +kernel
theorem dX4_part_21 : decode cX4_part 21 = .ok (.goto 4, 3) := by decide +kernel
theorem dX4_part_24 : decode cX4_part 24 = .ok (.iconst 0, 1) := by decide +kernel
theorem dX4_part_25 : decode cX4_part 25 = .ok (.istore 9, 2) := by decide +kernel
theorem dX4_part_27 : decode cX4_part 27 = .ok (.iload 5, 2) := by decide +kernel
theorem dX4_part_29 : decode cX4_part 29 = .ok (.invokestatic 37, 3) := by decide +kernel
theorem dX4_part_32 : decode cX4_part 32 = .ok (.ifCond .eq 20, 3) := by decide +kernel
theorem dX4_part_35 : decode cX4_part 35 = .ok (.iload 6, 2) := by decide +kernel
theorem dX4_part_37 : decode cX4_part 37 = .ok (.i2l, 1) := by decide +kernel
theorem dX4_part_38 : decode cX4_part 38 = .ok (.lconst 1, 1) := by decide +kernel
theorem dX4_part_39 : decode cX4_part 39 = .ok (.ldc2_w 41, 3) := by decide +kernel
theorem dX4_part_42 : decode cX4_part 42 = .ok (.invokestatic 33, 3) := by decide +kernel
theorem dX4_part_45 : decode cX4_part 45 = .ok (.ifCond .eq 7, 3) := by decide +kernel
theorem dX4_part_48 : decode cX4_part 48 = .ok (.iconst 1, 1) := by decide +kernel
theorem dX4_part_49 : decode cX4_part 49 = .ok (.goto 4, 3) := by decide +kernel
theorem dX4_part_52 : decode cX4_part 52 = .ok (.iconst 0, 1) := by decide +kernel
theorem dX4_part_53 : decode cX4_part 53 = .ok (.istore 10, 2) := by decide +kernel
theorem dX4_part_55 : decode cX4_part 55 = .ok (.iload 9, 2) := by decide +kernel
theorem dX4_part_57 : decode cX4_part 57 = .ok (.ifCond .eq 18, 3) := by decide +kernel
theorem dX4_part_60 : decode cX4_part 60 = .ok (.iload 10, 2) := by decide +kernel
theorem dX4_part_62 : decode cX4_part 62 = .ok (.ifCond .eq 13, 3) := by decide +kernel
theorem dX4_part_65 : decode cX4_part 65 = .ok (.iload 7, 2) := by decide +kernel
theorem dX4_part_67 : decode cX4_part 67 = .ok (.iload 8, 2) := by decide +kernel
theorem dX4_part_69 : decode cX4_part 69 = .ok (.invokestatic 43, 3) := by decide +kernel
theorem dX4_part_72 : decode cX4_part 72 = .ok (.ifCond .ne 13, 3) := by decide +kernel
theorem dX4_part_75 : decode cX4_part 75 = .ok (.new 47, 3) := by decide +kernel
theorem dX4_part_78 : decode cX4_part 78 = .ok (.dup, 1) := by decide +kernel
theorem dX4_part_79 : decode cX4_part 79 = .ok (.ldc 49, 2) := by decide +kernel
theorem dX4_part_81 : decode cX4_part 81 = .ok (.invokespecial 51, 3) := by decide +kernel
theorem dX4_part_84 : decode cX4_part 84 = .ok (.athrow, 1) := by decide +kernel
theorem dX4_part_85 : decode cX4_part 85 = .ok (.aload_n 0, 1) := by decide +kernel
theorem dX4_part_86 : decode cX4_part 86 = .ok (.getfield 54, 3) := by decide +kernel
theorem dX4_part_89 : decode cX4_part 89 = .ok (.bipush 6, 2) := by decide +kernel
theorem dX4_part_91 : decode cX4_part 91 = .ok (.if_icmp .lt 13, 3) := by decide +kernel
theorem dX4_part_94 : decode cX4_part 94 = .ok (.new 58, 3) := by decide +kernel
theorem dX4_part_97 : decode cX4_part 97 = .ok (.dup, 1) := by decide +kernel
theorem dX4_part_98 : decode cX4_part 98 = .ok (.ldc 60, 2) := by decide +kernel
theorem dX4_part_100 : decode cX4_part 100 = .ok (.invokespecial 62, 3) := by decide +kernel
theorem dX4_part_103 : decode cX4_part 103 = .ok (.athrow, 1) := by decide +kernel
theorem dX4_part_104 : decode cX4_part 104 = .ok (.aload_n 0, 1) := by decide +kernel
theorem dX4_part_105 : decode cX4_part 105 = .ok (.getfield 11, 3) := by decide +kernel
theorem dX4_part_108 : decode cX4_part 108 = .ok (.aload_n 0, 1) := by decide +kernel
theorem dX4_part_109 : decode cX4_part 109 = .ok (.getfield 54, 3) := by decide +kernel
theorem dX4_part_112 : decode cX4_part 112 = .ok (.new 9, 3) := by decide +kernel
theorem dX4_part_115 : decode cX4_part 115 = .ok (.dup, 1) := by decide +kernel
theorem dX4_part_116 : decode cX4_part 116 = .ok (.lload_n 1, 1) := by decide +kernel
theorem dX4_part_117 : decode cX4_part 117 = .ok (.lload_n 3, 1) := by decide +kernel
theorem dX4_part_118 : decode cX4_part 118 = .ok (.iload 5, 2) := by decide +kernel
theorem dX4_part_120 : decode cX4_part 120 = .ok (.iload 6, 2) := by decide +kernel
theorem dX4_part_122 : decode cX4_part 122 = .ok (.iload 7, 2) := by decide +kernel
theorem dX4_part_124 : decode cX4_part 124 = .ok (.iload 8, 2) := by decide +kernel
theorem dX4_part_126 : decode cX4_part 126 = .ok (.invokespecial 63, 3) := by decide +kernel
theorem dX4_part_129 : decode cX4_part 129 = .ok (.aastore, 1) := by decide +kernel
theorem dX4_part_130 : decode cX4_part 130 = .ok (.aload_n 0, 1) := by decide +kernel
theorem dX4_part_131 : decode cX4_part 131 = .ok (.dup, 1) := by decide +kernel
theorem dX4_part_132 : decode cX4_part 132 = .ok (.getfield 54, 3) := by decide +kernel
theorem dX4_part_135 : decode cX4_part 135 = .ok (.iconst 1, 1) := by decide +kernel
theorem dX4_part_136 : decode cX4_part 136 = .ok (.iadd, 1) := by decide +kernel
theorem dX4_part_137 : decode cX4_part 137 = .ok (.putfield 54, 3) := by decide +kernel
theorem dX4_part_140 : decode cX4_part 140 = .ok (.aload_n 0, 1) := by decide +kernel
theorem dX4_part_141 : decode cX4_part 141 = .ok (.getfield 54, 3) := by decide +kernel
theorem dX4_part_144 : decode cX4_part 144 = .ok (.iconst 1, 1) := by decide +kernel
theorem dX4_part_145 : decode cX4_part 145 = .ok (.isub, 1) := by decide +kernel
theorem dX4_part_146 : decode cX4_part 146 = .ok (.ireturn, 1) := by decide +kernel
set_option maxRecDepth 20000 in
theorem ggX4_units_X4_partOf : GoodIn wsX4_units wsX4_partOf := goodIn_r _ [11, 12, 13, 162, 163, 164, 165, 166, 167, 168] (by decide +kernel) (by decide +kernel)
set_option maxRecDepth 20000 in
theorem gX4_units_X4_partOf : GoodIn wsX4_units (wsV RX4 66 RX4 yX4_partOf wsX4_partOf) := goodIn_app (goodIn_of _ (by decide +kernel)) ggX4_units_X4_partOf
set_option maxRecDepth 20000 in
theorem ggX4_units_X4_isMonth : GoodIn wsX4_units wsX4_isMonth := goodIn_r _ [16] (by decide +kernel) (by decide +kernel)
set_option maxRecDepth 20000 in
theorem gX4_units_X4_isMonth : GoodIn wsX4_units (va_wsS RX4 37 yX4_isMonth wsX4_isMonth) := goodIn_app (goodIn_of _ (by decide +kernel)) ggX4_units_X4_isMonth
set_option maxRecDepth 20000 in
theorem ggX4_units_X4_isWithin : GoodIn wsX4_units wsX4_isWithin := goodIn_r _ [19] (by decide +kernel) (by decide +kernel)
set_option maxRecDepth 20000 in
theorem gX4_units_X4_isWithin : GoodIn wsX4_units (va_wsS RX4 33 yX4_isWithin wsX4_isWithin) := goodIn_app (goodIn_of _ (by decide +kernel)) ggX4_units_X4_isWithin
set_option maxRecDepth 20000 in
theorem ggX4_units_X4_hasBreach : GoodIn wsX4_units wsX4_hasBreach := goodIn_r _ [23, 24, 25, 26, 27, 10, 28, 29, 30, 31, 32, 33, 6, 34, 35, 36, 37, 38, 39, 40, 41, 42, 43, 44, 45, 46, 47, 48, 49, 50, 51, 52, 53, 54, 55, 56, 57, 58, 59, 60, 61, 62, 63, 64, 65, 66, 67, 68, 69, 70, 71, 72, 73, 74, 75, 76, 77, 78, 79, 80, 81, 82, 83, 84, 85, 86, 87, 88, 89, 90, 91, 92, 93, 94, 95, 96, 97, 98, 99, 100, 101, 102, 103, 104, 105, 106, 107, 108, 109, 110, 111, 112, 113, 114, 115, 116, 117, 118, 119, 120, 121, 122, 123, 124, 125, 126, 127, 128, 129, 130, 131, 132, 133, 134, 135, 136, 137, 138, 139, 140, 141, 142, 143, 144, 145, 146, 147, 148, 149, 150, 162, 163, 164, 165, 166, 167, 168, 169, 170, 171, 172, 173, 174, 175, 176, 177, 178, 179, 180, 181, 182, 183, 151, 152, 153, 154, 155, 156, 157, 158, 159, 160, 161, 184, 185, 186, 187, 188, 189, 190, 191, 192, 193, 194] (by decide +kernel) (by decide +kernel)
set_option maxRecDepth 20000 in
theorem gX4_units_X4_hasBreach : GoodIn wsX4_units (wsV RX4 78 RX4 yX4_hasBreach wsX4_hasBreach) := goodIn_app (goodIn_of _ (by decide +kernel)) ggX4_units_X4_hasBreach
theorem dX4_units_0 : decode cX4_units 0 = .ok (.aload_n 0, 1) := by decide +kernel
theorem dX4_units_1 : decode cX4_units 1 = .ok (.iload_n 1, 1) := by decide +kernel
theorem dX4_units_2 : decode cX4_units 2 = .ok (.invokevirtual 66, 3) := by decide +kernel
theorem dX4_units_5 : decode cX4_units 5 = .ok (.astore 4, 2) := by decide +kernel
theorem dX4_units_7 : decode cX4_units 7 = .ok (.aload 4, 2) := by decide +kernel
theorem dX4_units_9 : decode cX4_units 9 = .ok (.ifnull 22, 3) := by decide +kernel
theorem dX4_units_12 : decode cX4_units 12 = .ok (.iload_n 2, 1) := by decide +kernel
theorem dX4_units_13 : decode cX4_units 13 = .ok (.invokestatic 37, 3) := by decide +kernel
theorem dX4_units_16 : decode cX4_units 16 = .ok (.ifCond .eq 15, 3) := by decide +kernel
theorem dX4_units_19 : decode cX4_units 19 = .ok (.iload_n 3, 1) := by decide +kernel
theorem dX4_units_20 : decode cX4_units 20 = .ok (.i2l, 1) := by decide +kernel
theorem dX4_units_21 : decode cX4_units 21 = .ok (.lconst 0, 1) := by decide +kernel
theorem dX4_units_22 : decode cX4_units 22 = .ok (.ldc2_w 70, 3) := by decide +kernel
theorem dX4_units_25 : decode cX4_units 25 = .ok (.invokestatic 33, 3) := by decide +kernel
theorem dX4_units_28 : decode cX4_units 28 = .ok (.ifCond .ne 13, 3) := by decide +kernel
theorem dX4_units_31 : decode cX4_units 31 = .ok (.new 47, 3) := by decide +kernel
theorem dX4_units_34 : decode cX4_units 34 = .ok (.dup, 1) := by decide +kernel
theorem dX4_units_35 : decode cX4_units 35 = .ok (.ldc 72, 2) := by decide +kernel
theorem dX4_units_37 : decode cX4_units 37 = .ok (.invokespecial 51, 3) := by decide +kernel
theorem dX4_units_40 : decode cX4_units 40 = .ok (.athrow, 1) := by decide +kernel
theorem dX4_units_41 : decode cX4_units 41 = .ok (.aload 4, 2) := by decide +kernel
theorem dX4_units_43 : decode cX4_units 43 = .ok (.getfield 74, 3) := by decide +kernel
theorem dX4_units_46 : decode cX4_units 46 = .ok (.iload_n 2, 1) := by decide +kernel
theorem dX4_units_47 : decode cX4_units 47 = .ok (.iaload, 1) := by decide +kernel
theorem dX4_units_48 : decode cX4_units 48 = .ok (.istore 5, 2) := by decide +kernel
theorem dX4_units_50 : decode cX4_units 50 = .ok (.aload 4, 2) := by decide +kernel
theorem dX4_units_52 : decode cX4_units 52 = .ok (.getfield 74, 3) := by decide +kernel
theorem dX4_units_55 : decode cX4_units 55 = .ok (.iload_n 2, 1) := by decide +kernel
theorem dX4_units_56 : decode cX4_units 56 = .ok (.iload_n 3, 1) := by decide +kernel
theorem dX4_units_57 : decode cX4_units 57 = .ok (.iastore, 1) := by decide +kernel
theorem dX4_units_58 : decode cX4_units 58 = .ok (.aload_n 0, 1) := by decide +kernel
theorem dX4_units_59 : decode cX4_units 59 = .ok (.aload 4, 2) := by decide +kernel
theorem dX4_units_61 : decode cX4_units 61 = .ok (.invokevirtual 78, 3) := by decide +kernel
theorem dX4_units_64 : decode cX4_units 64 = .ok (.ifCond .eq 22, 3) := by decide +kernel
theorem dX4_units_67 : decode cX4_units 67 = .ok (.aload 4, 2) := by decide +kernel
theorem dX4_units_69 : decode cX4_units 69 = .ok (.getfield 74, 3) := by decide +kernel
theorem dX4_units_72 : decode cX4_units 72 = .ok (.iload_n 2, 1) := by decide +kernel
theorem dX4_units_73 : decode cX4_units 73 = .ok (.iload 5, 2) := by decide +kernel
theorem dX4_units_75 : decode cX4_units 75 = .ok (.iastore, 1) := by decide +kernel
theorem dX4_units_76 : decode cX4_units 76 = .ok (.new 58, 3) := by decide +kernel
theorem dX4_units_79 : decode cX4_units 79 = .ok (.dup, 1) := by decide +kernel
theorem dX4_units_80 : decode cX4_units 80 = .ok (.ldc 82, 2) := by decide +kernel
theorem dX4_units_82 : decode cX4_units 82 = .ok (.invokespecial 62, 3) := by decide +kernel
theorem dX4_units_85 : decode cX4_units 85 = .ok (.athrow, 1) := by decide +kernel
theorem dX4_units_86 : decode cX4_units 86 = .ok (.iload 5, 2) := by decide +kernel
theorem dX4_units_88 : decode cX4_units 88 = .ok (.ireturn, 1) := by decide +kernel
set_option maxRecDepth 20000 in
theorem ggX4_event_X4_partOf : GoodIn wsX4_event wsX4_partOf := goodIn_r _ [17, 18, 19, 184, 185, 186, 187, 188, 189, 190] (by decide +kernel) (by decide +kernel)
set_option maxRecDepth 20000 in
theorem gX4_event_X4_partOf : GoodIn wsX4_event (wsV RX4 66 RX4 yX4_partOf wsX4_partOf) := goodIn_app (goodIn_of _ (by decide +kernel)) ggX4_event_X4_partOf
set_option maxRecDepth 20000 in
theorem ggX4_event_X4_isMonth : GoodIn wsX4_event wsX4_isMonth := goodIn_r _ [22] (by decide +kernel) (by decide +kernel)
set_option maxRecDepth 20000 in
theorem gX4_event_X4_isMonth : GoodIn wsX4_event (va_wsS RX4 37 yX4_isMonth wsX4_isMonth) := goodIn_app (goodIn_of _ (by decide +kernel)) ggX4_event_X4_isMonth
set_option maxRecDepth 20000 in
theorem ggX4_event_X4_isEvent : GoodIn wsX4_event wsX4_isEvent := goodIn_r _ [25, 26, 27, 28, 29, 30, 16, 31] (by decide +kernel) (by decide +kernel)
set_option maxRecDepth 20000 in
theorem gX4_event_X4_isEvent : GoodIn wsX4_event (va_wsS RX4 87 yX4_isEvent wsX4_isEvent) := goodIn_app (goodIn_of _ (by decide +kernel)) ggX4_event_X4_isEvent
set_option maxRecDepth 20000 in
theorem ggX4_event_X1_init : GoodIn wsX4_event wsX1_init := goodIn_r _ [34, 35, 36, 37, 38, 39, 40, 41, 42, 191, 192, 193, 194, 195] (by decide +kernel) (by decide +kernel)
set_option maxRecDepth 20000 in
theorem gX4_event_X1_init : GoodIn wsX4_event (wsX1_init) := ggX4_event_X1_init
set_option maxRecDepth 20000 in
theorem ggX4_event_X4_hasBreach : GoodIn wsX4_event wsX4_hasBreach := goodIn_r _ [46, 47, 48, 49, 50, 16, 51, 52, 5, 6, 53, 54, 55, 56, 57, 58, 59, 60, 61, 62, 63, 64, 65, 66, 67, 68, 69, 70, 71, 72, 73, 74, 75, 76, 77, 78, 79, 80, 81, 82, 83, 84, 85, 86, 87, 88, 89, 90, 91, 92, 93, 94, 95, 96, 97, 98, 99, 100, 101, 102, 103, 104, 105, 106, 107, 108, 109, 110, 111, 112, 113, 114, 115, 116, 117, 118, 119, 120, 121, 122, 123, 124, 125, 126, 127, 128, 129, 130, 131, 132, 133, 134, 135, 136, 137, 138, 139, 140, 141, 142, 143, 144, 145, 146, 147, 148, 149, 150, 151, 152, 153, 154, 155, 156, 157, 158, 159, 160, 161, 162, 163, 164, 165, 166, 167, 168, 169, 170, 171, 172, 184, 185, 186, 187, 188, 189, 190, 196, 197, 198, 199, 200, 201, 202, 203, 204, 205, 206, 207, 208, 209, 210, 173, 174, 175, 176, 177, 178, 179, 180, 181, 182, 183, 191, 192, 193, 194, 195, 211, 212, 213, 214, 215, 216] (by decide +kernel) (by decide +kernel)
set_option maxRecDepth 20000 in
theorem gX4_event_X4_hasBreach : GoodIn wsX4_event (wsV RX4 78 RX4 yX4_hasBreach wsX4_hasBreach) := goodIn_app (goodIn_of _ (by decide +kernel)) ggX4_event_X4_hasBreach
theorem dX4_event_0 : decode cX4_event 0 = .ok (.aload_n 0, 1) := by decide +kernel
theorem dX4_event_1 : decode cX4_event 1 = .ok (.iload_n 1, 1) := by decide +kernel
theorem dX4_event_2 : decode cX4_event 2 = .ok (.invokevirtual 66, 3) := by decide +kernel
theorem dX4_event_5 : decode cX4_event 5 = .ok (.astore 7, 2) := by decide +kernel
theorem dX4_event_7 : decode cX4_event 7 = .ok (.aload 7, 2) := by decide +kernel
theorem dX4_event_9 : decode cX4_event 9 = .ok (.ifnull 30, 3) := by decide +kernel
theorem dX4_event_12 : decode cX4_event 12 = .ok (.iload_n 2, 1) := by decide +kernel
theorem dX4_event_13 : decode cX4_event 13 = .ok (.invokestatic 37, 3) := by decide +kernel
theorem dX4_event_16 : decode cX4_event 16 = .ok (.ifCond .eq 23, 3) := by decide +kernel
theorem dX4_event_19 : decode cX4_event 19 = .ok (.iload_n 2, 1) := by decide +kernel
theorem dX4_event_20 : decode cX4_event 20 = .ok (.aload 7, 2) := by decide +kernel
theorem dX4_event_22 : decode cX4_event 22 = .ok (.getfield 84, 3) := by decide +kernel
theorem dX4_event_25 : decode cX4_event 25 = .ok (.if_icmp .lt 14, 3) := by decide +kernel
theorem dX4_event_28 : decode cX4_event 28 = .ok (.iload_n 3, 1) := by decide +kernel
theorem dX4_event_29 : decode cX4_event 29 = .ok (.lload 4, 2) := by decide +kernel
theorem dX4_event_31 : decode cX4_event 31 = .ok (.iload 6, 2) := by decide +kernel
theorem dX4_event_33 : decode cX4_event 33 = .ok (.invokestatic 87, 3) := by decide +kernel
theorem dX4_event_36 : decode cX4_event 36 = .ok (.ifCond .ne 13, 3) := by decide +kernel
theorem dX4_event_39 : decode cX4_event 39 = .ok (.new 47, 3) := by decide +kernel
theorem dX4_event_42 : decode cX4_event 42 = .ok (.dup, 1) := by decide +kernel
theorem dX4_event_43 : decode cX4_event 43 = .ok (.ldc 91, 2) := by decide +kernel
theorem dX4_event_45 : decode cX4_event 45 = .ok (.invokespecial 51, 3) := by decide +kernel
theorem dX4_event_48 : decode cX4_event 48 = .ok (.athrow, 1) := by decide +kernel
theorem dX4_event_49 : decode cX4_event 49 = .ok (.aload 7, 2) := by decide +kernel
theorem dX4_event_51 : decode cX4_event 51 = .ok (.getfield 93, 3) := by decide +kernel
theorem dX4_event_54 : decode cX4_event 54 = .ok (.iload_n 2, 1) := by decide +kernel
theorem dX4_event_55 : decode cX4_event 55 = .ok (.aaload, 1) := by decide +kernel
theorem dX4_event_56 : decode cX4_event 56 = .ok (.ifnonnull 22, 3) := by decide +kernel
theorem dX4_event_59 : decode cX4_event 59 = .ok (.aload 7, 2) := by decide +kernel
theorem dX4_event_61 : decode cX4_event 61 = .ok (.getfield 96, 3) := by decide +kernel
theorem dX4_event_64 : decode cX4_event 64 = .ok (.bipush 8, 2) := by decide +kernel
theorem dX4_event_66 : decode cX4_event 66 = .ok (.if_icmp .ge 12, 3) := by decide +kernel
theorem dX4_event_69 : decode cX4_event 69 = .ok (.aload_n 0, 1) := by decide +kernel
theorem dX4_event_70 : decode cX4_event 70 = .ok (.getfield 99, 3) := by decide +kernel
theorem dX4_event_73 : decode cX4_event 73 = .ok (.bipush 40, 2) := by decide +kernel
theorem dX4_event_75 : decode cX4_event 75 = .ok (.if_icmp .lt 13, 3) := by decide +kernel
theorem dX4_event_78 : decode cX4_event 78 = .ok (.new 58, 3) := by decide +kernel
theorem dX4_event_81 : decode cX4_event 81 = .ok (.dup, 1) := by decide +kernel
theorem dX4_event_82 : decode cX4_event 82 = .ok (.ldc 100, 2) := by decide +kernel
theorem dX4_event_84 : decode cX4_event 84 = .ok (.invokespecial 62, 3) := by decide +kernel
theorem dX4_event_87 : decode cX4_event 87 = .ok (.athrow, 1) := by decide +kernel
theorem dX4_event_88 : decode cX4_event 88 = .ok (.new 15, 3) := by decide +kernel
theorem dX4_event_91 : decode cX4_event 91 = .ok (.dup, 1) := by decide +kernel
theorem dX4_event_92 : decode cX4_event 92 = .ok (.iload_n 1, 1) := by decide +kernel
theorem dX4_event_93 : decode cX4_event 93 = .ok (.iload_n 2, 1) := by decide +kernel
theorem dX4_event_94 : decode cX4_event 94 = .ok (.iload_n 3, 1) := by decide +kernel
theorem dX4_event_95 : decode cX4_event 95 = .ok (.lload 4, 2) := by decide +kernel
theorem dX4_event_97 : decode cX4_event 97 = .ok (.iload 6, 2) := by decide +kernel
theorem dX4_event_99 : decode cX4_event 99 = .ok (.invokespecial 102, 3) := by decide +kernel
theorem dX4_event_102 : decode cX4_event 102 = .ok (.astore 8, 2) := by decide +kernel
theorem dX4_event_104 : decode cX4_event 104 = .ok (.aload 7, 2) := by decide +kernel
theorem dX4_event_106 : decode cX4_event 106 = .ok (.getfield 93, 3) := by decide +kernel
theorem dX4_event_109 : decode cX4_event 109 = .ok (.iload_n 2, 1) := by decide +kernel
theorem dX4_event_110 : decode cX4_event 110 = .ok (.aload 8, 2) := by decide +kernel
theorem dX4_event_112 : decode cX4_event 112 = .ok (.aastore, 1) := by decide +kernel
theorem dX4_event_113 : decode cX4_event 113 = .ok (.aload_n 0, 1) := by decide +kernel
theorem dX4_event_114 : decode cX4_event 114 = .ok (.aload 7, 2) := by decide +kernel
theorem dX4_event_116 : decode cX4_event 116 = .ok (.invokevirtual 78, 3) := by decide +kernel
theorem dX4_event_119 : decode cX4_event 119 = .ok (.ifCond .eq 21, 3) := by decide +kernel
theorem dX4_event_122 : decode cX4_event 122 = .ok (.aload 7, 2) := by decide +kernel
theorem dX4_event_124 : decode cX4_event 124 = .ok (.getfield 93, 3) := by decide +kernel
theorem dX4_event_127 : decode cX4_event 127 = .ok (.iload_n 2, 1) := by decide +kernel
theorem dX4_event_128 : decode cX4_event 128 = .ok (.aconst_null, 1) := by decide +kernel
theorem dX4_event_129 : decode cX4_event 129 = .ok (.aastore, 1) := by decide +kernel
theorem dX4_event_130 : decode cX4_event 130 = .ok (.new 58, 3) := by decide +kernel
theorem dX4_event_133 : decode cX4_event 133 = .ok (.dup, 1) := by decide +kernel
theorem dX4_event_134 : decode cX4_event 134 = .ok (.ldc 105, 2) := by decide +kernel
theorem dX4_event_136 : decode cX4_event 136 = .ok (.invokespecial 62, 3) := by decide +kernel
theorem dX4_event_139 : decode cX4_event 139 = .ok (.athrow, 1) := by decide +kernel
theorem dX4_event_140 : decode cX4_event 140 = .ok (.aload 7, 2) := by decide +kernel
theorem dX4_event_142 : decode cX4_event 142 = .ok (.dup, 1) := by decide +kernel
theorem dX4_event_143 : decode cX4_event 143 = .ok (.getfield 96, 3) := by decide +kernel
theorem dX4_event_146 : decode cX4_event 146 = .ok (.iconst 1, 1) := by decide +kernel
theorem dX4_event_147 : decode cX4_event 147 = .ok (.iadd, 1) := by decide +kernel
theorem dX4_event_148 : decode cX4_event 148 = .ok (.putfield 96, 3) := by decide +kernel
theorem dX4_event_151 : decode cX4_event 151 = .ok (.aload_n 0, 1) := by decide +kernel
theorem dX4_event_152 : decode cX4_event 152 = .ok (.getfield 17, 3) := by decide +kernel
theorem dX4_event_155 : decode cX4_event 155 = .ok (.aload_n 0, 1) := by decide +kernel
theorem dX4_event_156 : decode cX4_event 156 = .ok (.getfield 99, 3) := by decide +kernel
theorem dX4_event_159 : decode cX4_event 159 = .ok (.aload 8, 2) := by decide +kernel
theorem dX4_event_161 : decode cX4_event 161 = .ok (.aastore, 1) := by decide +kernel
theorem dX4_event_162 : decode cX4_event 162 = .ok (.aload_n 0, 1) := by decide +kernel
theorem dX4_event_163 : decode cX4_event 163 = .ok (.dup, 1) := by decide +kernel
theorem dX4_event_164 : decode cX4_event 164 = .ok (.getfield 99, 3) := by decide +kernel
theorem dX4_event_167 : decode cX4_event 167 = .ok (.iconst 1, 1) := by decide +kernel
theorem dX4_event_168 : decode cX4_event 168 = .ok (.iadd, 1) := by decide +kernel
theorem dX4_event_169 : decode cX4_event 169 = .ok (.putfield 99, 3) := by decide +kernel
theorem dX4_event_172 : decode cX4_event 172 = .ok (.aload_n 0, 1) := by decide +kernel
theorem dX4_event_173 : decode cX4_event 173 = .ok (.getfield 99, 3) := by decide +kernel
theorem dX4_event_176 : decode cX4_event 176 = .ok (.iconst 1, 1) := by decide +kernel
theorem dX4_event_177 : decode cX4_event 177 = .ok (.isub, 1) := by decide +kernel
theorem dX4_event_178 : decode cX4_event 178 = .ok (.ireturn, 1) := by decide +kernel
set_option maxRecDepth 20000 in
theorem ggX4_strike_X4_eventOf : GoodIn wsX4_strike wsX4_eventOf := goodIn_r _ [10, 11, 5, 165, 166, 167, 168, 169, 170, 171] (by decide +kernel) (by decide +kernel)
set_option maxRecDepth 20000 in
theorem gX4_strike_X4_eventOf : GoodIn wsX4_strike (wsV RX4 107 RX4 yX4_eventOf wsX4_eventOf) := goodIn_app (goodIn_of _ (by decide +kernel)) ggX4_strike_X4_eventOf
set_option maxRecDepth 20000 in
theorem ggX4_strike_X4_partOf : GoodIn wsX4_strike wsX4_partOf := goodIn_r _ [15, 16, 17, 165, 166, 167, 168, 169, 170, 171] (by decide +kernel) (by decide +kernel)
set_option maxRecDepth 20000 in
theorem gX4_strike_X4_partOf : GoodIn wsX4_strike (wsV RX4 66 RX4 yX4_partOf wsX4_partOf) := goodIn_app (goodIn_of _ (by decide +kernel)) ggX4_strike_X4_partOf
set_option maxRecDepth 20000 in
theorem ggX4_strike_X4_hasBreach : GoodIn wsX4_strike wsX4_hasBreach := goodIn_r _ [21, 22, 23, 24, 25, 9, 26, 27, 28, 2, 29, 30, 31, 32, 33, 34, 35, 36, 37, 38, 39, 40, 41, 42, 43, 44, 45, 46, 47, 48, 49, 50, 51, 52, 53, 54, 55, 56, 57, 58, 59, 60, 61, 62, 63, 64, 65, 66, 67, 68, 69, 70, 71, 72, 73, 74, 75, 76, 77, 78, 79, 80, 81, 82, 83, 84, 85, 86, 87, 88, 89, 90, 91, 92, 93, 94, 95, 96, 97, 98, 99, 100, 101, 102, 103, 104, 105, 106, 107, 108, 109, 110, 111, 112, 113, 114, 115, 116, 117, 118, 119, 120, 121, 122, 123, 124, 125, 126, 127, 128, 129, 130, 131, 132, 133, 134, 135, 136, 137, 138, 139, 140, 141, 142, 143, 144, 145, 146, 147, 148, 165, 166, 167, 168, 169, 170, 171, 172, 173, 174, 175, 176, 177, 178, 179, 180, 181, 182, 183, 184, 185, 186, 154, 155, 156, 157, 158, 159, 160, 161, 162, 163, 164, 149, 150, 151, 152, 153, 187, 188, 189, 190, 191, 192] (by decide +kernel) (by decide +kernel)
set_option maxRecDepth 20000 in
theorem gX4_strike_X4_hasBreach : GoodIn wsX4_strike (wsV RX4 78 RX4 yX4_hasBreach wsX4_hasBreach) := goodIn_app (goodIn_of _ (by decide +kernel)) ggX4_strike_X4_hasBreach
theorem dX4_strike_0 : decode cX4_strike 0 = .ok (.aload_n 0, 1) := by decide +kernel
theorem dX4_strike_1 : decode cX4_strike 1 = .ok (.iload_n 1, 1) := by decide +kernel
theorem dX4_strike_2 : decode cX4_strike 2 = .ok (.invokevirtual 107, 3) := by decide +kernel
theorem dX4_strike_5 : decode cX4_strike 5 = .ok (.astore_n 2, 1) := by decide +kernel
theorem dX4_strike_6 : decode cX4_strike 6 = .ok (.aload_n 2, 1) := by decide +kernel
theorem dX4_strike_7 : decode cX4_strike 7 = .ok (.ifnonnull 5, 3) := by decide +kernel
theorem dX4_strike_10 : decode cX4_strike 10 = .ok (.iconst 0, 1) := by decide +kernel
theorem dX4_strike_11 : decode cX4_strike 11 = .ok (.ireturn, 1) := by decide +kernel
theorem dX4_strike_12 : decode cX4_strike 12 = .ok (.aload_n 0, 1) := by decide +kernel
theorem dX4_strike_13 : decode cX4_strike 13 = .ok (.aload_n 2, 1) := by decide +kernel
theorem dX4_strike_14 : decode cX4_strike 14 = .ok (.getfield 111, 3) := by decide +kernel
theorem dX4_strike_17 : decode cX4_strike 17 = .ok (.invokevirtual 66, 3) := by decide +kernel
theorem dX4_strike_20 : decode cX4_strike 20 = .ok (.astore_n 3, 1) := by decide +kernel
theorem dX4_strike_21 : decode cX4_strike 21 = .ok (.aload_n 3, 1) := by decide +kernel
theorem dX4_strike_22 : decode cX4_strike 22 = .ok (.ifnonnull 5, 3) := by decide +kernel
theorem dX4_strike_25 : decode cX4_strike 25 = .ok (.iconst 0, 1) := by decide +kernel
theorem dX4_strike_26 : decode cX4_strike 26 = .ok (.ireturn, 1) := by decide +kernel
theorem dX4_strike_27 : decode cX4_strike 27 = .ok (.aload_n 3, 1) := by decide +kernel
theorem dX4_strike_28 : decode cX4_strike 28 = .ok (.getfield 93, 3) := by decide +kernel
theorem dX4_strike_31 : decode cX4_strike 31 = .ok (.aload_n 2, 1) := by decide +kernel
theorem dX4_strike_32 : decode cX4_strike 32 = .ok (.getfield 114, 3) := by decide +kernel
theorem dX4_strike_35 : decode cX4_strike 35 = .ok (.aconst_null, 1) := by decide +kernel
theorem dX4_strike_36 : decode cX4_strike 36 = .ok (.aastore, 1) := by decide +kernel
theorem dX4_strike_37 : decode cX4_strike 37 = .ok (.aload_n 0, 1) := by decide +kernel
theorem dX4_strike_38 : decode cX4_strike 38 = .ok (.aload_n 3, 1) := by decide +kernel
theorem dX4_strike_39 : decode cX4_strike 39 = .ok (.invokevirtual 78, 3) := by decide +kernel
theorem dX4_strike_42 : decode cX4_strike 42 = .ok (.ifCond .eq 15, 3) := by decide +kernel
theorem dX4_strike_45 : decode cX4_strike 45 = .ok (.aload_n 3, 1) := by decide +kernel
theorem dX4_strike_46 : decode cX4_strike 46 = .ok (.getfield 93, 3) := by decide +kernel
theorem dX4_strike_49 : decode cX4_strike 49 = .ok (.aload_n 2, 1) := by decide +kernel
theorem dX4_strike_50 : decode cX4_strike 50 = .ok (.getfield 114, 3) := by decide +kernel
theorem dX4_strike_53 : decode cX4_strike 53 = .ok (.aload_n 2, 1) := by decide +kernel
theorem dX4_strike_54 : decode cX4_strike 54 = .ok (.aastore, 1) := by decide +kernel
theorem dX4_strike_55 : decode cX4_strike 55 = .ok (.iconst 0, 1) := by decide +kernel
theorem dX4_strike_56 : decode cX4_strike 56 = .ok (.ireturn, 1) := by decide +kernel
theorem dX4_strike_57 : decode cX4_strike 57 = .ok (.aload_n 3, 1) := by decide +kernel
theorem dX4_strike_58 : decode cX4_strike 58 = .ok (.dup, 1) := by decide +kernel
theorem dX4_strike_59 : decode cX4_strike 59 = .ok (.getfield 96, 3) := by decide +kernel
theorem dX4_strike_62 : decode cX4_strike 62 = .ok (.iconst 1, 1) := by decide +kernel
theorem dX4_strike_63 : decode cX4_strike 63 = .ok (.isub, 1) := by decide +kernel
theorem dX4_strike_64 : decode cX4_strike 64 = .ok (.putfield 96, 3) := by decide +kernel
theorem dX4_strike_67 : decode cX4_strike 67 = .ok (.aload_n 0, 1) := by decide +kernel
theorem dX4_strike_68 : decode cX4_strike 68 = .ok (.getfield 17, 3) := by decide +kernel
theorem dX4_strike_71 : decode cX4_strike 71 = .ok (.iload_n 1, 1) := by decide +kernel
theorem dX4_strike_72 : decode cX4_strike 72 = .ok (.aconst_null, 1) := by decide +kernel
theorem dX4_strike_73 : decode cX4_strike 73 = .ok (.aastore, 1) := by decide +kernel
theorem dX4_strike_74 : decode cX4_strike 74 = .ok (.iconst 1, 1) := by decide +kernel
theorem dX4_strike_75 : decode cX4_strike 75 = .ok (.ireturn, 1) := by decide +kernel
set_option maxRecDepth 20000 in
theorem ggX4_told_X4_eventOf : GoodIn wsX4_told wsX4_eventOf := goodIn_r _ [9, 10, 11, 17, 18, 19, 20, 21, 22, 23] (by decide +kernel) (by decide +kernel)
set_option maxRecDepth 20000 in
theorem gX4_told_X4_eventOf : GoodIn wsX4_told (wsV RX4 107 RX4 yX4_eventOf wsX4_eventOf) := goodIn_app (goodIn_of _ (by decide +kernel)) ggX4_told_X4_eventOf
theorem dX4_told_0 : decode cX4_told 0 = .ok (.aload_n 0, 1) := by decide +kernel
theorem dX4_told_1 : decode cX4_told 1 = .ok (.iload_n 1, 1) := by decide +kernel
theorem dX4_told_2 : decode cX4_told 2 = .ok (.invokevirtual 107, 3) := by decide +kernel
theorem dX4_told_5 : decode cX4_told 5 = .ok (.astore_n 3, 1) := by decide +kernel
theorem dX4_told_6 : decode cX4_told 6 = .ok (.aload_n 3, 1) := by decide +kernel
theorem dX4_told_7 : decode cX4_told 7 = .ok (.ifnonnull 5, 3) := by decide +kernel
theorem dX4_told_10 : decode cX4_told 10 = .ok (.iconst (-1), 1) := by decide +kernel
theorem dX4_told_11 : decode cX4_told 11 = .ok (.ireturn, 1) := by decide +kernel
theorem dX4_told_12 : decode cX4_told 12 = .ok (.iload_n 2, 1) := by decide +kernel
theorem dX4_told_13 : decode cX4_told 13 = .ok (.tableswitch 51 0 3 #[31, 36, 41, 46], 31) := by decide +kernel
theorem dX4_told_44 : decode cX4_told 44 = .ok (.aload_n 3, 1) := by decide +kernel
theorem dX4_told_45 : decode cX4_told 45 = .ok (.getfield 111, 3) := by decide +kernel
theorem dX4_told_48 : decode cX4_told 48 = .ok (.ireturn, 1) := by decide +kernel
theorem dX4_told_49 : decode cX4_told 49 = .ok (.aload_n 3, 1) := by decide +kernel
theorem dX4_told_50 : decode cX4_told 50 = .ok (.getfield 114, 3) := by decide +kernel
theorem dX4_told_53 : decode cX4_told 53 = .ok (.ireturn, 1) := by decide +kernel
theorem dX4_told_54 : decode cX4_told 54 = .ok (.aload_n 3, 1) := by decide +kernel
theorem dX4_told_55 : decode cX4_told 55 = .ok (.getfield 117, 3) := by decide +kernel
theorem dX4_told_58 : decode cX4_told 58 = .ok (.ireturn, 1) := by decide +kernel
theorem dX4_told_59 : decode cX4_told 59 = .ok (.aload_n 3, 1) := by decide +kernel
theorem dX4_told_60 : decode cX4_told 60 = .ok (.getfield 120, 3) := by decide +kernel
theorem dX4_told_63 : decode cX4_told 63 = .ok (.ireturn, 1) := by decide +kernel
theorem dX4_told_64 : decode cX4_told 64 = .ok (.iconst (-1), 1) := by decide +kernel
theorem dX4_told_65 : decode cX4_told 65 = .ok (.ireturn, 1) := by decide +kernel
set_option maxRecDepth 20000 in
theorem ggX4_value_X4_partOf : GoodIn wsX4_value wsX4_partOf := goodIn_r _ [10, 11, 12, 157, 158, 159, 160, 161, 162, 163] (by decide +kernel) (by decide +kernel)
set_option maxRecDepth 20000 in
theorem gX4_value_X4_partOf : GoodIn wsX4_value (wsV RX4 66 RX4 yX4_partOf wsX4_partOf) := goodIn_app (goodIn_of _ (by decide +kernel)) ggX4_value_X4_partOf
set_option maxRecDepth 20000 in
theorem ggX4_value_X4_isMonth : GoodIn wsX4_value wsX4_isMonth := goodIn_r _ [15] (by decide +kernel) (by decide +kernel)
set_option maxRecDepth 20000 in
theorem gX4_value_X4_isMonth : GoodIn wsX4_value (va_wsS RX4 37 yX4_isMonth wsX4_isMonth) := goodIn_app (goodIn_of _ (by decide +kernel)) ggX4_value_X4_isMonth
set_option maxRecDepth 20000 in
theorem ggX4_value_X4_isWithin : GoodIn wsX4_value wsX4_isWithin := goodIn_r _ [18] (by decide +kernel) (by decide +kernel)
set_option maxRecDepth 20000 in
theorem gX4_value_X4_isWithin : GoodIn wsX4_value (va_wsS RX4 33 yX4_isWithin wsX4_isWithin) := goodIn_app (goodIn_of _ (by decide +kernel)) ggX4_value_X4_isWithin
set_option maxRecDepth 20000 in
theorem ggX4_value_X4_follow : GoodIn wsX4_value wsX4_follow := goodIn_r _ [22, 5, 23, 4, 24, 25, 26, 27, 28, 29, 30, 31, 32, 33, 34, 35, 36, 37, 38, 39, 40, 41, 42, 43, 44, 45, 46, 47, 48, 49, 50, 51, 52, 53, 54, 55, 56, 57, 58, 59, 60, 61, 62, 63, 64, 65, 66, 67, 68, 69, 70, 71, 72, 73, 74, 75, 76, 77, 78, 79, 80, 81, 82, 83, 84, 85, 86, 87, 88, 89, 90, 91, 92, 93, 94, 95, 96, 97, 98, 99, 100, 101, 102, 103, 104, 105, 106, 107, 108, 109, 110, 111, 112, 113, 114, 115, 116, 117, 118, 119, 120, 121, 9, 122, 123, 124, 125, 126, 127, 128, 129, 130, 131, 132, 133, 134, 135, 136, 137, 138, 139, 140, 141, 142, 143, 144, 157, 158, 159, 160, 161, 162, 163, 146, 147, 148, 149, 150, 151, 152, 153, 154, 155, 156, 179, 180, 181, 182, 183, 164, 165, 166, 167, 168, 169, 170, 171, 172, 173, 174, 175, 176, 177, 178, 184, 185, 186, 187, 188, 189] (by decide +kernel) (by decide +kernel)
set_option maxRecDepth 20000 in
theorem gX4_value_X4_follow : GoodIn wsX4_value (wsV RX4 127 RX4 yX4_follow wsX4_follow) := goodIn_app (goodIn_of _ (by decide +kernel)) ggX4_value_X4_follow
set_option maxRecDepth 20000 in
theorem ggX4_value_X0_book : GoodIn wsX4_value wsX0_book := goodIn_r _ [64, 38, 39, 164, 165, 166, 167, 168, 169, 170, 171, 172, 173, 174, 175, 176, 177, 178] (by decide +kernel) (by decide +kernel)
set_option maxRecDepth 20000 in
theorem gX4_value_X0_book : GoodIn wsX4_value (wsV RX4 138 RX0 yX0_book wsX0_book) := goodIn_app (goodIn_of _ (by decide +kernel)) ggX4_value_X0_book
theorem dX4_value_0 : decode cX4_value 0 = .ok (.aload_n 0, 1) := by decide +kernel
theorem dX4_value_1 : decode cX4_value 1 = .ok (.iload_n 1, 1) := by decide +kernel
theorem dX4_value_2 : decode cX4_value 2 = .ok (.invokevirtual 66, 3) := by decide +kernel
theorem dX4_value_5 : decode cX4_value 5 = .ok (.astore 4, 2) := by decide +kernel
theorem dX4_value_7 : decode cX4_value 7 = .ok (.aload 4, 2) := by decide +kernel
theorem dX4_value_9 : decode cX4_value 9 = .ok (.ifnull 22, 3) := by decide +kernel
theorem dX4_value_12 : decode cX4_value 12 = .ok (.iload_n 2, 1) := by decide +kernel
theorem dX4_value_13 : decode cX4_value 13 = .ok (.invokestatic 37, 3) := by decide +kernel
theorem dX4_value_16 : decode cX4_value 16 = .ok (.ifCond .eq 15, 3) := by decide +kernel
theorem dX4_value_19 : decode cX4_value 19 = .ok (.iload_n 3, 1) := by decide +kernel
theorem dX4_value_20 : decode cX4_value 20 = .ok (.i2l, 1) := by decide +kernel
theorem dX4_value_21 : decode cX4_value 21 = .ok (.lconst 0, 1) := by decide +kernel
theorem dX4_value_22 : decode cX4_value 22 = .ok (.ldc2_w 123, 3) := by decide +kernel
theorem dX4_value_25 : decode cX4_value 25 = .ok (.invokestatic 33, 3) := by decide +kernel
theorem dX4_value_28 : decode cX4_value 28 = .ok (.ifCond .ne 13, 3) := by decide +kernel
theorem dX4_value_31 : decode cX4_value 31 = .ok (.new 47, 3) := by decide +kernel
theorem dX4_value_34 : decode cX4_value 34 = .ok (.dup, 1) := by decide +kernel
theorem dX4_value_35 : decode cX4_value 35 = .ok (.ldc 125, 2) := by decide +kernel
theorem dX4_value_37 : decode cX4_value 37 = .ok (.invokespecial 51, 3) := by decide +kernel
theorem dX4_value_40 : decode cX4_value 40 = .ok (.athrow, 1) := by decide +kernel
theorem dX4_value_41 : decode cX4_value 41 = .ok (.iload_n 2, 1) := by decide +kernel
theorem dX4_value_42 : decode cX4_value 42 = .ok (.aload 4, 2) := by decide +kernel
theorem dX4_value_44 : decode cX4_value 44 = .ok (.getfield 84, 3) := by decide +kernel
theorem dX4_value_47 : decode cX4_value 47 = .ok (.if_icmp .ge 5, 3) := by decide +kernel
theorem dX4_value_50 : decode cX4_value 50 = .ok (.lconst 0, 1) := by decide +kernel
theorem dX4_value_51 : decode cX4_value 51 = .ok (.lreturn, 1) := by decide +kernel
theorem dX4_value_52 : decode cX4_value 52 = .ok (.aload_n 0, 1) := by decide +kernel
theorem dX4_value_53 : decode cX4_value 53 = .ok (.aload 4, 2) := by decide +kernel
theorem dX4_value_55 : decode cX4_value 55 = .ok (.iload_n 2, 1) := by decide +kernel
theorem dX4_value_56 : decode cX4_value 56 = .ok (.invokevirtual 127, 3) := by decide +kernel
theorem dX4_value_59 : decode cX4_value 59 = .ok (.iload_n 3, 1) := by decide +kernel
theorem dX4_value_60 : decode cX4_value 60 = .ok (.tableswitch 88 0 5 #[40, 48, 56, 64, 72, 80], 40) := by decide +kernel
theorem dX4_value_100 : decode cX4_value 100 = .ok (.aload_n 0, 1) := by decide +kernel
theorem dX4_value_101 : decode cX4_value 101 = .ok (.getfield 24, 3) := by decide +kernel
theorem dX4_value_104 : decode cX4_value 104 = .ok (.getfield 131, 3) := by decide +kernel
theorem dX4_value_107 : decode cX4_value 107 = .ok (.lreturn, 1) := by decide +kernel
theorem dX4_value_108 : decode cX4_value 108 = .ok (.aload_n 0, 1) := by decide +kernel
theorem dX4_value_109 : decode cX4_value 109 = .ok (.getfield 24, 3) := by decide +kernel
theorem dX4_value_112 : decode cX4_value 112 = .ok (.getfield 135, 3) := by decide +kernel
theorem dX4_value_115 : decode cX4_value 115 = .ok (.lreturn, 1) := by decide +kernel
theorem dX4_value_116 : decode cX4_value 116 = .ok (.aload_n 0, 1) := by decide +kernel
theorem dX4_value_117 : decode cX4_value 117 = .ok (.getfield 24, 3) := by decide +kernel
theorem dX4_value_120 : decode cX4_value 120 = .ok (.invokevirtual 138, 3) := by decide +kernel
theorem dX4_value_123 : decode cX4_value 123 = .ok (.lreturn, 1) := by decide +kernel
theorem dX4_value_124 : decode cX4_value 124 = .ok (.aload_n 0, 1) := by decide +kernel
theorem dX4_value_125 : decode cX4_value 125 = .ok (.getfield 24, 3) := by decide +kernel
theorem dX4_value_128 : decode cX4_value 128 = .ok (.getfield 142, 3) := by decide +kernel
theorem dX4_value_131 : decode cX4_value 131 = .ok (.lreturn, 1) := by decide +kernel
theorem dX4_value_132 : decode cX4_value 132 = .ok (.aload_n 0, 1) := by decide +kernel
theorem dX4_value_133 : decode cX4_value 133 = .ok (.getfield 24, 3) := by decide +kernel
theorem dX4_value_136 : decode cX4_value 136 = .ok (.getfield 145, 3) := by decide +kernel
theorem dX4_value_139 : decode cX4_value 139 = .ok (.lreturn, 1) := by decide +kernel
theorem dX4_value_140 : decode cX4_value 140 = .ok (.aload_n 0, 1) := by decide +kernel
theorem dX4_value_141 : decode cX4_value 141 = .ok (.getfield 24, 3) := by decide +kernel
theorem dX4_value_144 : decode cX4_value 144 = .ok (.getfield 148, 3) := by decide +kernel
theorem dX4_value_147 : decode cX4_value 147 = .ok (.lreturn, 1) := by decide +kernel
theorem dX4_value_148 : decode cX4_value 148 = .ok (.aload_n 0, 1) := by decide +kernel
theorem dX4_value_149 : decode cX4_value 149 = .ok (.getfield 24, 3) := by decide +kernel
theorem dX4_value_152 : decode cX4_value 152 = .ok (.getfield 151, 3) := by decide +kernel
theorem dX4_value_155 : decode cX4_value 155 = .ok (.i2l, 1) := by decide +kernel
theorem dX4_value_156 : decode cX4_value 156 = .ok (.lreturn, 1) := by decide +kernel
set_option maxRecDepth 20000 in
theorem ggX4_charge_X4_partOf : GoodIn wsX4_charge wsX4_partOf := goodIn_r _ [9, 10, 11, 152, 153, 154, 155, 156, 157, 158] (by decide +kernel) (by decide +kernel)
set_option maxRecDepth 20000 in
theorem gX4_charge_X4_partOf : GoodIn wsX4_charge (wsV RX4 66 RX4 yX4_partOf wsX4_partOf) := goodIn_app (goodIn_of _ (by decide +kernel)) ggX4_charge_X4_partOf
set_option maxRecDepth 20000 in
theorem ggX4_charge_X4_isMonth : GoodIn wsX4_charge wsX4_isMonth := goodIn_r _ [14] (by decide +kernel) (by decide +kernel)
set_option maxRecDepth 20000 in
theorem gX4_charge_X4_isMonth : GoodIn wsX4_charge (va_wsS RX4 37 yX4_isMonth wsX4_isMonth) := goodIn_app (goodIn_of _ (by decide +kernel)) ggX4_charge_X4_isMonth
set_option maxRecDepth 20000 in
theorem ggX4_charge_X4_follow : GoodIn wsX4_charge wsX4_follow := goodIn_r _ [18, 4, 19, 3, 20, 21, 22, 23, 24, 25, 26, 27, 28, 29, 30, 31, 32, 33, 34, 35, 36, 37, 38, 39, 40, 41, 42, 43, 44, 45, 46, 47, 48, 49, 50, 51, 52, 53, 54, 55, 56, 57, 58, 59, 60, 61, 62, 63, 64, 65, 66, 67, 68, 69, 70, 71, 72, 73, 74, 75, 76, 77, 78, 79, 80, 81, 82, 83, 84, 85, 86, 87, 88, 89, 90, 91, 92, 93, 94, 95, 96, 97, 98, 99, 100, 101, 102, 103, 104, 105, 106, 107, 108, 109, 110, 111, 112, 113, 114, 115, 116, 117, 8, 118, 119, 120, 121, 122, 123, 124, 125, 126, 127, 128, 129, 130, 131, 132, 133, 134, 135, 136, 137, 138, 139, 140, 152, 153, 154, 155, 156, 157, 158, 141, 142, 143, 144, 145, 146, 147, 148, 149, 150, 151, 174, 175, 176, 177, 178, 159, 160, 161, 162, 163, 164, 165, 166, 167, 168, 169, 170, 171, 172, 173, 179, 180, 181, 182, 183, 184] (by decide +kernel) (by decide +kernel)
set_option maxRecDepth 20000 in
theorem gX4_charge_X4_follow : GoodIn wsX4_charge (wsV RX4 127 RX4 yX4_follow wsX4_follow) := goodIn_app (goodIn_of _ (by decide +kernel)) ggX4_charge_X4_follow
theorem dX4_charge_0 : decode cX4_charge 0 = .ok (.aload_n 0, 1) := by decide +kernel
theorem dX4_charge_1 : decode cX4_charge 1 = .ok (.iload_n 1, 1) := by decide +kernel
theorem dX4_charge_2 : decode cX4_charge 2 = .ok (.invokevirtual 66, 3) := by decide +kernel
theorem dX4_charge_5 : decode cX4_charge 5 = .ok (.astore_n 3, 1) := by decide +kernel
theorem dX4_charge_6 : decode cX4_charge 6 = .ok (.aload_n 3, 1) := by decide +kernel
theorem dX4_charge_7 : decode cX4_charge 7 = .ok (.ifnull 10, 3) := by decide +kernel
theorem dX4_charge_10 : decode cX4_charge 10 = .ok (.iload_n 2, 1) := by decide +kernel
theorem dX4_charge_11 : decode cX4_charge 11 = .ok (.invokestatic 37, 3) := by decide +kernel
theorem dX4_charge_14 : decode cX4_charge 14 = .ok (.ifCond .ne 13, 3) := by decide +kernel
theorem dX4_charge_17 : decode cX4_charge 17 = .ok (.new 47, 3) := by decide +kernel
theorem dX4_charge_20 : decode cX4_charge 20 = .ok (.dup, 1) := by decide +kernel
theorem dX4_charge_21 : decode cX4_charge 21 = .ok (.ldc 154, 2) := by decide +kernel
theorem dX4_charge_23 : decode cX4_charge 23 = .ok (.invokespecial 51, 3) := by decide +kernel
theorem dX4_charge_26 : decode cX4_charge 26 = .ok (.athrow, 1) := by decide +kernel
theorem dX4_charge_27 : decode cX4_charge 27 = .ok (.iload_n 2, 1) := by decide +kernel
theorem dX4_charge_28 : decode cX4_charge 28 = .ok (.aload_n 3, 1) := by decide +kernel
theorem dX4_charge_29 : decode cX4_charge 29 = .ok (.getfield 84, 3) := by decide +kernel
theorem dX4_charge_32 : decode cX4_charge 32 = .ok (.if_icmp .ge 5, 3) := by decide +kernel
theorem dX4_charge_35 : decode cX4_charge 35 = .ok (.lconst 0, 1) := by decide +kernel
theorem dX4_charge_36 : decode cX4_charge 36 = .ok (.lreturn, 1) := by decide +kernel
theorem dX4_charge_37 : decode cX4_charge 37 = .ok (.aload_n 0, 1) := by decide +kernel
theorem dX4_charge_38 : decode cX4_charge 38 = .ok (.aload_n 3, 1) := by decide +kernel
theorem dX4_charge_39 : decode cX4_charge 39 = .ok (.iload_n 2, 1) := by decide +kernel
theorem dX4_charge_40 : decode cX4_charge 40 = .ok (.invokevirtual 127, 3) := by decide +kernel
theorem dX4_charge_43 : decode cX4_charge 43 = .ok (.aload_n 0, 1) := by decide +kernel
theorem dX4_charge_44 : decode cX4_charge 44 = .ok (.getfield 24, 3) := by decide +kernel
theorem dX4_charge_47 : decode cX4_charge 47 = .ok (.getfield 156, 3) := by decide +kernel
theorem dX4_charge_50 : decode cX4_charge 50 = .ok (.lreturn, 1) := by decide +kernel
set_option maxRecDepth 20000 in
theorem ggX4_without_X4_partOf : GoodIn wsX4_without wsX4_partOf := goodIn_r _ [9, 10, 11, 152, 153, 154, 155, 156, 157, 158] (by decide +kernel) (by decide +kernel)
set_option maxRecDepth 20000 in
theorem gX4_without_X4_partOf : GoodIn wsX4_without (wsV RX4 66 RX4 yX4_partOf wsX4_partOf) := goodIn_app (goodIn_of _ (by decide +kernel)) ggX4_without_X4_partOf
set_option maxRecDepth 20000 in
theorem ggX4_without_X4_isMonth : GoodIn wsX4_without wsX4_isMonth := goodIn_r _ [14] (by decide +kernel) (by decide +kernel)
set_option maxRecDepth 20000 in
theorem gX4_without_X4_isMonth : GoodIn wsX4_without (va_wsS RX4 37 yX4_isMonth wsX4_isMonth) := goodIn_app (goodIn_of _ (by decide +kernel)) ggX4_without_X4_isMonth
set_option maxRecDepth 20000 in
theorem ggX4_without_X4_follow : GoodIn wsX4_without wsX4_follow := goodIn_r _ [18, 19, 4, 3, 20, 21, 22, 23, 24, 25, 26, 27, 28, 29, 30, 31, 32, 33, 34, 35, 36, 37, 38, 39, 40, 41, 42, 43, 44, 45, 46, 47, 48, 49, 50, 51, 52, 53, 54, 55, 56, 57, 58, 59, 60, 61, 62, 63, 64, 65, 66, 67, 68, 69, 70, 71, 72, 73, 74, 75, 76, 77, 78, 79, 80, 81, 82, 83, 84, 85, 86, 87, 88, 89, 90, 91, 92, 93, 94, 95, 96, 97, 98, 99, 100, 101, 102, 103, 104, 105, 106, 107, 108, 109, 110, 111, 112, 113, 114, 115, 116, 117, 8, 118, 119, 120, 121, 122, 123, 124, 125, 126, 127, 128, 129, 130, 131, 132, 133, 134, 135, 136, 137, 138, 139, 140, 152, 153, 154, 155, 156, 157, 158, 141, 142, 143, 144, 145, 146, 147, 148, 149, 150, 151, 159, 160, 161, 162, 163, 164, 165, 166, 167, 168, 169, 170, 171, 172, 173, 174, 175, 176, 177, 178, 179, 180, 181, 182, 183, 184] (by decide +kernel) (by decide +kernel)
set_option maxRecDepth 20000 in
theorem gX4_without_X4_follow : GoodIn wsX4_without (wsV RX4 127 RX4 yX4_follow wsX4_follow) := goodIn_app (goodIn_of _ (by decide +kernel)) ggX4_without_X4_follow
set_option maxRecDepth 20000 in
theorem ggX4_without_X0_bookOrNone : GoodIn wsX4_without wsX0_bookOrNone := goodIn_r _ [75, 44, 76, 57, 58, 59, 27, 60, 34, 35, 164, 165, 166, 167, 168, 169, 170, 171, 172, 173, 174, 175, 176, 177, 178] (by decide +kernel) (by decide +kernel)
set_option maxRecDepth 20000 in
theorem gX4_without_X0_bookOrNone : GoodIn wsX4_without (wsV RX4 159 RX0 yX0_bookOrNone wsX0_bookOrNone) := goodIn_app (goodIn_of _ (by decide +kernel)) ggX4_without_X0_bookOrNone
theorem dX4_without_0 : decode cX4_without 0 = .ok (.aload_n 0, 1) := by decide +kernel
theorem dX4_without_1 : decode cX4_without 1 = .ok (.iload_n 1, 1) := by decide +kernel
theorem dX4_without_2 : decode cX4_without 2 = .ok (.invokevirtual 66, 3) := by decide +kernel
theorem dX4_without_5 : decode cX4_without 5 = .ok (.astore_n 3, 1) := by decide +kernel
theorem dX4_without_6 : decode cX4_without 6 = .ok (.aload_n 3, 1) := by decide +kernel
theorem dX4_without_7 : decode cX4_without 7 = .ok (.ifnull 10, 3) := by decide +kernel
theorem dX4_without_10 : decode cX4_without 10 = .ok (.iload_n 2, 1) := by decide +kernel
theorem dX4_without_11 : decode cX4_without 11 = .ok (.invokestatic 37, 3) := by decide +kernel
theorem dX4_without_14 : decode cX4_without 14 = .ok (.ifCond .ne 13, 3) := by decide +kernel
theorem dX4_without_17 : decode cX4_without 17 = .ok (.new 47, 3) := by decide +kernel
theorem dX4_without_20 : decode cX4_without 20 = .ok (.dup, 1) := by decide +kernel
theorem dX4_without_21 : decode cX4_without 21 = .ok (.ldc 154, 2) := by decide +kernel
theorem dX4_without_23 : decode cX4_without 23 = .ok (.invokespecial 51, 3) := by decide +kernel
theorem dX4_without_26 : decode cX4_without 26 = .ok (.athrow, 1) := by decide +kernel
theorem dX4_without_27 : decode cX4_without 27 = .ok (.iload_n 2, 1) := by decide +kernel
theorem dX4_without_28 : decode cX4_without 28 = .ok (.aload_n 3, 1) := by decide +kernel
theorem dX4_without_29 : decode cX4_without 29 = .ok (.getfield 84, 3) := by decide +kernel
theorem dX4_without_32 : decode cX4_without 32 = .ok (.if_icmp .ge 5, 3) := by decide +kernel
theorem dX4_without_35 : decode cX4_without 35 = .ok (.lconst 0, 1) := by decide +kernel
theorem dX4_without_36 : decode cX4_without 36 = .ok (.lreturn, 1) := by decide +kernel
theorem dX4_without_37 : decode cX4_without 37 = .ok (.aload_n 0, 1) := by decide +kernel
theorem dX4_without_38 : decode cX4_without 38 = .ok (.aload_n 3, 1) := by decide +kernel
theorem dX4_without_39 : decode cX4_without 39 = .ok (.iload_n 2, 1) := by decide +kernel
theorem dX4_without_40 : decode cX4_without 40 = .ok (.invokevirtual 127, 3) := by decide +kernel
theorem dX4_without_43 : decode cX4_without 43 = .ok (.aload_n 0, 1) := by decide +kernel
theorem dX4_without_44 : decode cX4_without 44 = .ok (.getfield 28, 3) := by decide +kernel
theorem dX4_without_47 : decode cX4_without 47 = .ok (.invokevirtual 159, 3) := by decide +kernel
theorem dX4_without_50 : decode cX4_without 50 = .ok (.lreturn, 1) := by decide +kernel
set_option maxRecDepth 20000 in
theorem ggX4_post_X4_partOf : GoodIn wsX4_post wsX4_partOf := goodIn_r _ [13, 4, 14, 141, 142, 143, 144, 145, 146, 147] (by decide +kernel) (by decide +kernel)
set_option maxRecDepth 20000 in
theorem gX4_post_X4_partOf : GoodIn wsX4_post (wsV RX4 66 RX4 yX4_partOf wsX4_partOf) := goodIn_app (goodIn_of _ (by decide +kernel)) ggX4_post_X4_partOf
set_option maxRecDepth 20000 in
theorem ggX4_post_X4_follow : GoodIn wsX4_post wsX4_follow := goodIn_r _ [18, 7, 19, 5, 20, 21, 22, 23, 24, 25, 26, 27, 28, 29, 30, 31, 32, 33, 34, 35, 36, 37, 38, 39, 40, 41, 42, 43, 44, 45, 46, 47, 48, 49, 50, 51, 52, 53, 54, 55, 56, 57, 58, 59, 60, 61, 62, 63, 64, 65, 66, 67, 68, 69, 70, 71, 72, 73, 74, 75, 76, 77, 78, 79, 80, 81, 82, 83, 84, 85, 86, 87, 88, 89, 90, 91, 92, 93, 94, 95, 96, 97, 98, 99, 100, 101, 102, 103, 104, 105, 106, 107, 108, 109, 110, 111, 112, 113, 114, 115, 116, 117, 12, 118, 119, 120, 121, 122, 123, 124, 125, 126, 127, 128, 129, 130, 131, 132, 133, 134, 135, 136, 137, 138, 139, 140, 141, 142, 143, 144, 145, 146, 147, 148, 149, 150, 151, 152, 153, 154, 155, 156, 157, 158, 174, 175, 176, 177, 178, 159, 160, 161, 162, 163, 164, 165, 166, 167, 168, 169, 170, 171, 172, 173, 179, 180, 181, 182, 183, 184] (by decide +kernel) (by decide +kernel)
set_option maxRecDepth 20000 in
theorem gX4_post_X4_follow : GoodIn wsX4_post (wsV RX4 127 RX4 yX4_follow wsX4_follow) := goodIn_app (goodIn_of _ (by decide +kernel)) ggX4_post_X4_follow
theorem dX4_post_0 : decode cX4_post 0 = .ok (.aload_n 0, 1) := by decide +kernel
theorem dX4_post_1 : decode cX4_post 1 = .ok (.getfield 162, 3) := by decide +kernel
theorem dX4_post_4 : decode cX4_post 4 = .ok (.bipush 36, 2) := by decide +kernel
theorem dX4_post_6 : decode cX4_post 6 = .ok (.if_icmp .lt 13, 3) := by decide +kernel
theorem dX4_post_9 : decode cX4_post 9 = .ok (.new 58, 3) := by decide +kernel
theorem dX4_post_12 : decode cX4_post 12 = .ok (.dup, 1) := by decide +kernel
theorem dX4_post_13 : decode cX4_post 13 = .ok (.ldc 165, 2) := by decide +kernel
theorem dX4_post_15 : decode cX4_post 15 = .ok (.invokespecial 62, 3) := by decide +kernel
theorem dX4_post_18 : decode cX4_post 18 = .ok (.athrow, 1) := by decide +kernel
theorem dX4_post_19 : decode cX4_post 19 = .ok (.aload_n 0, 1) := by decide +kernel
theorem dX4_post_20 : decode cX4_post 20 = .ok (.getfield 162, 3) := by decide +kernel
theorem dX4_post_23 : decode cX4_post 23 = .ok (.istore_n 1, 1) := by decide +kernel
theorem dX4_post_24 : decode cX4_post 24 = .ok (.aload_n 0, 1) := by decide +kernel
theorem dX4_post_25 : decode cX4_post 25 = .ok (.dup, 1) := by decide +kernel
theorem dX4_post_26 : decode cX4_post 26 = .ok (.getfield 162, 3) := by decide +kernel
theorem dX4_post_29 : decode cX4_post 29 = .ok (.iconst 1, 1) := by decide +kernel
theorem dX4_post_30 : decode cX4_post 30 = .ok (.iadd, 1) := by decide +kernel
theorem dX4_post_31 : decode cX4_post 31 = .ok (.putfield 162, 3) := by decide +kernel
theorem dX4_post_34 : decode cX4_post 34 = .ok (.lconst 0, 1) := by decide +kernel
theorem dX4_post_35 : decode cX4_post 35 = .ok (.lstore_n 2, 1) := by decide +kernel
theorem dX4_post_36 : decode cX4_post 36 = .ok (.iconst 0, 1) := by decide +kernel
theorem dX4_post_37 : decode cX4_post 37 = .ok (.istore 4, 2) := by decide +kernel
theorem dX4_post_39 : decode cX4_post 39 = .ok (.iload 4, 2) := by decide +kernel
theorem dX4_post_41 : decode cX4_post 41 = .ok (.aload_n 0, 1) := by decide +kernel
theorem dX4_post_42 : decode cX4_post 42 = .ok (.getfield 54, 3) := by decide +kernel
theorem dX4_post_45 : decode cX4_post 45 = .ok (.if_icmp .ge 80, 3) := by decide +kernel
theorem dX4_post_48 : decode cX4_post 48 = .ok (.aload_n 0, 1) := by decide +kernel
theorem dX4_post_49 : decode cX4_post 49 = .ok (.iload 4, 2) := by decide +kernel
theorem dX4_post_51 : decode cX4_post 51 = .ok (.invokevirtual 66, 3) := by decide +kernel
theorem dX4_post_54 : decode cX4_post 54 = .ok (.astore 5, 2) := by decide +kernel
theorem dX4_post_56 : decode cX4_post 56 = .ok (.aload 5, 2) := by decide +kernel
theorem dX4_post_58 : decode cX4_post 58 = .ok (.ifnull 61, 3) := by decide +kernel
theorem dX4_post_61 : decode cX4_post 61 = .ok (.aload 5, 2) := by decide +kernel
theorem dX4_post_63 : decode cX4_post 63 = .ok (.getfield 84, 3) := by decide +kernel
theorem dX4_post_66 : decode cX4_post 66 = .ok (.iload_n 1, 1) := by decide +kernel
theorem dX4_post_67 : decode cX4_post 67 = .ok (.if_icmp .gt 52, 3) := by decide +kernel
theorem dX4_post_70 : decode cX4_post 70 = .ok (.aload_n 0, 1) := by decide +kernel
theorem dX4_post_71 : decode cX4_post 71 = .ok (.aload 5, 2) := by decide +kernel
theorem dX4_post_73 : decode cX4_post 73 = .ok (.iload_n 1, 1) := by decide +kernel
theorem dX4_post_74 : decode cX4_post 74 = .ok (.invokevirtual 127, 3) := by decide +kernel
theorem dX4_post_77 : decode cX4_post 77 = .ok (.aload 5, 2) := by decide +kernel
theorem dX4_post_79 : decode cX4_post 79 = .ok (.getfield 167, 3) := by decide +kernel
theorem dX4_post_82 : decode cX4_post 82 = .ok (.iload_n 1, 1) := by decide +kernel
theorem dX4_post_83 : decode cX4_post 83 = .ok (.aload_n 0, 1) := by decide +kernel
theorem dX4_post_84 : decode cX4_post 84 = .ok (.getfield 24, 3) := by decide +kernel
theorem dX4_post_87 : decode cX4_post 87 = .ok (.getfield 171, 3) := by decide +kernel
theorem dX4_post_90 : decode cX4_post 90 = .ok (.aload 5, 2) := by decide +kernel
theorem dX4_post_92 : decode cX4_post 92 = .ok (.getfield 174, 3) := by decide +kernel
theorem dX4_post_95 : decode cX4_post 95 = .ok (.lsub, 1) := by decide +kernel
theorem dX4_post_96 : decode cX4_post 96 = .ok (.lastore, 1) := by decide +kernel
theorem dX4_post_97 : decode cX4_post 97 = .ok (.aload 5, 2) := by decide +kernel
theorem dX4_post_99 : decode cX4_post 99 = .ok (.aload_n 0, 1) := by decide +kernel
theorem dX4_post_100 : decode cX4_post 100 = .ok (.getfield 24, 3) := by decide +kernel
theorem dX4_post_103 : decode cX4_post 103 = .ok (.getfield 171, 3) := by decide +kernel
theorem dX4_post_106 : decode cX4_post 106 = .ok (.putfield 174, 3) := by decide +kernel
theorem dX4_post_109 : decode cX4_post 109 = .ok (.lload_n 2, 1) := by decide +kernel
theorem dX4_post_110 : decode cX4_post 110 = .ok (.aload 5, 2) := by decide +kernel
theorem dX4_post_112 : decode cX4_post 112 = .ok (.getfield 167, 3) := by decide +kernel
theorem dX4_post_115 : decode cX4_post 115 = .ok (.iload_n 1, 1) := by decide +kernel
theorem dX4_post_116 : decode cX4_post 116 = .ok (.laload, 1) := by decide +kernel
theorem dX4_post_117 : decode cX4_post 117 = .ok (.ladd, 1) := by decide +kernel
theorem dX4_post_118 : decode cX4_post 118 = .ok (.lstore_n 2, 1) := by decide +kernel
theorem dX4_post_119 : decode cX4_post 119 = .ok (.iinc 4 1, 3) := by decide +kernel
theorem dX4_post_122 : decode cX4_post 122 = .ok (.goto (-83), 3) := by decide +kernel
theorem dX4_post_125 : decode cX4_post 125 = .ok (.lload_n 2, 1) := by decide +kernel
theorem dX4_post_126 : decode cX4_post 126 = .ok (.lreturn, 1) := by decide +kernel
theorem dX4_months_0 : decode cX4_months 0 = .ok (.aload_n 0, 1) := by decide +kernel
theorem dX4_months_1 : decode cX4_months 1 = .ok (.getfield 162, 3) := by decide +kernel
theorem dX4_months_4 : decode cX4_months 4 = .ok (.ireturn, 1) := by decide +kernel
set_option maxRecDepth 20000 in
theorem ggX4_posted_X4_partOf : GoodIn wsX4_posted wsX4_partOf := goodIn_r _ [8, 9, 10, 25, 26, 27, 28, 29, 30, 31] (by decide +kernel) (by decide +kernel)
set_option maxRecDepth 20000 in
theorem gX4_posted_X4_partOf : GoodIn wsX4_posted (wsV RX4 66 RX4 yX4_partOf wsX4_partOf) := goodIn_app (goodIn_of _ (by decide +kernel)) ggX4_posted_X4_partOf
set_option maxRecDepth 20000 in
theorem ggX4_posted_X4_isMonth : GoodIn wsX4_posted wsX4_isMonth := goodIn_r _ [13] (by decide +kernel) (by decide +kernel)
set_option maxRecDepth 20000 in
theorem gX4_posted_X4_isMonth : GoodIn wsX4_posted (va_wsS RX4 37 yX4_isMonth wsX4_isMonth) := goodIn_app (goodIn_of _ (by decide +kernel)) ggX4_posted_X4_isMonth
theorem dX4_posted_0 : decode cX4_posted 0 = .ok (.aload_n 0, 1) := by decide +kernel
theorem dX4_posted_1 : decode cX4_posted 1 = .ok (.iload_n 1, 1) := by decide +kernel
theorem dX4_posted_2 : decode cX4_posted 2 = .ok (.invokevirtual 66, 3) := by decide +kernel
theorem dX4_posted_5 : decode cX4_posted 5 = .ok (.astore_n 3, 1) := by decide +kernel
theorem dX4_posted_6 : decode cX4_posted 6 = .ok (.aload_n 3, 1) := by decide +kernel
theorem dX4_posted_7 : decode cX4_posted 7 = .ok (.ifnull 10, 3) := by decide +kernel
theorem dX4_posted_10 : decode cX4_posted 10 = .ok (.iload_n 2, 1) := by decide +kernel
theorem dX4_posted_11 : decode cX4_posted 11 = .ok (.invokestatic 37, 3) := by decide +kernel
theorem dX4_posted_14 : decode cX4_posted 14 = .ok (.ifCond .ne 13, 3) := by decide +kernel
theorem dX4_posted_17 : decode cX4_posted 17 = .ok (.new 47, 3) := by decide +kernel
theorem dX4_posted_20 : decode cX4_posted 20 = .ok (.dup, 1) := by decide +kernel
theorem dX4_posted_21 : decode cX4_posted 21 = .ok (.ldc 154, 2) := by decide +kernel
theorem dX4_posted_23 : decode cX4_posted 23 = .ok (.invokespecial 51, 3) := by decide +kernel
theorem dX4_posted_26 : decode cX4_posted 26 = .ok (.athrow, 1) := by decide +kernel
theorem dX4_posted_27 : decode cX4_posted 27 = .ok (.aload_n 3, 1) := by decide +kernel
theorem dX4_posted_28 : decode cX4_posted 28 = .ok (.getfield 167, 3) := by decide +kernel
theorem dX4_posted_31 : decode cX4_posted 31 = .ok (.iload_n 2, 1) := by decide +kernel
theorem dX4_posted_32 : decode cX4_posted 32 = .ok (.laload, 1) := by decide +kernel
theorem dX4_posted_33 : decode cX4_posted 33 = .ok (.lreturn, 1) := by decide +kernel
set_option maxRecDepth 20000 in
theorem ggX4_total_X4_partOf : GoodIn wsX4_total wsX4_partOf := goodIn_r _ [8, 9, 10, 22, 23, 24, 25, 26, 27, 28] (by decide +kernel) (by decide +kernel)
set_option maxRecDepth 20000 in
theorem gX4_total_X4_partOf : GoodIn wsX4_total (wsV RX4 66 RX4 yX4_partOf wsX4_partOf) := goodIn_app (goodIn_of _ (by decide +kernel)) ggX4_total_X4_partOf
theorem dX4_total_0 : decode cX4_total 0 = .ok (.aload_n 0, 1) := by decide +kernel
theorem dX4_total_1 : decode cX4_total 1 = .ok (.iload_n 1, 1) := by decide +kernel
theorem dX4_total_2 : decode cX4_total 2 = .ok (.invokevirtual 66, 3) := by decide +kernel
theorem dX4_total_5 : decode cX4_total 5 = .ok (.astore_n 2, 1) := by decide +kernel
theorem dX4_total_6 : decode cX4_total 6 = .ok (.aload_n 2, 1) := by decide +kernel
theorem dX4_total_7 : decode cX4_total 7 = .ok (.ifnonnull 13, 3) := by decide +kernel
theorem dX4_total_10 : decode cX4_total 10 = .ok (.new 47, 3) := by decide +kernel
theorem dX4_total_13 : decode cX4_total 13 = .ok (.dup, 1) := by decide +kernel
theorem dX4_total_14 : decode cX4_total 14 = .ok (.ldc 177, 2) := by decide +kernel
theorem dX4_total_16 : decode cX4_total 16 = .ok (.invokespecial 51, 3) := by decide +kernel
theorem dX4_total_19 : decode cX4_total 19 = .ok (.athrow, 1) := by decide +kernel
theorem dX4_total_20 : decode cX4_total 20 = .ok (.aload_n 2, 1) := by decide +kernel
theorem dX4_total_21 : decode cX4_total 21 = .ok (.getfield 174, 3) := by decide +kernel
theorem dX4_total_24 : decode cX4_total 24 = .ok (.lreturn, 1) := by decide +kernel
theorem dX4_parts_0 : decode cX4_parts 0 = .ok (.aload_n 0, 1) := by decide +kernel
theorem dX4_parts_1 : decode cX4_parts 1 = .ok (.getfield 54, 3) := by decide +kernel
theorem dX4_parts_4 : decode cX4_parts 4 = .ok (.ireturn, 1) := by decide +kernel
theorem dX4_partOf_0 : decode cX4_partOf 0 = .ok (.iload_n 1, 1) := by decide +kernel
theorem dX4_partOf_1 : decode cX4_partOf 1 = .ok (.ifCond .lt 20, 3) := by decide +kernel
theorem dX4_partOf_4 : decode cX4_partOf 4 = .ok (.iload_n 1, 1) := by decide +kernel
theorem dX4_partOf_5 : decode cX4_partOf 5 = .ok (.aload_n 0, 1) := by decide +kernel
theorem dX4_partOf_6 : decode cX4_partOf 6 = .ok (.getfield 54, 3) := by decide +kernel
theorem dX4_partOf_9 : decode cX4_partOf 9 = .ok (.if_icmp .ge 12, 3) := by decide +kernel
theorem dX4_partOf_12 : decode cX4_partOf 12 = .ok (.aload_n 0, 1) := by decide +kernel
theorem dX4_partOf_13 : decode cX4_partOf 13 = .ok (.getfield 11, 3) := by decide +kernel
theorem dX4_partOf_16 : decode cX4_partOf 16 = .ok (.iload_n 1, 1) := by decide +kernel
theorem dX4_partOf_17 : decode cX4_partOf 17 = .ok (.aaload, 1) := by decide +kernel
theorem dX4_partOf_18 : decode cX4_partOf 18 = .ok (.goto 4, 3) := by decide +kernel
theorem dX4_partOf_21 : decode cX4_partOf 21 = .ok (.aconst_null, 1) := by decide +kernel
theorem dX4_partOf_22 : decode cX4_partOf 22 = .ok (.areturn, 1) := by decide +kernel
theorem dX4_eventOf_0 : decode cX4_eventOf 0 = .ok (.iload_n 1, 1) := by decide +kernel
theorem dX4_eventOf_1 : decode cX4_eventOf 1 = .ok (.ifCond .lt 20, 3) := by decide +kernel
theorem dX4_eventOf_4 : decode cX4_eventOf 4 = .ok (.iload_n 1, 1) := by decide +kernel
theorem dX4_eventOf_5 : decode cX4_eventOf 5 = .ok (.aload_n 0, 1) := by decide +kernel
theorem dX4_eventOf_6 : decode cX4_eventOf 6 = .ok (.getfield 99, 3) := by decide +kernel
theorem dX4_eventOf_9 : decode cX4_eventOf 9 = .ok (.if_icmp .ge 12, 3) := by decide +kernel
theorem dX4_eventOf_12 : decode cX4_eventOf 12 = .ok (.aload_n 0, 1) := by decide +kernel
theorem dX4_eventOf_13 : decode cX4_eventOf 13 = .ok (.getfield 17, 3) := by decide +kernel
theorem dX4_eventOf_16 : decode cX4_eventOf 16 = .ok (.iload_n 1, 1) := by decide +kernel
theorem dX4_eventOf_17 : decode cX4_eventOf 17 = .ok (.aaload, 1) := by decide +kernel
theorem dX4_eventOf_18 : decode cX4_eventOf 18 = .ok (.goto 4, 3) := by decide +kernel
theorem dX4_eventOf_21 : decode cX4_eventOf 21 = .ok (.aconst_null, 1) := by decide +kernel
theorem dX4_eventOf_22 : decode cX4_eventOf 22 = .ok (.areturn, 1) := by decide +kernel
set_option maxRecDepth 20000 in
theorem ggX4_hasBreach_X4_follow : GoodIn wsX4_hasBreach wsX4_follow := goodIn_r _ [6, 1, 7, 8, 9, 10, 11, 12, 13, 14, 15, 16, 17, 18, 19, 20, 21, 22, 23, 24, 25, 26, 27, 28, 29, 30, 31, 32, 33, 34, 35, 36, 37, 38, 39, 40, 41, 42, 43, 44, 45, 46, 47, 48, 49, 50, 51, 52, 53, 54, 55, 56, 57, 58, 59, 60, 61, 62, 63, 64, 65, 66, 67, 68, 69, 70, 71, 72, 73, 74, 75, 76, 77, 78, 79, 80, 81, 82, 83, 84, 85, 86, 87, 88, 89, 90, 91, 92, 93, 94, 95, 96, 97, 98, 99, 100, 101, 102, 103, 104, 105, 106, 5, 107, 108, 109, 110, 111, 112, 113, 114, 115, 116, 117, 118, 119, 120, 121, 122, 123, 124, 125, 126, 127, 128, 129, 130, 131, 132, 133, 134, 135, 136, 152, 153, 154, 155, 156, 157, 158, 159, 160, 161, 162, 163, 164, 165, 166, 167, 137, 138, 139, 140, 141, 142, 143, 144, 145, 146, 147, 148, 149, 150, 151, 168, 169, 170, 171, 172, 173] (by decide +kernel) (by decide +kernel)
set_option maxRecDepth 20000 in
theorem gX4_hasBreach_X4_follow : GoodIn wsX4_hasBreach (wsV RX4 127 RX4 yX4_follow wsX4_follow) := goodIn_app (goodIn_of _ (by decide +kernel)) ggX4_hasBreach_X4_follow
theorem dX4_hasBreach_0 : decode cX4_hasBreach 0 = .ok (.aload_n 0, 1) := by decide +kernel
theorem dX4_hasBreach_1 : decode cX4_hasBreach 1 = .ok (.aload_n 1, 1) := by decide +kernel
theorem dX4_hasBreach_2 : decode cX4_hasBreach 2 = .ok (.bipush 35, 2) := by decide +kernel
theorem dX4_hasBreach_4 : decode cX4_hasBreach 4 = .ok (.invokevirtual 127, 3) := by decide +kernel
theorem dX4_hasBreach_7 : decode cX4_hasBreach 7 = .ok (.aload_n 0, 1) := by decide +kernel
theorem dX4_hasBreach_8 : decode cX4_hasBreach 8 = .ok (.getfield 24, 3) := by decide +kernel
theorem dX4_hasBreach_11 : decode cX4_hasBreach 11 = .ok (.getfield 179, 3) := by decide +kernel
theorem dX4_hasBreach_14 : decode cX4_hasBreach 14 = .ok (.ireturn, 1) := by decide +kernel
set_option maxRecDepth 20000 in
theorem ggX4_follow_X0_open : GoodIn wsX4_follow wsX0_open := goodIn_r _ [12, 13, 14, 15, 16, 17, 18, 19, 20, 21, 22, 23, 24, 25, 26, 27, 28, 29, 30, 31, 32, 33, 34, 11, 35, 36, 37, 38, 39, 40, 41, 42, 43, 44, 45, 46, 47, 48, 49, 50, 51, 52, 53, 54, 55, 133, 134, 135, 136, 137, 138, 139, 140, 141, 142, 143, 149, 150, 151, 152, 153, 154, 155, 156, 157, 158, 159, 160, 161, 162, 163, 164, 165, 166, 167, 168, 169] (by decide +kernel) (by decide +kernel)
set_option maxRecDepth 20000 in
theorem gX4_follow_X0_open : GoodIn wsX4_follow (wsV RX4 183 RX0 yX0_open wsX0_open) := goodIn_app (goodIn_of _ (by decide +kernel)) ggX4_follow_X0_open
set_option maxRecDepth 20000 in
theorem ggX4_follow_X0_bookOrNone : GoodIn wsX4_follow wsX0_bookOrNone := goodIn_r _ [59, 28, 60, 41, 42, 43, 11, 44, 18, 19, 149, 150, 151, 152, 153, 154, 155, 156, 157, 158, 159, 160, 161, 162, 163] (by decide +kernel) (by decide +kernel)
set_option maxRecDepth 20000 in
theorem gX4_follow_X0_bookOrNone : GoodIn wsX4_follow (wsV RX4 159 RX0 yX0_bookOrNone wsX0_bookOrNone) := goodIn_app (goodIn_of _ (by decide +kernel)) ggX4_follow_X0_bookOrNone
set_option maxRecDepth 20000 in
theorem ggX4_follow_X0_meet : GoodIn wsX4_follow wsX0_meet := goodIn_r _ [64, 28, 65, 66, 67, 68, 11, 69, 27, 26, 25, 23, 70, 19, 41, 42, 43, 44, 18, 71, 72, 73, 74, 75, 76, 77, 78, 79, 20, 80, 81, 82, 83, 84, 85, 39, 86, 21, 87, 88, 89, 90, 91, 92, 93, 94, 95, 96, 97, 98, 99, 100, 101, 102, 103, 104, 32, 33, 34, 35, 36, 37, 38, 40, 16, 29, 45, 46, 47, 48, 49, 50, 51, 52, 53, 54, 55, 149, 150, 151, 152, 153, 154, 155, 156, 157, 158, 159, 160, 161, 162, 163, 144, 145, 146, 147, 148, 164, 165, 166, 167, 168, 169] (by decide +kernel) (by decide +kernel)
set_option maxRecDepth 20000 in
theorem gX4_follow_X0_meet : GoodIn wsX4_follow (wsV RX4 187 RX0 yX0_meet wsX0_meet) := goodIn_app (goodIn_of _ (by decide +kernel)) ggX4_follow_X0_meet
set_option maxRecDepth 20000 in
theorem ggX4_follow_X0_chargeMonth : GoodIn wsX4_follow wsX0_chargeMonth := goodIn_r _ [108, 30, 26, 27, 25, 14, 36, 29, 19, 31, 109, 110, 111, 11, 112, 23, 16, 99, 37, 38, 39, 40, 84, 85, 86, 41, 42, 43, 44, 18, 101, 102, 103, 104, 113, 114, 115, 48, 116, 53, 54, 55, 117, 118, 119, 120, 50, 51, 52, 121, 122, 123, 124, 125, 149, 150, 151, 152, 153, 154, 155, 156, 157, 158, 159, 160, 161, 162, 163, 164, 165, 166, 167, 168, 169] (by decide +kernel) (by decide +kernel)
set_option maxRecDepth 20000 in
theorem gX4_follow_X0_chargeMonth : GoodIn wsX4_follow (wsV RX4 193 RX0 yX0_chargeMonth wsX0_chargeMonth) := goodIn_app (goodIn_of _ (by decide +kernel)) ggX4_follow_X0_chargeMonth
theorem dX4_follow_0 : decode cX4_follow 0 = .ok (.aload_n 0, 1) := by decide +kernel
theorem dX4_follow_1 : decode cX4_follow 1 = .ok (.getfield 24, 3) := by decide +kernel
theorem dX4_follow_4 : decode cX4_follow 4 = .ok (.aload_n 1, 1) := by decide +kernel
theorem dX4_follow_5 : decode cX4_follow 5 = .ok (.invokevirtual 183, 3) := by decide +kernel
theorem dX4_follow_8 : decode cX4_follow 8 = .ok (.aload_n 0, 1) := by decide +kernel
theorem dX4_follow_9 : decode cX4_follow 9 = .ok (.getfield 28, 3) := by decide +kernel
theorem dX4_follow_12 : decode cX4_follow 12 = .ok (.aload_n 1, 1) := by decide +kernel
theorem dX4_follow_13 : decode cX4_follow 13 = .ok (.invokevirtual 183, 3) := by decide +kernel
theorem dX4_follow_16 : decode cX4_follow 16 = .ok (.aload_n 1, 1) := by decide +kernel
theorem dX4_follow_17 : decode cX4_follow 17 = .ok (.getfield 84, 3) := by decide +kernel
theorem dX4_follow_20 : decode cX4_follow 20 = .ok (.istore_n 3, 1) := by decide +kernel
theorem dX4_follow_21 : decode cX4_follow 21 = .ok (.iload_n 3, 1) := by decide +kernel
theorem dX4_follow_22 : decode cX4_follow 22 = .ok (.iload_n 2, 1) := by decide +kernel
theorem dX4_follow_23 : decode cX4_follow 23 = .ok (.if_icmp .gt 94, 3) := by decide +kernel
theorem dX4_follow_26 : decode cX4_follow 26 = .ok (.aload_n 1, 1) := by decide +kernel
theorem dX4_follow_27 : decode cX4_follow 27 = .ok (.getfield 93, 3) := by decide +kernel
theorem dX4_follow_30 : decode cX4_follow 30 = .ok (.iload_n 3, 1) := by decide +kernel
theorem dX4_follow_31 : decode cX4_follow 31 = .ok (.aaload, 1) := by decide +kernel
theorem dX4_follow_32 : decode cX4_follow 32 = .ok (.astore 4, 2) := by decide +kernel
theorem dX4_follow_34 : decode cX4_follow 34 = .ok (.aload 4, 2) := by decide +kernel
theorem dX4_follow_36 : decode cX4_follow 36 = .ok (.ifnull 49, 3) := by decide +kernel
theorem dX4_follow_39 : decode cX4_follow 39 = .ok (.aload_n 0, 1) := by decide +kernel
theorem dX4_follow_40 : decode cX4_follow 40 = .ok (.getfield 24, 3) := by decide +kernel
theorem dX4_follow_43 : decode cX4_follow 43 = .ok (.aload 4, 2) := by decide +kernel
theorem dX4_follow_45 : decode cX4_follow 45 = .ok (.aload_n 0, 1) := by decide +kernel
theorem dX4_follow_46 : decode cX4_follow 46 = .ok (.getfield 28, 3) := by decide +kernel
theorem dX4_follow_49 : decode cX4_follow 49 = .ok (.invokevirtual 159, 3) := by decide +kernel
theorem dX4_follow_52 : decode cX4_follow 52 = .ok (.invokevirtual 187, 3) := by decide +kernel
theorem dX4_follow_55 : decode cX4_follow 55 = .ok (.aload 4, 2) := by decide +kernel
theorem dX4_follow_57 : decode cX4_follow 57 = .ok (.getfield 117, 3) := by decide +kernel
theorem dX4_follow_60 : decode cX4_follow 60 = .ok (.iconst 3, 1) := by decide +kernel
theorem dX4_follow_61 : decode cX4_follow 61 = .ok (.if_icmp .eq 24, 3) := by decide +kernel
theorem dX4_follow_64 : decode cX4_follow 64 = .ok (.aload 4, 2) := by decide +kernel
theorem dX4_follow_66 : decode cX4_follow 66 = .ok (.getfield 117, 3) := by decide +kernel
theorem dX4_follow_69 : decode cX4_follow 69 = .ok (.iconst 4, 1) := by decide +kernel
theorem dX4_follow_70 : decode cX4_follow 70 = .ok (.if_icmp .eq 15, 3) := by decide +kernel
theorem dX4_follow_73 : decode cX4_follow 73 = .ok (.aload_n 0, 1) := by decide +kernel
theorem dX4_follow_74 : decode cX4_follow 74 = .ok (.getfield 28, 3) := by decide +kernel
theorem dX4_follow_77 : decode cX4_follow 77 = .ok (.aload 4, 2) := by decide +kernel
theorem dX4_follow_79 : decode cX4_follow 79 = .ok (.ldc2_w 191, 3) := by decide +kernel
theorem dX4_follow_82 : decode cX4_follow 82 = .ok (.invokevirtual 187, 3) := by decide +kernel
theorem dX4_follow_85 : decode cX4_follow 85 = .ok (.aload_n 0, 1) := by decide +kernel
theorem dX4_follow_86 : decode cX4_follow 86 = .ok (.getfield 24, 3) := by decide +kernel
theorem dX4_follow_89 : decode cX4_follow 89 = .ok (.aload_n 1, 1) := by decide +kernel
theorem dX4_follow_90 : decode cX4_follow 90 = .ok (.getfield 74, 3) := by decide +kernel
theorem dX4_follow_93 : decode cX4_follow 93 = .ok (.iload_n 3, 1) := by decide +kernel
theorem dX4_follow_94 : decode cX4_follow 94 = .ok (.iaload, 1) := by decide +kernel
theorem dX4_follow_95 : decode cX4_follow 95 = .ok (.invokevirtual 193, 3) := by decide +kernel
theorem dX4_follow_98 : decode cX4_follow 98 = .ok (.aload_n 0, 1) := by decide +kernel
theorem dX4_follow_99 : decode cX4_follow 99 = .ok (.getfield 28, 3) := by decide +kernel
theorem dX4_follow_102 : decode cX4_follow 102 = .ok (.aload_n 1, 1) := by decide +kernel
theorem dX4_follow_103 : decode cX4_follow 103 = .ok (.getfield 74, 3) := by decide +kernel
theorem dX4_follow_106 : decode cX4_follow 106 = .ok (.iload_n 3, 1) := by decide +kernel
theorem dX4_follow_107 : decode cX4_follow 107 = .ok (.iaload, 1) := by decide +kernel
theorem dX4_follow_108 : decode cX4_follow 108 = .ok (.invokevirtual 193, 3) := by decide +kernel
theorem dX4_follow_111 : decode cX4_follow 111 = .ok (.iinc 3 1, 3) := by decide +kernel
theorem dX4_follow_114 : decode cX4_follow 114 = .ok (.goto (-93), 3) := by decide +kernel
theorem dX4_follow_117 : decode cX4_follow 117 = .ok (.return_, 1) := by decide +kernel
theorem dX4_isWithin_0 : decode cX4_isWithin 0 = .ok (.lload_n 0, 1) := by decide +kernel
theorem dX4_isWithin_1 : decode cX4_isWithin 1 = .ok (.lload_n 2, 1) := by decide +kernel
theorem dX4_isWithin_2 : decode cX4_isWithin 2 = .ok (.lcmp, 1) := by decide +kernel
theorem dX4_isWithin_3 : decode cX4_isWithin 3 = .ok (.ifCond .lt 14, 3) := by decide +kernel
theorem dX4_isWithin_6 : decode cX4_isWithin 6 = .ok (.lload_n 0, 1) := by decide +kernel
theorem dX4_isWithin_7 : decode cX4_isWithin 7 = .ok (.lload 4, 2) := by decide +kernel
theorem dX4_isWithin_9 : decode cX4_isWithin 9 = .ok (.lcmp, 1) := by decide +kernel
theorem dX4_isWithin_10 : decode cX4_isWithin 10 = .ok (.ifCond .gt 7, 3) := by decide +kernel
theorem dX4_isWithin_13 : decode cX4_isWithin 13 = .ok (.iconst 1, 1) := by decide +kernel
theorem dX4_isWithin_14 : decode cX4_isWithin 14 = .ok (.goto 4, 3) := by decide +kernel
theorem dX4_isWithin_17 : decode cX4_isWithin 17 = .ok (.iconst 0, 1) := by decide +kernel
theorem dX4_isWithin_18 : decode cX4_isWithin 18 = .ok (.ireturn, 1) := by decide +kernel
theorem dX4_isMonth_0 : decode cX4_isMonth 0 = .ok (.iload_n 0, 1) := by decide +kernel
theorem dX4_isMonth_1 : decode cX4_isMonth 1 = .ok (.ifCond .lt 13, 3) := by decide +kernel
theorem dX4_isMonth_4 : decode cX4_isMonth 4 = .ok (.iload_n 0, 1) := by decide +kernel
theorem dX4_isMonth_5 : decode cX4_isMonth 5 = .ok (.bipush 36, 2) := by decide +kernel
theorem dX4_isMonth_7 : decode cX4_isMonth 7 = .ok (.if_icmp .ge 7, 3) := by decide +kernel
theorem dX4_isMonth_10 : decode cX4_isMonth 10 = .ok (.iconst 1, 1) := by decide +kernel
theorem dX4_isMonth_11 : decode cX4_isMonth 11 = .ok (.goto 4, 3) := by decide +kernel
theorem dX4_isMonth_14 : decode cX4_isMonth 14 = .ok (.iconst 0, 1) := by decide +kernel
theorem dX4_isMonth_15 : decode cX4_isMonth 15 = .ok (.ireturn, 1) := by decide +kernel
set_option maxRecDepth 20000 in
theorem ggX4_isRateOf_X4_isWithin : GoodIn wsX4_isRateOf wsX4_isWithin := goodIn_r _ [5] (by decide +kernel) (by decide +kernel)
set_option maxRecDepth 20000 in
theorem gX4_isRateOf_X4_isWithin : GoodIn wsX4_isRateOf (va_wsS RX4 33 yX4_isWithin wsX4_isWithin) := goodIn_app (goodIn_of _ (by decide +kernel)) ggX4_isRateOf_X4_isWithin
theorem dX4_isRateOf_0 : decode cX4_isRateOf 0 = .ok (.iload_n 0, 1) := by decide +kernel
theorem dX4_isRateOf_1 : decode cX4_isRateOf 1 = .ok (.tableswitch 51 0 3 #[31, 41, 31, 41], 31) := by decide +kernel
theorem dX4_isRateOf_32 : decode cX4_isRateOf 32 = .ok (.iload_n 1, 1) := by decide +kernel
theorem dX4_isRateOf_33 : decode cX4_isRateOf 33 = .ok (.ifCond .ne 7, 3) := by decide +kernel
theorem dX4_isRateOf_36 : decode cX4_isRateOf 36 = .ok (.iconst 1, 1) := by decide +kernel
theorem dX4_isRateOf_37 : decode cX4_isRateOf 37 = .ok (.goto 4, 3) := by decide +kernel
theorem dX4_isRateOf_40 : decode cX4_isRateOf 40 = .ok (.iconst 0, 1) := by decide +kernel
theorem dX4_isRateOf_41 : decode cX4_isRateOf 41 = .ok (.ireturn, 1) := by decide +kernel
theorem dX4_isRateOf_42 : decode cX4_isRateOf 42 = .ok (.iload_n 1, 1) := by decide +kernel
theorem dX4_isRateOf_43 : decode cX4_isRateOf 43 = .ok (.i2l, 1) := by decide +kernel
theorem dX4_isRateOf_44 : decode cX4_isRateOf 44 = .ok (.lconst 1, 1) := by decide +kernel
theorem dX4_isRateOf_45 : decode cX4_isRateOf 45 = .ok (.ldc2_w 70, 3) := by decide +kernel
theorem dX4_isRateOf_48 : decode cX4_isRateOf 48 = .ok (.invokestatic 33, 3) := by decide +kernel
theorem dX4_isRateOf_51 : decode cX4_isRateOf 51 = .ok (.ireturn, 1) := by decide +kernel
theorem dX4_isRateOf_52 : decode cX4_isRateOf 52 = .ok (.iconst 0, 1) := by decide +kernel
theorem dX4_isRateOf_53 : decode cX4_isRateOf 53 = .ok (.ireturn, 1) := by decide +kernel
set_option maxRecDepth 20000 in
theorem ggX4_isEvent_X4_isWithin : GoodIn wsX4_isEvent wsX4_isWithin := goodIn_r _ [7] (by decide +kernel) (by decide +kernel)
set_option maxRecDepth 20000 in
theorem gX4_isEvent_X4_isWithin : GoodIn wsX4_isEvent (va_wsS RX4 33 yX4_isWithin wsX4_isWithin) := goodIn_app (goodIn_of _ (by decide +kernel)) ggX4_isEvent_X4_isWithin
theorem dX4_isEvent_0 : decode cX4_isEvent 0 = .ok (.iload_n 0, 1) := by decide +kernel
theorem dX4_isEvent_1 : decode cX4_isEvent 1 = .ok (.tableswitch 158 0 7 #[47, 68, 97, 97, 97, 118, 142, 142], 47) := by decide +kernel
theorem dX4_isEvent_48 : decode cX4_isEvent 48 = .ok (.lload_n 1, 1) := by decide +kernel
theorem dX4_isEvent_49 : decode cX4_isEvent 49 = .ok (.lconst 1, 1) := by decide +kernel
theorem dX4_isEvent_50 : decode cX4_isEvent 50 = .ok (.ldc2_w 31, 3) := by decide +kernel
theorem dX4_isEvent_53 : decode cX4_isEvent 53 = .ok (.invokestatic 33, 3) := by decide +kernel
theorem dX4_isEvent_56 : decode cX4_isEvent 56 = .ok (.ifCond .eq 11, 3) := by decide +kernel
theorem dX4_isEvent_59 : decode cX4_isEvent 59 = .ok (.iload_n 3, 1) := by decide +kernel
theorem dX4_isEvent_60 : decode cX4_isEvent 60 = .ok (.ifCond .ne 7, 3) := by decide +kernel
theorem dX4_isEvent_63 : decode cX4_isEvent 63 = .ok (.iconst 1, 1) := by decide +kernel
theorem dX4_isEvent_64 : decode cX4_isEvent 64 = .ok (.goto 4, 3) := by decide +kernel
theorem dX4_isEvent_67 : decode cX4_isEvent 67 = .ok (.iconst 0, 1) := by decide +kernel
theorem dX4_isEvent_68 : decode cX4_isEvent 68 = .ok (.ireturn, 1) := by decide +kernel
theorem dX4_isEvent_69 : decode cX4_isEvent 69 = .ok (.lload_n 1, 1) := by decide +kernel
theorem dX4_isEvent_70 : decode cX4_isEvent 70 = .ok (.lconst 0, 1) := by decide +kernel
theorem dX4_isEvent_71 : decode cX4_isEvent 71 = .ok (.ldc2_w 31, 3) := by decide +kernel
theorem dX4_isEvent_74 : decode cX4_isEvent 74 = .ok (.invokestatic 33, 3) := by decide +kernel
theorem dX4_isEvent_77 : decode cX4_isEvent 77 = .ok (.ifCond .eq 19, 3) := by decide +kernel
theorem dX4_isEvent_80 : decode cX4_isEvent 80 = .ok (.iload_n 3, 1) := by decide +kernel
theorem dX4_isEvent_81 : decode cX4_isEvent 81 = .ok (.i2l, 1) := by decide +kernel
theorem dX4_isEvent_82 : decode cX4_isEvent 82 = .ok (.lconst 1, 1) := by decide +kernel
theorem dX4_isEvent_83 : decode cX4_isEvent 83 = .ok (.ldc2_w 41, 3) := by decide +kernel
theorem dX4_isEvent_86 : decode cX4_isEvent 86 = .ok (.invokestatic 33, 3) := by decide +kernel
theorem dX4_isEvent_89 : decode cX4_isEvent 89 = .ok (.ifCond .eq 7, 3) := by decide +kernel
theorem dX4_isEvent_92 : decode cX4_isEvent 92 = .ok (.iconst 1, 1) := by decide +kernel
theorem dX4_isEvent_93 : decode cX4_isEvent 93 = .ok (.goto 4, 3) := by decide +kernel
theorem dX4_isEvent_96 : decode cX4_isEvent 96 = .ok (.iconst 0, 1) := by decide +kernel
theorem dX4_isEvent_97 : decode cX4_isEvent 97 = .ok (.ireturn, 1) := by decide +kernel
theorem dX4_isEvent_98 : decode cX4_isEvent 98 = .ok (.lload_n 1, 1) := by decide +kernel
theorem dX4_isEvent_99 : decode cX4_isEvent 99 = .ok (.lconst 0, 1) := by decide +kernel
theorem dX4_isEvent_100 : decode cX4_isEvent 100 = .ok (.ldc2_w 31, 3) := by decide +kernel
theorem dX4_isEvent_103 : decode cX4_isEvent 103 = .ok (.invokestatic 33, 3) := by decide +kernel
theorem dX4_isEvent_106 : decode cX4_isEvent 106 = .ok (.ifCond .eq 11, 3) := by decide +kernel
theorem dX4_isEvent_109 : decode cX4_isEvent 109 = .ok (.iload_n 3, 1) := by decide +kernel
theorem dX4_isEvent_110 : decode cX4_isEvent 110 = .ok (.ifCond .ne 7, 3) := by decide +kernel
theorem dX4_isEvent_113 : decode cX4_isEvent 113 = .ok (.iconst 1, 1) := by decide +kernel
theorem dX4_isEvent_114 : decode cX4_isEvent 114 = .ok (.goto 4, 3) := by decide +kernel
theorem dX4_isEvent_117 : decode cX4_isEvent 117 = .ok (.iconst 0, 1) := by decide +kernel
theorem dX4_isEvent_118 : decode cX4_isEvent 118 = .ok (.ireturn, 1) := by decide +kernel
theorem dX4_isEvent_119 : decode cX4_isEvent 119 = .ok (.lload_n 1, 1) := by decide +kernel
theorem dX4_isEvent_120 : decode cX4_isEvent 120 = .ok (.lconst 0, 1) := by decide +kernel
theorem dX4_isEvent_121 : decode cX4_isEvent 121 = .ok (.lcmp, 1) := by decide +kernel
theorem dX4_isEvent_122 : decode cX4_isEvent 122 = .ok (.ifCond .ne 19, 3) := by decide +kernel
theorem dX4_isEvent_125 : decode cX4_isEvent 125 = .ok (.iload_n 3, 1) := by decide +kernel
theorem dX4_isEvent_126 : decode cX4_isEvent 126 = .ok (.i2l, 1) := by decide +kernel
theorem dX4_isEvent_127 : decode cX4_isEvent 127 = .ok (.lconst 1, 1) := by decide +kernel
theorem dX4_isEvent_128 : decode cX4_isEvent 128 = .ok (.ldc2_w 70, 3) := by decide +kernel
theorem dX4_isEvent_131 : decode cX4_isEvent 131 = .ok (.invokestatic 33, 3) := by decide +kernel
theorem dX4_isEvent_134 : decode cX4_isEvent 134 = .ok (.ifCond .eq 7, 3) := by decide +kernel
theorem dX4_isEvent_137 : decode cX4_isEvent 137 = .ok (.iconst 1, 1) := by decide +kernel
theorem dX4_isEvent_138 : decode cX4_isEvent 138 = .ok (.goto 4, 3) := by decide +kernel
theorem dX4_isEvent_141 : decode cX4_isEvent 141 = .ok (.iconst 0, 1) := by decide +kernel
theorem dX4_isEvent_142 : decode cX4_isEvent 142 = .ok (.ireturn, 1) := by decide +kernel
theorem dX4_isEvent_143 : decode cX4_isEvent 143 = .ok (.lload_n 1, 1) := by decide +kernel
theorem dX4_isEvent_144 : decode cX4_isEvent 144 = .ok (.lconst 0, 1) := by decide +kernel
theorem dX4_isEvent_145 : decode cX4_isEvent 145 = .ok (.lcmp, 1) := by decide +kernel
theorem dX4_isEvent_146 : decode cX4_isEvent 146 = .ok (.ifCond .ne 11, 3) := by decide +kernel
theorem dX4_isEvent_149 : decode cX4_isEvent 149 = .ok (.iload_n 3, 1) := by decide +kernel
theorem dX4_isEvent_150 : decode cX4_isEvent 150 = .ok (.ifCond .ne 7, 3) := by decide +kernel
theorem dX4_isEvent_153 : decode cX4_isEvent 153 = .ok (.iconst 1, 1) := by decide +kernel
theorem dX4_isEvent_154 : decode cX4_isEvent 154 = .ok (.goto 4, 3) := by decide +kernel
theorem dX4_isEvent_157 : decode cX4_isEvent 157 = .ok (.iconst 0, 1) := by decide +kernel
theorem dX4_isEvent_158 : decode cX4_isEvent 158 = .ok (.ireturn, 1) := by decide +kernel
theorem dX4_isEvent_159 : decode cX4_isEvent 159 = .ok (.iconst 0, 1) := by decide +kernel
theorem dX4_isEvent_160 : decode cX4_isEvent 160 = .ok (.ireturn, 1) := by decide +kernel
theorem dX4_rounded_0 : decode cX4_rounded 0 = .ok (.lload_n 2, 1) := by decide +kernel
theorem dX4_rounded_1 : decode cX4_rounded 1 = .ok (.lconst 0, 1) := by decide +kernel
theorem dX4_rounded_2 : decode cX4_rounded 2 = .ok (.lcmp, 1) := by decide +kernel
theorem dX4_rounded_3 : decode cX4_rounded 3 = .ok (.ifCond .le 19, 3) := by decide +kernel
theorem dX4_rounded_6 : decode cX4_rounded 6 = .ok (.ldc2_w 197, 3) := by decide +kernel
theorem dX4_rounded_9 : decode cX4_rounded 9 = .ok (.lload_n 0, 1) := by decide +kernel
theorem dX4_rounded_10 : decode cX4_rounded 10 = .ok (.lmul, 1) := by decide +kernel
theorem dX4_rounded_11 : decode cX4_rounded 11 = .ok (.lload_n 2, 1) := by decide +kernel
theorem dX4_rounded_12 : decode cX4_rounded 12 = .ok (.ladd, 1) := by decide +kernel
theorem dX4_rounded_13 : decode cX4_rounded 13 = .ok (.ldc2_w 197, 3) := by decide +kernel
theorem dX4_rounded_16 : decode cX4_rounded 16 = .ok (.lload_n 2, 1) := by decide +kernel
theorem dX4_rounded_17 : decode cX4_rounded 17 = .ok (.lmul, 1) := by decide +kernel
theorem dX4_rounded_18 : decode cX4_rounded 18 = .ok (.ldiv, 1) := by decide +kernel
theorem dX4_rounded_19 : decode cX4_rounded 19 = .ok (.goto 4, 3) := by decide +kernel
theorem dX4_rounded_22 : decode cX4_rounded 22 = .ok (.lconst 0, 1) := by decide +kernel
theorem dX4_rounded_23 : decode cX4_rounded 23 = .ok (.lreturn, 1) := by decide +kernel
theorem dX5_init_0 : decode cX5_init 0 = .ok (.aload_n 0, 1) := by decide +kernel
theorem dX5_init_1 : decode cX5_init 1 = .ok (.invokespecial 1, 3) := by decide +kernel
theorem dX5_init_4 : decode cX5_init 4 = .ok (.aload_n 0, 1) := by decide +kernel
theorem dX5_init_5 : decode cX5_init 5 = .ok (.bipush 6, 2) := by decide +kernel
theorem dX5_init_7 : decode cX5_init 7 = .ok (.newarray .long, 2) := by decide +kernel
theorem dX5_init_9 : decode cX5_init 9 = .ok (.putfield 7, 3) := by decide +kernel
theorem dX5_init_12 : decode cX5_init 12 = .ok (.aload_n 0, 1) := by decide +kernel
theorem dX5_init_13 : decode cX5_init 13 = .ok (.bipush 6, 2) := by decide +kernel
theorem dX5_init_15 : decode cX5_init 15 = .ok (.newarray .long, 2) := by decide +kernel
theorem dX5_init_17 : decode cX5_init 17 = .ok (.putfield 13, 3) := by decide +kernel
theorem dX5_init_20 : decode cX5_init 20 = .ok (.aload_n 0, 1) := by decide +kernel
theorem dX5_init_21 : decode cX5_init 21 = .ok (.bipush 6, 2) := by decide +kernel
theorem dX5_init_23 : decode cX5_init 23 = .ok (.newarray .int, 2) := by decide +kernel
theorem dX5_init_25 : decode cX5_init 25 = .ok (.putfield 16, 3) := by decide +kernel
theorem dX5_init_28 : decode cX5_init 28 = .ok (.aload_n 0, 1) := by decide +kernel
theorem dX5_init_29 : decode cX5_init 29 = .ok (.bipush 6, 2) := by decide +kernel
theorem dX5_init_31 : decode cX5_init 31 = .ok (.newarray .int, 2) := by decide +kernel
theorem dX5_init_33 : decode cX5_init 33 = .ok (.putfield 20, 3) := by decide +kernel
theorem dX5_init_36 : decode cX5_init 36 = .ok (.aload_n 0, 1) := by decide +kernel
theorem dX5_init_37 : decode cX5_init 37 = .ok (.bipush 6, 2) := by decide +kernel
theorem dX5_init_39 : decode cX5_init 39 = .ok (.newarray .int, 2) := by decide +kernel
theorem dX5_init_41 : decode cX5_init 41 = .ok (.putfield 23, 3) := by decide +kernel
theorem dX5_init_44 : decode cX5_init 44 = .ok (.aload_n 0, 1) := by decide +kernel
theorem dX5_init_45 : decode cX5_init 45 = .ok (.bipush 6, 2) := by decide +kernel
theorem dX5_init_47 : decode cX5_init 47 = .ok (.newarray .int, 2) := by decide +kernel
theorem dX5_init_49 : decode cX5_init 49 = .ok (.putfield 26, 3) := by decide +kernel
theorem dX5_init_52 : decode cX5_init 52 = .ok (.aload_n 0, 1) := by decide +kernel
theorem dX5_init_53 : decode cX5_init 53 = .ok (.sipush 216, 3) := by decide +kernel
theorem dX5_init_56 : decode cX5_init 56 = .ok (.newarray .int, 2) := by decide +kernel
theorem dX5_init_58 : decode cX5_init 58 = .ok (.putfield 29, 3) := by decide +kernel
theorem dX5_init_61 : decode cX5_init 61 = .ok (.aload_n 0, 1) := by decide +kernel
theorem dX5_init_62 : decode cX5_init 62 = .ok (.sipush 216, 3) := by decide +kernel
theorem dX5_init_65 : decode cX5_init 65 = .ok (.newarray .long, 2) := by decide +kernel
theorem dX5_init_67 : decode cX5_init 67 = .ok (.putfield 32, 3) := by decide +kernel
theorem dX5_init_70 : decode cX5_init 70 = .ok (.aload_n 0, 1) := by decide +kernel
theorem dX5_init_71 : decode cX5_init 71 = .ok (.bipush 40, 2) := by decide +kernel
theorem dX5_init_73 : decode cX5_init 73 = .ok (.newarray .int, 2) := by decide +kernel
theorem dX5_init_75 : decode cX5_init 75 = .ok (.putfield 35, 3) := by decide +kernel
theorem dX5_init_78 : decode cX5_init 78 = .ok (.aload_n 0, 1) := by decide +kernel
theorem dX5_init_79 : decode cX5_init 79 = .ok (.bipush 40, 2) := by decide +kernel
theorem dX5_init_81 : decode cX5_init 81 = .ok (.newarray .int, 2) := by decide +kernel
theorem dX5_init_83 : decode cX5_init 83 = .ok (.putfield 38, 3) := by decide +kernel
theorem dX5_init_86 : decode cX5_init 86 = .ok (.aload_n 0, 1) := by decide +kernel
theorem dX5_init_87 : decode cX5_init 87 = .ok (.bipush 40, 2) := by decide +kernel
theorem dX5_init_89 : decode cX5_init 89 = .ok (.newarray .int, 2) := by decide +kernel
theorem dX5_init_91 : decode cX5_init 91 = .ok (.putfield 41, 3) := by decide +kernel
theorem dX5_init_94 : decode cX5_init 94 = .ok (.aload_n 0, 1) := by decide +kernel
theorem dX5_init_95 : decode cX5_init 95 = .ok (.bipush 40, 2) := by decide +kernel
theorem dX5_init_97 : decode cX5_init 97 = .ok (.newarray .long, 2) := by decide +kernel
theorem dX5_init_99 : decode cX5_init 99 = .ok (.putfield 44, 3) := by decide +kernel
theorem dX5_init_102 : decode cX5_init 102 = .ok (.aload_n 0, 1) := by decide +kernel
theorem dX5_init_103 : decode cX5_init 103 = .ok (.bipush 40, 2) := by decide +kernel
theorem dX5_init_105 : decode cX5_init 105 = .ok (.newarray .int, 2) := by decide +kernel
theorem dX5_init_107 : decode cX5_init 107 = .ok (.putfield 47, 3) := by decide +kernel
theorem dX5_init_110 : decode cX5_init 110 = .ok (.aload_n 0, 1) := by decide +kernel
theorem dX5_init_111 : decode cX5_init 111 = .ok (.bipush 36, 2) := by decide +kernel
theorem dX5_init_113 : decode cX5_init 113 = .ok (.newarray .long, 2) := by decide +kernel
theorem dX5_init_115 : decode cX5_init 115 = .ok (.putfield 50, 3) := by decide +kernel
theorem dX5_init_118 : decode cX5_init 118 = .ok (.aload_n 0, 1) := by decide +kernel
theorem dX5_init_119 : decode cX5_init 119 = .ok (.bipush 36, 2) := by decide +kernel
theorem dX5_init_121 : decode cX5_init 121 = .ok (.newarray .long, 2) := by decide +kernel
theorem dX5_init_123 : decode cX5_init 123 = .ok (.putfield 53, 3) := by decide +kernel
theorem dX5_init_126 : decode cX5_init 126 = .ok (.return_, 1) := by decide +kernel
theorem dX5_thrown_0 : decode cX5_thrown 0 = .ok (.aload_n 0, 1) := by decide +kernel
theorem dX5_thrown_1 : decode cX5_thrown 1 = .ok (.getfield 56, 3) := by decide +kernel
theorem dX5_thrown_4 : decode cX5_thrown 4 = .ok (.ireturn, 1) := by decide +kernel
theorem dX5_isIn_0 : decode cX5_isIn 0 = .ok (.lload_n 0, 1) := by decide +kernel
theorem dX5_isIn_1 : decode cX5_isIn 1 = .ok (.lload_n 2, 1) := by decide +kernel
theorem dX5_isIn_2 : decode cX5_isIn 2 = .ok (.lcmp, 1) := by decide +kernel
theorem dX5_isIn_3 : decode cX5_isIn 3 = .ok (.ifCond .lt 14, 3) := by decide +kernel
theorem dX5_isIn_6 : decode cX5_isIn 6 = .ok (.lload_n 0, 1) := by decide +kernel
theorem dX5_isIn_7 : decode cX5_isIn 7 = .ok (.lload 4, 2) := by decide +kernel
theorem dX5_isIn_9 : decode cX5_isIn 9 = .ok (.lcmp, 1) := by decide +kernel
theorem dX5_isIn_10 : decode cX5_isIn 10 = .ok (.ifCond .gt 7, 3) := by decide +kernel
theorem dX5_isIn_13 : decode cX5_isIn 13 = .ok (.iconst 1, 1) := by decide +kernel
theorem dX5_isIn_14 : decode cX5_isIn 14 = .ok (.goto 4, 3) := by decide +kernel
theorem dX5_isIn_17 : decode cX5_isIn 17 = .ok (.iconst 0, 1) := by decide +kernel
theorem dX5_isIn_18 : decode cX5_isIn 18 = .ok (.ireturn, 1) := by decide +kernel
theorem dX5_rounded_0 : decode cX5_rounded 0 = .ok (.ldc2_w 60, 3) := by decide +kernel
theorem dX5_rounded_3 : decode cX5_rounded 3 = .ok (.lload_n 0, 1) := by decide +kernel
theorem dX5_rounded_4 : decode cX5_rounded 4 = .ok (.lmul, 1) := by decide +kernel
theorem dX5_rounded_5 : decode cX5_rounded 5 = .ok (.lload_n 2, 1) := by decide +kernel
theorem dX5_rounded_6 : decode cX5_rounded 6 = .ok (.ladd, 1) := by decide +kernel
theorem dX5_rounded_7 : decode cX5_rounded 7 = .ok (.ldc2_w 60, 3) := by decide +kernel
theorem dX5_rounded_10 : decode cX5_rounded 10 = .ok (.lload_n 2, 1) := by decide +kernel
theorem dX5_rounded_11 : decode cX5_rounded 11 = .ok (.lmul, 1) := by decide +kernel
theorem dX5_rounded_12 : decode cX5_rounded 12 = .ok (.ldiv, 1) := by decide +kernel
theorem dX5_rounded_13 : decode cX5_rounded 13 = .ok (.lreturn, 1) := by decide +kernel
theorem dX5_isPart_0 : decode cX5_isPart 0 = .ok (.iload_n 1, 1) := by decide +kernel
theorem dX5_isPart_1 : decode cX5_isPart 1 = .ok (.ifCond .lt 15, 3) := by decide +kernel
theorem dX5_isPart_4 : decode cX5_isPart 4 = .ok (.iload_n 1, 1) := by decide +kernel
theorem dX5_isPart_5 : decode cX5_isPart 5 = .ok (.aload_n 0, 1) := by decide +kernel
theorem dX5_isPart_6 : decode cX5_isPart 6 = .ok (.getfield 62, 3) := by decide +kernel
theorem dX5_isPart_9 : decode cX5_isPart 9 = .ok (.if_icmp .ge 7, 3) := by decide +kernel
theorem dX5_isPart_12 : decode cX5_isPart 12 = .ok (.iconst 1, 1) := by decide +kernel
theorem dX5_isPart_13 : decode cX5_isPart 13 = .ok (.goto 4, 3) := by decide +kernel
theorem dX5_isPart_16 : decode cX5_isPart 16 = .ok (.iconst 0, 1) := by decide +kernel
theorem dX5_isPart_17 : decode cX5_isPart 17 = .ok (.ireturn, 1) := by decide +kernel
theorem dX5_isMonth_0 : decode cX5_isMonth 0 = .ok (.iload_n 0, 1) := by decide +kernel
theorem dX5_isMonth_1 : decode cX5_isMonth 1 = .ok (.ifCond .lt 13, 3) := by decide +kernel
theorem dX5_isMonth_4 : decode cX5_isMonth 4 = .ok (.iload_n 0, 1) := by decide +kernel
theorem dX5_isMonth_5 : decode cX5_isMonth 5 = .ok (.bipush 36, 2) := by decide +kernel
theorem dX5_isMonth_7 : decode cX5_isMonth 7 = .ok (.if_icmp .ge 7, 3) := by decide +kernel
theorem dX5_isMonth_10 : decode cX5_isMonth 10 = .ok (.iconst 1, 1) := by decide +kernel
theorem dX5_isMonth_11 : decode cX5_isMonth 11 = .ok (.goto 4, 3) := by decide +kernel
theorem dX5_isMonth_14 : decode cX5_isMonth 14 = .ok (.iconst 0, 1) := by decide +kernel
theorem dX5_isMonth_15 : decode cX5_isMonth 15 = .ok (.ireturn, 1) := by decide +kernel
theorem dX5_book_0 : decode cX5_book 0 = .ok (.aload_n 0, 1) := by decide +kernel
theorem dX5_book_1 : decode cX5_book 1 = .ok (.getfield 65, 3) := by decide +kernel
theorem dX5_book_4 : decode cX5_book 4 = .ok (.aload_n 0, 1) := by decide +kernel
theorem dX5_book_5 : decode cX5_book 5 = .ok (.getfield 69, 3) := by decide +kernel
theorem dX5_book_8 : decode cX5_book 8 = .ok (.lsub, 1) := by decide +kernel
theorem dX5_book_9 : decode cX5_book 9 = .ok (.lreturn, 1) := by decide +kernel
theorem dX5_eventIn_0 : decode cX5_eventIn 0 = .ok (.iconst (-1), 1) := by decide +kernel
theorem dX5_eventIn_1 : decode cX5_eventIn 1 = .ok (.istore_n 3, 1) := by decide +kernel
theorem dX5_eventIn_2 : decode cX5_eventIn 2 = .ok (.iconst 0, 1) := by decide +kernel
theorem dX5_eventIn_3 : decode cX5_eventIn 3 = .ok (.istore 4, 2) := by decide +kernel
theorem dX5_eventIn_5 : decode cX5_eventIn 5 = .ok (.iload 4, 2) := by decide +kernel
theorem dX5_eventIn_7 : decode cX5_eventIn 7 = .ok (.aload_n 0, 1) := by decide +kernel
theorem dX5_eventIn_8 : decode cX5_eventIn 8 = .ok (.getfield 72, 3) := by decide +kernel
theorem dX5_eventIn_11 : decode cX5_eventIn 11 = .ok (.if_icmp .ge 40, 3) := by decide +kernel
theorem dX5_eventIn_14 : decode cX5_eventIn 14 = .ok (.aload_n 0, 1) := by decide +kernel
theorem dX5_eventIn_15 : decode cX5_eventIn 15 = .ok (.getfield 35, 3) := by decide +kernel
theorem dX5_eventIn_18 : decode cX5_eventIn 18 = .ok (.iload 4, 2) := by decide +kernel
theorem dX5_eventIn_20 : decode cX5_eventIn 20 = .ok (.iaload, 1) := by decide +kernel
theorem dX5_eventIn_21 : decode cX5_eventIn 21 = .ok (.iload_n 1, 1) := by decide +kernel
theorem dX5_eventIn_22 : decode cX5_eventIn 22 = .ok (.iconst 1, 1) := by decide +kernel
theorem dX5_eventIn_23 : decode cX5_eventIn 23 = .ok (.iadd, 1) := by decide +kernel
theorem dX5_eventIn_24 : decode cX5_eventIn 24 = .ok (.if_icmp .ne 19, 3) := by decide +kernel
theorem dX5_eventIn_27 : decode cX5_eventIn 27 = .ok (.aload_n 0, 1) := by decide +kernel
theorem dX5_eventIn_28 : decode cX5_eventIn 28 = .ok (.getfield 38, 3) := by decide +kernel
theorem dX5_eventIn_31 : decode cX5_eventIn 31 = .ok (.iload 4, 2) := by decide +kernel
theorem dX5_eventIn_33 : decode cX5_eventIn 33 = .ok (.iaload, 1) := by decide +kernel
theorem dX5_eventIn_34 : decode cX5_eventIn 34 = .ok (.iload_n 2, 1) := by decide +kernel
theorem dX5_eventIn_35 : decode cX5_eventIn 35 = .ok (.if_icmp .ne 8, 3) := by decide +kernel
theorem dX5_eventIn_38 : decode cX5_eventIn 38 = .ok (.iload 4, 2) := by decide +kernel
theorem dX5_eventIn_40 : decode cX5_eventIn 40 = .ok (.goto 4, 3) := by decide +kernel
theorem dX5_eventIn_43 : decode cX5_eventIn 43 = .ok (.iload_n 3, 1) := by decide +kernel
theorem dX5_eventIn_44 : decode cX5_eventIn 44 = .ok (.istore_n 3, 1) := by decide +kernel
theorem dX5_eventIn_45 : decode cX5_eventIn 45 = .ok (.iinc 4 1, 3) := by decide +kernel
theorem dX5_eventIn_48 : decode cX5_eventIn 48 = .ok (.goto (-43), 3) := by decide +kernel
theorem dX5_eventIn_51 : decode cX5_eventIn 51 = .ok (.iload_n 3, 1) := by decide +kernel
theorem dX5_eventIn_52 : decode cX5_eventIn 52 = .ok (.ireturn, 1) := by decide +kernel
set_option maxRecDepth 20000 in
theorem ggX5_stretch_X5_book : GoodIn wsX5_stretch wsX5_book := goodIn_r _ [15, 16, 17, 18, 19, 20, 21, 22, 23, 24, 25, 26, 27, 28, 29, 30, 31, 32, 33, 34, 35, 36, 37, 38, 39, 40, 41, 42, 43, 44, 45, 46, 47, 48, 49, 50, 51, 52, 53, 54] (by decide +kernel) (by decide +kernel)
set_option maxRecDepth 20000 in
theorem gX5_stretch_X5_book : GoodIn wsX5_stretch (wsV RX5 75 RX5 yX5_book wsX5_book) := goodIn_app (goodIn_of _ (by decide +kernel)) ggX5_stretch_X5_book
theorem dX5_stretch_0 : decode cX5_stretch 0 = .ok (.aload_n 0, 1) := by decide +kernel
theorem dX5_stretch_1 : decode cX5_stretch 1 = .ok (.aload_n 0, 1) := by decide +kernel
theorem dX5_stretch_2 : decode cX5_stretch 2 = .ok (.invokevirtual 75, 3) := by decide +kernel
theorem dX5_stretch_5 : decode cX5_stretch 5 = .ok (.aload_n 0, 1) := by decide +kernel
theorem dX5_stretch_6 : decode cX5_stretch 6 = .ok (.getfield 79, 3) := by decide +kernel
theorem dX5_stretch_9 : decode cX5_stretch 9 = .ok (.lcmp, 1) := by decide +kernel
theorem dX5_stretch_10 : decode cX5_stretch 10 = .ok (.ifCond .le 15, 3) := by decide +kernel
theorem dX5_stretch_13 : decode cX5_stretch 13 = .ok (.aload_n 0, 1) := by decide +kernel
theorem dX5_stretch_14 : decode cX5_stretch 14 = .ok (.invokevirtual 75, 3) := by decide +kernel
theorem dX5_stretch_17 : decode cX5_stretch 17 = .ok (.aload_n 0, 1) := by decide +kernel
theorem dX5_stretch_18 : decode cX5_stretch 18 = .ok (.getfield 79, 3) := by decide +kernel
theorem dX5_stretch_21 : decode cX5_stretch 21 = .ok (.lsub, 1) := by decide +kernel
theorem dX5_stretch_22 : decode cX5_stretch 22 = .ok (.goto 4, 3) := by decide +kernel
theorem dX5_stretch_25 : decode cX5_stretch 25 = .ok (.lconst 0, 1) := by decide +kernel
theorem dX5_stretch_26 : decode cX5_stretch 26 = .ok (.putfield 82, 3) := by decide +kernel
theorem dX5_stretch_29 : decode cX5_stretch 29 = .ok (.aload_n 0, 1) := by decide +kernel
theorem dX5_stretch_30 : decode cX5_stretch 30 = .ok (.aload_n 0, 1) := by decide +kernel
theorem dX5_stretch_31 : decode cX5_stretch 31 = .ok (.getfield 85, 3) := by decide +kernel
theorem dX5_stretch_34 : decode cX5_stretch 34 = .ok (.putfield 88, 3) := by decide +kernel
theorem dX5_stretch_37 : decode cX5_stretch 37 = .ok (.aload_n 0, 1) := by decide +kernel
theorem dX5_stretch_38 : decode cX5_stretch 38 = .ok (.aload_n 0, 1) := by decide +kernel
theorem dX5_stretch_39 : decode cX5_stretch 39 = .ok (.getfield 26, 3) := by decide +kernel
theorem dX5_stretch_42 : decode cX5_stretch 42 = .ok (.iload_n 1, 1) := by decide +kernel
theorem dX5_stretch_43 : decode cX5_stretch 43 = .ok (.iaload, 1) := by decide +kernel
theorem dX5_stretch_44 : decode cX5_stretch 44 = .ok (.aload_n 0, 1) := by decide +kernel
theorem dX5_stretch_45 : decode cX5_stretch 45 = .ok (.getfield 91, 3) := by decide +kernel
theorem dX5_stretch_48 : decode cX5_stretch 48 = .ok (.if_icmp .le 17, 3) := by decide +kernel
theorem dX5_stretch_51 : decode cX5_stretch 51 = .ok (.aload_n 0, 1) := by decide +kernel
theorem dX5_stretch_52 : decode cX5_stretch 52 = .ok (.getfield 26, 3) := by decide +kernel
theorem dX5_stretch_55 : decode cX5_stretch 55 = .ok (.iload_n 1, 1) := by decide +kernel
theorem dX5_stretch_56 : decode cX5_stretch 56 = .ok (.iaload, 1) := by decide +kernel
theorem dX5_stretch_57 : decode cX5_stretch 57 = .ok (.aload_n 0, 1) := by decide +kernel
theorem dX5_stretch_58 : decode cX5_stretch 58 = .ok (.getfield 91, 3) := by decide +kernel
theorem dX5_stretch_61 : decode cX5_stretch 61 = .ok (.isub, 1) := by decide +kernel
theorem dX5_stretch_62 : decode cX5_stretch 62 = .ok (.goto 4, 3) := by decide +kernel
theorem dX5_stretch_65 : decode cX5_stretch 65 = .ok (.iconst 0, 1) := by decide +kernel
theorem dX5_stretch_66 : decode cX5_stretch 66 = .ok (.putfield 94, 3) := by decide +kernel
theorem dX5_stretch_69 : decode cX5_stretch 69 = .ok (.aload_n 0, 1) := by decide +kernel
theorem dX5_stretch_70 : decode cX5_stretch 70 = .ok (.iconst 0, 1) := by decide +kernel
theorem dX5_stretch_71 : decode cX5_stretch 71 = .ok (.putfield 97, 3) := by decide +kernel
theorem dX5_stretch_74 : decode cX5_stretch 74 = .ok (.aload_n 0, 1) := by decide +kernel
theorem dX5_stretch_75 : decode cX5_stretch 75 = .ok (.iconst 0, 1) := by decide +kernel
theorem dX5_stretch_76 : decode cX5_stretch 76 = .ok (.putfield 100, 3) := by decide +kernel
theorem dX5_stretch_79 : decode cX5_stretch 79 = .ok (.aload_n 0, 1) := by decide +kernel
theorem dX5_stretch_80 : decode cX5_stretch 80 = .ok (.lconst 0, 1) := by decide +kernel
theorem dX5_stretch_81 : decode cX5_stretch 81 = .ok (.putfield 103, 3) := by decide +kernel
theorem dX5_stretch_84 : decode cX5_stretch 84 = .ok (.return_, 1) := by decide +kernel
theorem dX5_fall_0 : decode cX5_fall 0 = .ok (.lload_n 1, 1) := by decide +kernel
theorem dX5_fall_1 : decode cX5_fall 1 = .ok (.aload_n 0, 1) := by decide +kernel
theorem dX5_fall_2 : decode cX5_fall 2 = .ok (.getfield 106, 3) := by decide +kernel
theorem dX5_fall_5 : decode cX5_fall 5 = .ok (.lcmp, 1) := by decide +kernel
theorem dX5_fall_6 : decode cX5_fall 6 = .ok (.ifCond .ge 7, 3) := by decide +kernel
theorem dX5_fall_9 : decode cX5_fall 9 = .ok (.lload_n 1, 1) := by decide +kernel
theorem dX5_fall_10 : decode cX5_fall 10 = .ok (.goto 7, 3) := by decide +kernel
theorem dX5_fall_13 : decode cX5_fall 13 = .ok (.aload_n 0, 1) := by decide +kernel
theorem dX5_fall_14 : decode cX5_fall 14 = .ok (.getfield 106, 3) := by decide +kernel
theorem dX5_fall_17 : decode cX5_fall 17 = .ok (.lstore_n 3, 1) := by decide +kernel
theorem dX5_fall_18 : decode cX5_fall 18 = .ok (.aload_n 0, 1) := by decide +kernel
theorem dX5_fall_19 : decode cX5_fall 19 = .ok (.aload_n 0, 1) := by decide +kernel
theorem dX5_fall_20 : decode cX5_fall 20 = .ok (.getfield 106, 3) := by decide +kernel
theorem dX5_fall_23 : decode cX5_fall 23 = .ok (.lload_n 3, 1) := by decide +kernel
theorem dX5_fall_24 : decode cX5_fall 24 = .ok (.lsub, 1) := by decide +kernel
theorem dX5_fall_25 : decode cX5_fall 25 = .ok (.putfield 106, 3) := by decide +kernel
theorem dX5_fall_28 : decode cX5_fall 28 = .ok (.aload_n 0, 1) := by decide +kernel
theorem dX5_fall_29 : decode cX5_fall 29 = .ok (.aload_n 0, 1) := by decide +kernel
theorem dX5_fall_30 : decode cX5_fall 30 = .ok (.getfield 109, 3) := by decide +kernel
theorem dX5_fall_33 : decode cX5_fall 33 = .ok (.lload_n 1, 1) := by decide +kernel
theorem dX5_fall_34 : decode cX5_fall 34 = .ok (.ladd, 1) := by decide +kernel
theorem dX5_fall_35 : decode cX5_fall 35 = .ok (.lload_n 3, 1) := by decide +kernel
theorem dX5_fall_36 : decode cX5_fall 36 = .ok (.lsub, 1) := by decide +kernel
theorem dX5_fall_37 : decode cX5_fall 37 = .ok (.putfield 109, 3) := by decide +kernel
theorem dX5_fall_40 : decode cX5_fall 40 = .ok (.return_, 1) := by decide +kernel
set_option maxRecDepth 20000 in
theorem ggX5_impairs_X5_book : GoodIn wsX5_impairs wsX5_book := goodIn_r _ [7, 1, 2, 14, 15, 16, 17, 18, 19, 20, 21, 22, 23, 24, 25, 26, 27, 28, 29, 30, 31, 32, 33, 34, 35, 36, 37, 38, 39, 40, 41, 42, 43, 44, 45, 46, 47, 48, 49, 50] (by decide +kernel) (by decide +kernel)
set_option maxRecDepth 20000 in
theorem gX5_impairs_X5_book : GoodIn wsX5_impairs (wsV RX5 75 RX5 yX5_book wsX5_book) := goodIn_app (goodIn_of _ (by decide +kernel)) ggX5_impairs_X5_book
set_option maxRecDepth 20000 in
theorem ggX5_impairs_X5_fall : GoodIn wsX5_impairs wsX5_fall := goodIn_r _ [11, 12, 13, 14, 15, 16, 17, 18, 19, 20, 21, 22, 23, 24, 25, 26, 27, 28, 29, 30, 31, 32, 33, 34, 35, 36, 37, 38, 39, 40, 41, 42, 43, 44, 45, 46, 47, 48, 49, 50] (by decide +kernel) (by decide +kernel)
set_option maxRecDepth 20000 in
theorem gX5_impairs_X5_fall : GoodIn wsX5_impairs (wsV RX5 112 RX5 yX5_fall wsX5_fall) := goodIn_app (goodIn_of _ (by decide +kernel)) ggX5_impairs_X5_fall
theorem dX5_impairs_0 : decode cX5_impairs 0 = .ok (.lload_n 1, 1) := by decide +kernel
theorem dX5_impairs_1 : decode cX5_impairs 1 = .ok (.aload_n 0, 1) := by decide +kernel
theorem dX5_impairs_2 : decode cX5_impairs 2 = .ok (.invokevirtual 75, 3) := by decide +kernel
theorem dX5_impairs_5 : decode cX5_impairs 5 = .ok (.lcmp, 1) := by decide +kernel
theorem dX5_impairs_6 : decode cX5_impairs 6 = .ok (.ifCond .lt 5, 3) := by decide +kernel
theorem dX5_impairs_9 : decode cX5_impairs 9 = .ok (.iconst 0, 1) := by decide +kernel
theorem dX5_impairs_10 : decode cX5_impairs 10 = .ok (.ireturn, 1) := by decide +kernel
theorem dX5_impairs_11 : decode cX5_impairs 11 = .ok (.aload_n 0, 1) := by decide +kernel
theorem dX5_impairs_12 : decode cX5_impairs 12 = .ok (.aload_n 0, 1) := by decide +kernel
theorem dX5_impairs_13 : decode cX5_impairs 13 = .ok (.invokevirtual 75, 3) := by decide +kernel
theorem dX5_impairs_16 : decode cX5_impairs 16 = .ok (.lload_n 1, 1) := by decide +kernel
theorem dX5_impairs_17 : decode cX5_impairs 17 = .ok (.lsub, 1) := by decide +kernel
theorem dX5_impairs_18 : decode cX5_impairs 18 = .ok (.invokevirtual 112, 3) := by decide +kernel
theorem dX5_impairs_21 : decode cX5_impairs 21 = .ok (.aload_n 0, 1) := by decide +kernel
theorem dX5_impairs_22 : decode cX5_impairs 22 = .ok (.aload_n 0, 1) := by decide +kernel
theorem dX5_impairs_23 : decode cX5_impairs 23 = .ok (.getfield 65, 3) := by decide +kernel
theorem dX5_impairs_26 : decode cX5_impairs 26 = .ok (.lload_n 1, 1) := by decide +kernel
theorem dX5_impairs_27 : decode cX5_impairs 27 = .ok (.lsub, 1) := by decide +kernel
theorem dX5_impairs_28 : decode cX5_impairs 28 = .ok (.putfield 69, 3) := by decide +kernel
theorem dX5_impairs_31 : decode cX5_impairs 31 = .ok (.iconst 1, 1) := by decide +kernel
theorem dX5_impairs_32 : decode cX5_impairs 32 = .ok (.ireturn, 1) := by decide +kernel
set_option maxRecDepth 20000 in
theorem ggX5_restores_X5_book : GoodIn wsX5_restores wsX5_book := goodIn_r _ [10, 11, 3, 12, 13, 14, 15, 16, 17, 18, 19, 20, 21, 22, 23, 24, 25, 26, 27, 28, 29, 30, 31, 32, 33, 34, 35, 36, 37, 38, 39, 40, 41, 42, 43, 44, 45, 46, 47, 48] (by decide +kernel) (by decide +kernel)
set_option maxRecDepth 20000 in
theorem gX5_restores_X5_book : GoodIn wsX5_restores (wsV RX5 75 RX5 yX5_book wsX5_book) := goodIn_app (goodIn_of _ (by decide +kernel)) ggX5_restores_X5_book
theorem dX5_restores_0 : decode cX5_restores 0 = .ok (.lload_n 1, 1) := by decide +kernel
theorem dX5_restores_1 : decode cX5_restores 1 = .ok (.aload_n 0, 1) := by decide +kernel
theorem dX5_restores_2 : decode cX5_restores 2 = .ok (.invokevirtual 75, 3) := by decide +kernel
theorem dX5_restores_5 : decode cX5_restores 5 = .ok (.lsub, 1) := by decide +kernel
theorem dX5_restores_6 : decode cX5_restores 6 = .ok (.lstore 4, 2) := by decide +kernel
theorem dX5_restores_8 : decode cX5_restores 8 = .ok (.aload_n 0, 1) := by decide +kernel
theorem dX5_restores_9 : decode cX5_restores 9 = .ok (.getfield 116, 3) := by decide +kernel
theorem dX5_restores_12 : decode cX5_restores 12 = .ok (.iload_n 3, 1) := by decide +kernel
theorem dX5_restores_13 : decode cX5_restores 13 = .ok (.if_icmp .le 31, 3) := by decide +kernel
theorem dX5_restores_16 : decode cX5_restores 16 = .ok (.lload 4, 2) := by decide +kernel
theorem dX5_restores_18 : decode cX5_restores 18 = .ok (.lconst 0, 1) := by decide +kernel
theorem dX5_restores_19 : decode cX5_restores 19 = .ok (.lcmp, 1) := by decide +kernel
theorem dX5_restores_20 : decode cX5_restores 20 = .ok (.ifCond .le 24, 3) := by decide +kernel
theorem dX5_restores_23 : decode cX5_restores 23 = .ok (.lload_n 1, 1) := by decide +kernel
theorem dX5_restores_24 : decode cX5_restores 24 = .ok (.aload_n 0, 1) := by decide +kernel
theorem dX5_restores_25 : decode cX5_restores 25 = .ok (.getfield 50, 3) := by decide +kernel
theorem dX5_restores_28 : decode cX5_restores 28 = .ok (.iload_n 3, 1) := by decide +kernel
theorem dX5_restores_29 : decode cX5_restores 29 = .ok (.laload, 1) := by decide +kernel
theorem dX5_restores_30 : decode cX5_restores 30 = .ok (.lcmp, 1) := by decide +kernel
theorem dX5_restores_31 : decode cX5_restores 31 = .ok (.ifCond .gt 13, 3) := by decide +kernel
theorem dX5_restores_34 : decode cX5_restores 34 = .ok (.lload 4, 2) := by decide +kernel
theorem dX5_restores_36 : decode cX5_restores 36 = .ok (.aload_n 0, 1) := by decide +kernel
theorem dX5_restores_37 : decode cX5_restores 37 = .ok (.getfield 69, 3) := by decide +kernel
theorem dX5_restores_40 : decode cX5_restores 40 = .ok (.lcmp, 1) := by decide +kernel
theorem dX5_restores_41 : decode cX5_restores 41 = .ok (.ifCond .le 5, 3) := by decide +kernel
theorem dX5_restores_44 : decode cX5_restores 44 = .ok (.iconst 0, 1) := by decide +kernel
theorem dX5_restores_45 : decode cX5_restores 45 = .ok (.ireturn, 1) := by decide +kernel
theorem dX5_restores_46 : decode cX5_restores 46 = .ok (.aload_n 0, 1) := by decide +kernel
theorem dX5_restores_47 : decode cX5_restores 47 = .ok (.aload_n 0, 1) := by decide +kernel
theorem dX5_restores_48 : decode cX5_restores 48 = .ok (.getfield 69, 3) := by decide +kernel
theorem dX5_restores_51 : decode cX5_restores 51 = .ok (.lload 4, 2) := by decide +kernel
theorem dX5_restores_53 : decode cX5_restores 53 = .ok (.lsub, 1) := by decide +kernel
theorem dX5_restores_54 : decode cX5_restores 54 = .ok (.putfield 69, 3) := by decide +kernel
theorem dX5_restores_57 : decode cX5_restores 57 = .ok (.aload_n 0, 1) := by decide +kernel
theorem dX5_restores_58 : decode cX5_restores 58 = .ok (.aload_n 0, 1) := by decide +kernel
theorem dX5_restores_59 : decode cX5_restores 59 = .ok (.getfield 109, 3) := by decide +kernel
theorem dX5_restores_62 : decode cX5_restores 62 = .ok (.lload 4, 2) := by decide +kernel
theorem dX5_restores_64 : decode cX5_restores 64 = .ok (.lcmp, 1) := by decide +kernel
theorem dX5_restores_65 : decode cX5_restores 65 = .ok (.ifCond .le 13, 3) := by decide +kernel
theorem dX5_restores_68 : decode cX5_restores 68 = .ok (.aload_n 0, 1) := by decide +kernel
theorem dX5_restores_69 : decode cX5_restores 69 = .ok (.getfield 109, 3) := by decide +kernel
theorem dX5_restores_72 : decode cX5_restores 72 = .ok (.lload 4, 2) := by decide +kernel
theorem dX5_restores_74 : decode cX5_restores 74 = .ok (.lsub, 1) := by decide +kernel
theorem dX5_restores_75 : decode cX5_restores 75 = .ok (.goto 4, 3) := by decide +kernel
theorem dX5_restores_78 : decode cX5_restores 78 = .ok (.lconst 0, 1) := by decide +kernel
theorem dX5_restores_79 : decode cX5_restores 79 = .ok (.putfield 109, 3) := by decide +kernel
theorem dX5_restores_82 : decode cX5_restores 82 = .ok (.aload_n 0, 1) := by decide +kernel
theorem dX5_restores_83 : decode cX5_restores 83 = .ok (.getfield 79, 3) := by decide +kernel
theorem dX5_restores_86 : decode cX5_restores 86 = .ok (.aload_n 0, 1) := by decide +kernel
theorem dX5_restores_87 : decode cX5_restores 87 = .ok (.invokevirtual 75, 3) := by decide +kernel
theorem dX5_restores_90 : decode cX5_restores 90 = .ok (.lcmp, 1) := by decide +kernel
theorem dX5_restores_91 : decode cX5_restores 91 = .ok (.ifCond .gt 7, 3) := by decide +kernel
theorem dX5_restores_94 : decode cX5_restores 94 = .ok (.iconst 1, 1) := by decide +kernel
theorem dX5_restores_95 : decode cX5_restores 95 = .ok (.goto 4, 3) := by decide +kernel
theorem dX5_restores_98 : decode cX5_restores 98 = .ok (.iconst 0, 1) := by decide +kernel
theorem dX5_restores_99 : decode cX5_restores 99 = .ok (.ireturn, 1) := by decide +kernel
set_option maxRecDepth 20000 in
theorem ggX5_values_X5_book : GoodIn wsX5_values wsX5_book := goodIn_r _ [8, 2, 3, 14, 15, 16, 17, 18, 19, 20, 21, 22, 23, 24, 25, 26, 27, 28, 29, 30, 31, 32, 33, 34, 35, 36, 37, 38, 39, 40, 41, 42, 43, 44, 45, 46, 47, 48, 49, 50] (by decide +kernel) (by decide +kernel)
set_option maxRecDepth 20000 in
theorem gX5_values_X5_book : GoodIn wsX5_values (wsV RX5 75 RX5 yX5_book wsX5_book) := goodIn_app (goodIn_of _ (by decide +kernel)) ggX5_values_X5_book
set_option maxRecDepth 20000 in
theorem ggX5_values_X5_fall : GoodIn wsX5_values wsX5_fall := goodIn_r _ [12, 1, 13, 14, 15, 16, 17, 18, 19, 20, 21, 22, 23, 24, 25, 26, 27, 28, 29, 30, 31, 32, 33, 34, 35, 36, 37, 38, 39, 40, 41, 42, 43, 44, 45, 46, 47, 48, 49, 50] (by decide +kernel) (by decide +kernel)
set_option maxRecDepth 20000 in
theorem gX5_values_X5_fall : GoodIn wsX5_values (wsV RX5 112 RX5 yX5_fall wsX5_fall) := goodIn_app (goodIn_of _ (by decide +kernel)) ggX5_values_X5_fall
theorem dX5_values_0 : decode cX5_values 0 = .ok (.lload_n 1, 1) := by decide +kernel
theorem dX5_values_1 : decode cX5_values 1 = .ok (.aload_n 0, 1) := by decide +kernel
theorem dX5_values_2 : decode cX5_values 2 = .ok (.invokevirtual 75, 3) := by decide +kernel
theorem dX5_values_5 : decode cX5_values 5 = .ok (.lcmp, 1) := by decide +kernel
theorem dX5_values_6 : decode cX5_values 6 = .ok (.ifCond .le 21, 3) := by decide +kernel
theorem dX5_values_9 : decode cX5_values 9 = .ok (.aload_n 0, 1) := by decide +kernel
theorem dX5_values_10 : decode cX5_values 10 = .ok (.aload_n 0, 1) := by decide +kernel
theorem dX5_values_11 : decode cX5_values 11 = .ok (.getfield 106, 3) := by decide +kernel
theorem dX5_values_14 : decode cX5_values 14 = .ok (.lload_n 1, 1) := by decide +kernel
theorem dX5_values_15 : decode cX5_values 15 = .ok (.ladd, 1) := by decide +kernel
theorem dX5_values_16 : decode cX5_values 16 = .ok (.aload_n 0, 1) := by decide +kernel
theorem dX5_values_17 : decode cX5_values 17 = .ok (.invokevirtual 75, 3) := by decide +kernel
theorem dX5_values_20 : decode cX5_values 20 = .ok (.lsub, 1) := by decide +kernel
theorem dX5_values_21 : decode cX5_values 21 = .ok (.putfield 106, 3) := by decide +kernel
theorem dX5_values_24 : decode cX5_values 24 = .ok (.goto 13, 3) := by decide +kernel
theorem dX5_values_27 : decode cX5_values 27 = .ok (.aload_n 0, 1) := by decide +kernel
theorem dX5_values_28 : decode cX5_values 28 = .ok (.aload_n 0, 1) := by decide +kernel
theorem dX5_values_29 : decode cX5_values 29 = .ok (.invokevirtual 75, 3) := by decide +kernel
theorem dX5_values_32 : decode cX5_values 32 = .ok (.lload_n 1, 1) := by decide +kernel
theorem dX5_values_33 : decode cX5_values 33 = .ok (.lsub, 1) := by decide +kernel
theorem dX5_values_34 : decode cX5_values 34 = .ok (.invokevirtual 112, 3) := by decide +kernel
theorem dX5_values_37 : decode cX5_values 37 = .ok (.aload_n 0, 1) := by decide +kernel
theorem dX5_values_38 : decode cX5_values 38 = .ok (.lload_n 1, 1) := by decide +kernel
theorem dX5_values_39 : decode cX5_values 39 = .ok (.putfield 65, 3) := by decide +kernel
theorem dX5_values_42 : decode cX5_values 42 = .ok (.aload_n 0, 1) := by decide +kernel
theorem dX5_values_43 : decode cX5_values 43 = .ok (.lconst 0, 1) := by decide +kernel
theorem dX5_values_44 : decode cX5_values 44 = .ok (.putfield 69, 3) := by decide +kernel
theorem dX5_values_47 : decode cX5_values 47 = .ok (.return_, 1) := by decide +kernel
set_option maxRecDepth 20000 in
theorem ggX5_less_X5_rounded : GoodIn wsX5_less wsX5_rounded := goodIn_r _ [5, 6] (by decide +kernel) (by decide +kernel)
set_option maxRecDepth 20000 in
theorem gX5_less_X5_rounded : GoodIn wsX5_less (va_wsS RX5 121 yX5_rounded wsX5_rounded) := goodIn_app (goodIn_of _ (by decide +kernel)) ggX5_less_X5_rounded
theorem dX5_less_0 : decode cX5_less 0 = .ok (.lload_n 0, 1) := by decide +kernel
theorem dX5_less_1 : decode cX5_less 1 = .ok (.lload_n 0, 1) := by decide +kernel
theorem dX5_less_2 : decode cX5_less 2 = .ok (.iload_n 2, 1) := by decide +kernel
theorem dX5_less_3 : decode cX5_less 3 = .ok (.i2l, 1) := by decide +kernel
theorem dX5_less_4 : decode cX5_less 4 = .ok (.lmul, 1) := by decide +kernel
theorem dX5_less_5 : decode cX5_less 5 = .ok (.ldc2_w 119, 3) := by decide +kernel
theorem dX5_less_8 : decode cX5_less 8 = .ok (.invokestatic 121, 3) := by decide +kernel
theorem dX5_less_11 : decode cX5_less 11 = .ok (.lsub, 1) := by decide +kernel
theorem dX5_less_12 : decode cX5_less 12 = .ok (.lreturn, 1) := by decide +kernel
set_option maxRecDepth 20000 in
theorem ggX5_sells_X5_less : GoodIn wsX5_sells wsX5_less := goodIn_r _ [10, 11, 12, 13, 9, 14, 15] (by decide +kernel) (by decide +kernel)
set_option maxRecDepth 20000 in
theorem gX5_sells_X5_less : GoodIn wsX5_sells (va_wsS RX5 125 yX5_less wsX5_less) := goodIn_app (goodIn_of _ (by decide +kernel)) ggX5_sells_X5_less
theorem dX5_sells_0 : decode cX5_sells 0 = .ok (.aload_n 0, 1) := by decide +kernel
theorem dX5_sells_1 : decode cX5_sells 1 = .ok (.aload_n 0, 1) := by decide +kernel
theorem dX5_sells_2 : decode cX5_sells 2 = .ok (.getfield 65, 3) := by decide +kernel
theorem dX5_sells_5 : decode cX5_sells 5 = .ok (.iload_n 1, 1) := by decide +kernel
theorem dX5_sells_6 : decode cX5_sells 6 = .ok (.invokestatic 125, 3) := by decide +kernel
theorem dX5_sells_9 : decode cX5_sells 9 = .ok (.putfield 65, 3) := by decide +kernel
theorem dX5_sells_12 : decode cX5_sells 12 = .ok (.aload_n 0, 1) := by decide +kernel
theorem dX5_sells_13 : decode cX5_sells 13 = .ok (.aload_n 0, 1) := by decide +kernel
theorem dX5_sells_14 : decode cX5_sells 14 = .ok (.getfield 69, 3) := by decide +kernel
theorem dX5_sells_17 : decode cX5_sells 17 = .ok (.iload_n 1, 1) := by decide +kernel
theorem dX5_sells_18 : decode cX5_sells 18 = .ok (.invokestatic 125, 3) := by decide +kernel
theorem dX5_sells_21 : decode cX5_sells 21 = .ok (.putfield 69, 3) := by decide +kernel
theorem dX5_sells_24 : decode cX5_sells 24 = .ok (.aload_n 0, 1) := by decide +kernel
theorem dX5_sells_25 : decode cX5_sells 25 = .ok (.aload_n 0, 1) := by decide +kernel
theorem dX5_sells_26 : decode cX5_sells 26 = .ok (.getfield 106, 3) := by decide +kernel
theorem dX5_sells_29 : decode cX5_sells 29 = .ok (.iload_n 1, 1) := by decide +kernel
theorem dX5_sells_30 : decode cX5_sells 30 = .ok (.invokestatic 125, 3) := by decide +kernel
theorem dX5_sells_33 : decode cX5_sells 33 = .ok (.putfield 106, 3) := by decide +kernel
theorem dX5_sells_36 : decode cX5_sells 36 = .ok (.aload_n 0, 1) := by decide +kernel
theorem dX5_sells_37 : decode cX5_sells 37 = .ok (.aload_n 0, 1) := by decide +kernel
theorem dX5_sells_38 : decode cX5_sells 38 = .ok (.getfield 79, 3) := by decide +kernel
theorem dX5_sells_41 : decode cX5_sells 41 = .ok (.iload_n 1, 1) := by decide +kernel
theorem dX5_sells_42 : decode cX5_sells 42 = .ok (.invokestatic 125, 3) := by decide +kernel
theorem dX5_sells_45 : decode cX5_sells 45 = .ok (.putfield 79, 3) := by decide +kernel
theorem dX5_sells_48 : decode cX5_sells 48 = .ok (.aload_n 0, 1) := by decide +kernel
theorem dX5_sells_49 : decode cX5_sells 49 = .ok (.iload_n 1, 1) := by decide +kernel
theorem dX5_sells_50 : decode cX5_sells 50 = .ok (.ldc 129, 2) := by decide +kernel
theorem dX5_sells_52 : decode cX5_sells 52 = .ok (.if_icmp .ne 7, 3) := by decide +kernel
theorem dX5_sells_55 : decode cX5_sells 55 = .ok (.iconst 1, 1) := by decide +kernel
theorem dX5_sells_56 : decode cX5_sells 56 = .ok (.goto 4, 3) := by decide +kernel
theorem dX5_sells_59 : decode cX5_sells 59 = .ok (.iconst 0, 1) := by decide +kernel
theorem dX5_sells_60 : decode cX5_sells 60 = .ok (.putfield 130, 3) := by decide +kernel
theorem dX5_sells_63 : decode cX5_sells 63 = .ok (.return_, 1) := by decide +kernel
set_option maxRecDepth 20000 in
theorem ggX5_happens_X5_book : GoodIn wsX5_happens wsX5_book := goodIn_r _ [13, 5, 14, 48, 49, 50, 51, 52, 53, 54, 55, 56, 57, 58, 59, 60, 61, 62, 63, 64, 65, 66, 67, 68, 69, 70, 71, 72, 73, 74, 75, 76, 77, 78, 79, 80, 81, 82, 83, 84] (by decide +kernel) (by decide +kernel)
set_option maxRecDepth 20000 in
theorem gX5_happens_X5_book : GoodIn wsX5_happens (wsV RX5 75 RX5 yX5_book wsX5_book) := goodIn_app (goodIn_of _ (by decide +kernel)) ggX5_happens_X5_book
set_option maxRecDepth 20000 in
theorem ggX5_happens_X5_values : GoodIn wsX5_happens wsX5_values := goodIn_r _ [18, 19, 5, 14, 9, 10, 11, 12, 13, 20, 21, 22, 23, 24, 48, 49, 50, 51, 52, 53, 54, 55, 56, 57, 58, 59, 60, 61, 62, 63, 64, 65, 66, 67, 68, 69, 70, 71, 72, 73, 74, 75, 76, 77, 78, 79, 80, 81, 82, 83, 84] (by decide +kernel) (by decide +kernel)
set_option maxRecDepth 20000 in
theorem gX5_happens_X5_values : GoodIn wsX5_happens (wsV RX5 137 RX5 yX5_values wsX5_values) := goodIn_app (goodIn_of _ (by decide +kernel)) ggX5_happens_X5_values
set_option maxRecDepth 20000 in
theorem ggX5_happens_X5_impairs : GoodIn wsX5_happens wsX5_impairs := goodIn_r _ [28, 5, 14, 9, 10, 11, 12, 13, 20, 21, 22, 23, 19, 24, 48, 49, 50, 51, 52, 53, 54, 55, 56, 57, 58, 59, 60, 61, 62, 63, 64, 65, 66, 67, 68, 69, 70, 71, 72, 73, 74, 75, 76, 77, 78, 79, 80, 81, 82, 83, 84] (by decide +kernel) (by decide +kernel)
set_option maxRecDepth 20000 in
theorem gX5_happens_X5_impairs : GoodIn wsX5_happens (wsV RX5 140 RX5 yX5_impairs wsX5_impairs) := goodIn_app (goodIn_of _ (by decide +kernel)) ggX5_happens_X5_impairs
set_option maxRecDepth 20000 in
theorem ggX5_happens_X5_restores : GoodIn wsX5_happens wsX5_restores := goodIn_r _ [32, 33, 34, 14, 24, 7, 9, 10, 11, 12, 13, 5, 48, 49, 50, 51, 52, 53, 54, 55, 56, 57, 58, 59, 60, 61, 62, 63, 64, 65, 66, 67, 68, 69, 70, 71, 72, 73, 74, 75, 76, 77, 78, 79, 80, 81, 82, 83, 84] (by decide +kernel) (by decide +kernel)
set_option maxRecDepth 20000 in
theorem gX5_happens_X5_restores : GoodIn wsX5_happens (wsV RX5 144 RX5 yX5_restores wsX5_restores) := goodIn_app (goodIn_of _ (by decide +kernel)) ggX5_happens_X5_restores
set_option maxRecDepth 20000 in
theorem ggX5_happens_X5_sells : GoodIn wsX5_happens wsX5_sells := goodIn_r _ [38, 5, 14, 19, 7, 39, 3, 40, 41, 12, 42, 43, 44, 45, 46, 47, 48, 49, 50, 51, 52, 53, 54, 55, 56, 57, 58, 59, 60, 61, 62, 63, 64, 65, 66, 67, 68, 69, 70, 71, 72, 73, 74, 75, 76, 77, 78, 79, 80, 81, 82, 83, 84] (by decide +kernel) (by decide +kernel)
set_option maxRecDepth 20000 in
theorem gX5_happens_X5_sells : GoodIn wsX5_happens (wsV RX5 148 RX5 yX5_sells wsX5_sells) := goodIn_app (goodIn_of _ (by decide +kernel)) ggX5_happens_X5_sells
theorem dX5_happens_0 : decode cX5_happens 0 = .ok (.aload_n 0, 1) := by decide +kernel
theorem dX5_happens_1 : decode cX5_happens 1 = .ok (.getfield 41, 3) := by decide +kernel
theorem dX5_happens_4 : decode cX5_happens 4 = .ok (.iload_n 1, 1) := by decide +kernel
theorem dX5_happens_5 : decode cX5_happens 5 = .ok (.iaload, 1) := by decide +kernel
theorem dX5_happens_6 : decode cX5_happens 6 = .ok (.istore_n 3, 1) := by decide +kernel
theorem dX5_happens_7 : decode cX5_happens 7 = .ok (.aload_n 0, 1) := by decide +kernel
theorem dX5_happens_8 : decode cX5_happens 8 = .ok (.getfield 44, 3) := by decide +kernel
theorem dX5_happens_11 : decode cX5_happens 11 = .ok (.iload_n 1, 1) := by decide +kernel
theorem dX5_happens_12 : decode cX5_happens 12 = .ok (.laload, 1) := by decide +kernel
theorem dX5_happens_13 : decode cX5_happens 13 = .ok (.lstore 4, 2) := by decide +kernel
theorem dX5_happens_15 : decode cX5_happens 15 = .ok (.aload_n 0, 1) := by decide +kernel
theorem dX5_happens_16 : decode cX5_happens 16 = .ok (.getfield 130, 3) := by decide +kernel
theorem dX5_happens_19 : decode cX5_happens 19 = .ok (.ifCond .ne 21, 3) := by decide +kernel
theorem dX5_happens_22 : decode cX5_happens 22 = .ok (.aload_n 0, 1) := by decide +kernel
theorem dX5_happens_23 : decode cX5_happens 23 = .ok (.getfield 134, 3) := by decide +kernel
theorem dX5_happens_26 : decode cX5_happens 26 = .ok (.ifCond .eq 16, 3) := by decide +kernel
theorem dX5_happens_29 : decode cX5_happens 29 = .ok (.iload_n 3, 1) := by decide +kernel
theorem dX5_happens_30 : decode cX5_happens 30 = .ok (.iconst 5, 1) := by decide +kernel
theorem dX5_happens_31 : decode cX5_happens 31 = .ok (.if_icmp .eq 11, 3) := by decide +kernel
theorem dX5_happens_34 : decode cX5_happens 34 = .ok (.iload_n 3, 1) := by decide +kernel
theorem dX5_happens_35 : decode cX5_happens 35 = .ok (.bipush 7, 2) := by decide +kernel
theorem dX5_happens_37 : decode cX5_happens 37 = .ok (.if_icmp .eq 5, 3) := by decide +kernel
theorem dX5_happens_40 : decode cX5_happens 40 = .ok (.iconst 0, 1) := by decide +kernel
theorem dX5_happens_41 : decode cX5_happens 41 = .ok (.ireturn, 1) := by decide +kernel
theorem dX5_happens_42 : decode cX5_happens 42 = .ok (.iload_n 3, 1) := by decide +kernel
theorem dX5_happens_43 : decode cX5_happens 43 = .ok (.tableswitch 153 0 6 #[41, 77, 111, 119, 126, 134, 146], 41) := by decide +kernel
theorem dX5_happens_84 : decode cX5_happens 84 = .ok (.aload_n 0, 1) := by decide +kernel
theorem dX5_happens_85 : decode cX5_happens 85 = .ok (.aload_n 0, 1) := by decide +kernel
theorem dX5_happens_86 : decode cX5_happens 86 = .ok (.getfield 65, 3) := by decide +kernel
theorem dX5_happens_89 : decode cX5_happens 89 = .ok (.lload 4, 2) := by decide +kernel
theorem dX5_happens_91 : decode cX5_happens 91 = .ok (.ladd, 1) := by decide +kernel
theorem dX5_happens_92 : decode cX5_happens 92 = .ok (.putfield 65, 3) := by decide +kernel
theorem dX5_happens_95 : decode cX5_happens 95 = .ok (.aload_n 0, 1) := by decide +kernel
theorem dX5_happens_96 : decode cX5_happens 96 = .ok (.getfield 85, 3) := by decide +kernel
theorem dX5_happens_99 : decode cX5_happens 99 = .ok (.ifCond .le 19, 3) := by decide +kernel
theorem dX5_happens_102 : decode cX5_happens 102 = .ok (.aload_n 0, 1) := by decide +kernel
theorem dX5_happens_103 : decode cX5_happens 103 = .ok (.getfield 79, 3) := by decide +kernel
theorem dX5_happens_106 : decode cX5_happens 106 = .ok (.aload_n 0, 1) := by decide +kernel
theorem dX5_happens_107 : decode cX5_happens 107 = .ok (.invokevirtual 75, 3) := by decide +kernel
theorem dX5_happens_110 : decode cX5_happens 110 = .ok (.lcmp, 1) := by decide +kernel
theorem dX5_happens_111 : decode cX5_happens 111 = .ok (.ifCond .gt 7, 3) := by decide +kernel
theorem dX5_happens_114 : decode cX5_happens 114 = .ok (.iconst 1, 1) := by decide +kernel
theorem dX5_happens_115 : decode cX5_happens 115 = .ok (.goto 4, 3) := by decide +kernel
theorem dX5_happens_118 : decode cX5_happens 118 = .ok (.iconst 0, 1) := by decide +kernel
theorem dX5_happens_119 : decode cX5_happens 119 = .ok (.ireturn, 1) := by decide +kernel
theorem dX5_happens_120 : decode cX5_happens 120 = .ok (.aload_n 0, 1) := by decide +kernel
theorem dX5_happens_121 : decode cX5_happens 121 = .ok (.lload 4, 2) := by decide +kernel
theorem dX5_happens_123 : decode cX5_happens 123 = .ok (.putfield 79, 3) := by decide +kernel
theorem dX5_happens_126 : decode cX5_happens 126 = .ok (.aload_n 0, 1) := by decide +kernel
theorem dX5_happens_127 : decode cX5_happens 127 = .ok (.aload_n 0, 1) := by decide +kernel
theorem dX5_happens_128 : decode cX5_happens 128 = .ok (.getfield 47, 3) := by decide +kernel
theorem dX5_happens_131 : decode cX5_happens 131 = .ok (.iload_n 1, 1) := by decide +kernel
theorem dX5_happens_132 : decode cX5_happens 132 = .ok (.iaload, 1) := by decide +kernel
theorem dX5_happens_133 : decode cX5_happens 133 = .ok (.putfield 85, 3) := by decide +kernel
theorem dX5_happens_136 : decode cX5_happens 136 = .ok (.aload_n 0, 1) := by decide +kernel
theorem dX5_happens_137 : decode cX5_happens 137 = .ok (.getfield 79, 3) := by decide +kernel
theorem dX5_happens_140 : decode cX5_happens 140 = .ok (.aload_n 0, 1) := by decide +kernel
theorem dX5_happens_141 : decode cX5_happens 141 = .ok (.invokevirtual 75, 3) := by decide +kernel
theorem dX5_happens_144 : decode cX5_happens 144 = .ok (.lcmp, 1) := by decide +kernel
theorem dX5_happens_145 : decode cX5_happens 145 = .ok (.ifCond .gt 7, 3) := by decide +kernel
theorem dX5_happens_148 : decode cX5_happens 148 = .ok (.iconst 1, 1) := by decide +kernel
theorem dX5_happens_149 : decode cX5_happens 149 = .ok (.goto 4, 3) := by decide +kernel
theorem dX5_happens_152 : decode cX5_happens 152 = .ok (.iconst 0, 1) := by decide +kernel
theorem dX5_happens_153 : decode cX5_happens 153 = .ok (.ireturn, 1) := by decide +kernel
theorem dX5_happens_154 : decode cX5_happens 154 = .ok (.aload_n 0, 1) := by decide +kernel
theorem dX5_happens_155 : decode cX5_happens 155 = .ok (.lload 4, 2) := by decide +kernel
theorem dX5_happens_157 : decode cX5_happens 157 = .ok (.invokevirtual 137, 3) := by decide +kernel
theorem dX5_happens_160 : decode cX5_happens 160 = .ok (.iconst 1, 1) := by decide +kernel
theorem dX5_happens_161 : decode cX5_happens 161 = .ok (.ireturn, 1) := by decide +kernel
theorem dX5_happens_162 : decode cX5_happens 162 = .ok (.aload_n 0, 1) := by decide +kernel
theorem dX5_happens_163 : decode cX5_happens 163 = .ok (.lload 4, 2) := by decide +kernel
theorem dX5_happens_165 : decode cX5_happens 165 = .ok (.invokevirtual 140, 3) := by decide +kernel
theorem dX5_happens_168 : decode cX5_happens 168 = .ok (.ireturn, 1) := by decide +kernel
theorem dX5_happens_169 : decode cX5_happens 169 = .ok (.aload_n 0, 1) := by decide +kernel
theorem dX5_happens_170 : decode cX5_happens 170 = .ok (.lload 4, 2) := by decide +kernel
theorem dX5_happens_172 : decode cX5_happens 172 = .ok (.iload_n 2, 1) := by decide +kernel
theorem dX5_happens_173 : decode cX5_happens 173 = .ok (.invokevirtual 144, 3) := by decide +kernel
theorem dX5_happens_176 : decode cX5_happens 176 = .ok (.ireturn, 1) := by decide +kernel
theorem dX5_happens_177 : decode cX5_happens 177 = .ok (.aload_n 0, 1) := by decide +kernel
theorem dX5_happens_178 : decode cX5_happens 178 = .ok (.aload_n 0, 1) := by decide +kernel
theorem dX5_happens_179 : decode cX5_happens 179 = .ok (.getfield 47, 3) := by decide +kernel
theorem dX5_happens_182 : decode cX5_happens 182 = .ok (.iload_n 1, 1) := by decide +kernel
theorem dX5_happens_183 : decode cX5_happens 183 = .ok (.iaload, 1) := by decide +kernel
theorem dX5_happens_184 : decode cX5_happens 184 = .ok (.invokevirtual 148, 3) := by decide +kernel
theorem dX5_happens_187 : decode cX5_happens 187 = .ok (.iconst 1, 1) := by decide +kernel
theorem dX5_happens_188 : decode cX5_happens 188 = .ok (.ireturn, 1) := by decide +kernel
theorem dX5_happens_189 : decode cX5_happens 189 = .ok (.aload_n 0, 1) := by decide +kernel
theorem dX5_happens_190 : decode cX5_happens 190 = .ok (.iconst 1, 1) := by decide +kernel
theorem dX5_happens_191 : decode cX5_happens 191 = .ok (.putfield 134, 3) := by decide +kernel
theorem dX5_happens_194 : decode cX5_happens 194 = .ok (.iconst 1, 1) := by decide +kernel
theorem dX5_happens_195 : decode cX5_happens 195 = .ok (.ireturn, 1) := by decide +kernel
theorem dX5_happens_196 : decode cX5_happens 196 = .ok (.aload_n 0, 1) := by decide +kernel
theorem dX5_happens_197 : decode cX5_happens 197 = .ok (.getfield 134, 3) := by decide +kernel
theorem dX5_happens_200 : decode cX5_happens 200 = .ok (.istore 6, 2) := by decide +kernel
theorem dX5_happens_202 : decode cX5_happens 202 = .ok (.aload_n 0, 1) := by decide +kernel
theorem dX5_happens_203 : decode cX5_happens 203 = .ok (.iconst 0, 1) := by decide +kernel
theorem dX5_happens_204 : decode cX5_happens 204 = .ok (.putfield 134, 3) := by decide +kernel
theorem dX5_happens_207 : decode cX5_happens 207 = .ok (.iload 6, 2) := by decide +kernel
theorem dX5_happens_209 : decode cX5_happens 209 = .ok (.ireturn, 1) := by decide +kernel
set_option maxRecDepth 20000 in
theorem ggX5_together_X5_rounded : GoodIn wsX5_together wsX5_rounded := goodIn_r _ [11, 5] (by decide +kernel) (by decide +kernel)
set_option maxRecDepth 20000 in
theorem gX5_together_X5_rounded : GoodIn wsX5_together (va_wsS RX5 121 yX5_rounded wsX5_rounded) := goodIn_app (goodIn_of _ (by decide +kernel)) ggX5_together_X5_rounded
theorem dX5_together_0 : decode cX5_together 0 = .ok (.aload_n 0, 1) := by decide +kernel
theorem dX5_together_1 : decode cX5_together 1 = .ok (.getfield 23, 3) := by decide +kernel
theorem dX5_together_4 : decode cX5_together 4 = .ok (.iload_n 1, 1) := by decide +kernel
theorem dX5_together_5 : decode cX5_together 5 = .ok (.iaload, 1) := by decide +kernel
theorem dX5_together_6 : decode cX5_together 6 = .ok (.ifCond .ne 22, 3) := by decide +kernel
theorem dX5_together_9 : decode cX5_together 9 = .ok (.aload_n 0, 1) := by decide +kernel
theorem dX5_together_10 : decode cX5_together 10 = .ok (.getfield 82, 3) := by decide +kernel
theorem dX5_together_13 : decode cX5_together 13 = .ok (.aload_n 0, 1) := by decide +kernel
theorem dX5_together_14 : decode cX5_together 14 = .ok (.getfield 97, 3) := by decide +kernel
theorem dX5_together_17 : decode cX5_together 17 = .ok (.i2l, 1) := by decide +kernel
theorem dX5_together_18 : decode cX5_together 18 = .ok (.lmul, 1) := by decide +kernel
theorem dX5_together_19 : decode cX5_together 19 = .ok (.aload_n 0, 1) := by decide +kernel
theorem dX5_together_20 : decode cX5_together 20 = .ok (.getfield 88, 3) := by decide +kernel
theorem dX5_together_23 : decode cX5_together 23 = .ok (.i2l, 1) := by decide +kernel
theorem dX5_together_24 : decode cX5_together 24 = .ok (.invokestatic 121, 3) := by decide +kernel
theorem dX5_together_27 : decode cX5_together 27 = .ok (.lreturn, 1) := by decide +kernel
theorem dX5_together_28 : decode cX5_together 28 = .ok (.aload_n 0, 1) := by decide +kernel
theorem dX5_together_29 : decode cX5_together 29 = .ok (.getfield 23, 3) := by decide +kernel
theorem dX5_together_32 : decode cX5_together 32 = .ok (.iload_n 1, 1) := by decide +kernel
theorem dX5_together_33 : decode cX5_together 33 = .ok (.iaload, 1) := by decide +kernel
theorem dX5_together_34 : decode cX5_together 34 = .ok (.iconst 2, 1) := by decide +kernel
theorem dX5_together_35 : decode cX5_together 35 = .ok (.if_icmp .ne 60, 3) := by decide +kernel
theorem dX5_together_38 : decode cX5_together 38 = .ok (.aload_n 0, 1) := by decide +kernel
theorem dX5_together_39 : decode cX5_together 39 = .ok (.getfield 97, 3) := by decide +kernel
theorem dX5_together_42 : decode cX5_together 42 = .ok (.i2l, 1) := by decide +kernel
theorem dX5_together_43 : decode cX5_together 43 = .ok (.aload_n 0, 1) := by decide +kernel
theorem dX5_together_44 : decode cX5_together 44 = .ok (.getfield 88, 3) := by decide +kernel
theorem dX5_together_47 : decode cX5_together 47 = .ok (.i2l, 1) := by decide +kernel
theorem dX5_together_48 : decode cX5_together 48 = .ok (.lmul, 1) := by decide +kernel
theorem dX5_together_49 : decode cX5_together 49 = .ok (.aload_n 0, 1) := by decide +kernel
theorem dX5_together_50 : decode cX5_together 50 = .ok (.getfield 97, 3) := by decide +kernel
theorem dX5_together_53 : decode cX5_together 53 = .ok (.i2l, 1) := by decide +kernel
theorem dX5_together_54 : decode cX5_together 54 = .ok (.aload_n 0, 1) := by decide +kernel
theorem dX5_together_55 : decode cX5_together 55 = .ok (.getfield 97, 3) := by decide +kernel
theorem dX5_together_58 : decode cX5_together 58 = .ok (.iconst 1, 1) := by decide +kernel
theorem dX5_together_59 : decode cX5_together 59 = .ok (.isub, 1) := by decide +kernel
theorem dX5_together_60 : decode cX5_together 60 = .ok (.i2l, 1) := by decide +kernel
theorem dX5_together_61 : decode cX5_together 61 = .ok (.lmul, 1) := by decide +kernel
theorem dX5_together_62 : decode cX5_together 62 = .ok (.ldc2_w 60, 3) := by decide +kernel
theorem dX5_together_65 : decode cX5_together 65 = .ok (.ldiv, 1) := by decide +kernel
theorem dX5_together_66 : decode cX5_together 66 = .ok (.lsub, 1) := by decide +kernel
theorem dX5_together_67 : decode cX5_together 67 = .ok (.lstore_n 2, 1) := by decide +kernel
theorem dX5_together_68 : decode cX5_together 68 = .ok (.aload_n 0, 1) := by decide +kernel
theorem dX5_together_69 : decode cX5_together 69 = .ok (.getfield 82, 3) := by decide +kernel
theorem dX5_together_72 : decode cX5_together 72 = .ok (.lload_n 2, 1) := by decide +kernel
theorem dX5_together_73 : decode cX5_together 73 = .ok (.lmul, 1) := by decide +kernel
theorem dX5_together_74 : decode cX5_together 74 = .ok (.aload_n 0, 1) := by decide +kernel
theorem dX5_together_75 : decode cX5_together 75 = .ok (.getfield 88, 3) := by decide +kernel
theorem dX5_together_78 : decode cX5_together 78 = .ok (.i2l, 1) := by decide +kernel
theorem dX5_together_79 : decode cX5_together 79 = .ok (.aload_n 0, 1) := by decide +kernel
theorem dX5_together_80 : decode cX5_together 80 = .ok (.getfield 88, 3) := by decide +kernel
theorem dX5_together_83 : decode cX5_together 83 = .ok (.iconst 1, 1) := by decide +kernel
theorem dX5_together_84 : decode cX5_together 84 = .ok (.iadd, 1) := by decide +kernel
theorem dX5_together_85 : decode cX5_together 85 = .ok (.i2l, 1) := by decide +kernel
theorem dX5_together_86 : decode cX5_together 86 = .ok (.lmul, 1) := by decide +kernel
theorem dX5_together_87 : decode cX5_together 87 = .ok (.ldc2_w 60, 3) := by decide +kernel
theorem dX5_together_90 : decode cX5_together 90 = .ok (.ldiv, 1) := by decide +kernel
theorem dX5_together_91 : decode cX5_together 91 = .ok (.invokestatic 121, 3) := by decide +kernel
theorem dX5_together_94 : decode cX5_together 94 = .ok (.lreturn, 1) := by decide +kernel
theorem dX5_together_95 : decode cX5_together 95 = .ok (.aload_n 0, 1) := by decide +kernel
theorem dX5_together_96 : decode cX5_together 96 = .ok (.getfield 100, 3) := by decide +kernel
theorem dX5_together_99 : decode cX5_together 99 = .ok (.aload_n 0, 1) := by decide +kernel
theorem dX5_together_100 : decode cX5_together 100 = .ok (.getfield 94, 3) := by decide +kernel
theorem dX5_together_103 : decode cX5_together 103 = .ok (.if_icmp .ge 10, 3) := by decide +kernel
theorem dX5_together_106 : decode cX5_together 106 = .ok (.aload_n 0, 1) := by decide +kernel
theorem dX5_together_107 : decode cX5_together 107 = .ok (.getfield 100, 3) := by decide +kernel
theorem dX5_together_110 : decode cX5_together 110 = .ok (.goto 7, 3) := by decide +kernel
theorem dX5_together_113 : decode cX5_together 113 = .ok (.aload_n 0, 1) := by decide +kernel
theorem dX5_together_114 : decode cX5_together 114 = .ok (.getfield 94, 3) := by decide +kernel
theorem dX5_together_117 : decode cX5_together 117 = .ok (.istore_n 2, 1) := by decide +kernel
theorem dX5_together_118 : decode cX5_together 118 = .ok (.aload_n 0, 1) := by decide +kernel
theorem dX5_together_119 : decode cX5_together 119 = .ok (.getfield 94, 3) := by decide +kernel
theorem dX5_together_122 : decode cX5_together 122 = .ok (.ifCond .ne 10, 3) := by decide +kernel
theorem dX5_together_125 : decode cX5_together 125 = .ok (.aload_n 0, 1) := by decide +kernel
theorem dX5_together_126 : decode cX5_together 126 = .ok (.getfield 82, 3) := by decide +kernel
theorem dX5_together_129 : decode cX5_together 129 = .ok (.goto 18, 3) := by decide +kernel
theorem dX5_together_132 : decode cX5_together 132 = .ok (.aload_n 0, 1) := by decide +kernel
theorem dX5_together_133 : decode cX5_together 133 = .ok (.getfield 82, 3) := by decide +kernel
theorem dX5_together_136 : decode cX5_together 136 = .ok (.iload_n 2, 1) := by decide +kernel
theorem dX5_together_137 : decode cX5_together 137 = .ok (.i2l, 1) := by decide +kernel
theorem dX5_together_138 : decode cX5_together 138 = .ok (.lmul, 1) := by decide +kernel
theorem dX5_together_139 : decode cX5_together 139 = .ok (.aload_n 0, 1) := by decide +kernel
theorem dX5_together_140 : decode cX5_together 140 = .ok (.getfield 94, 3) := by decide +kernel
theorem dX5_together_143 : decode cX5_together 143 = .ok (.i2l, 1) := by decide +kernel
theorem dX5_together_144 : decode cX5_together 144 = .ok (.invokestatic 121, 3) := by decide +kernel
theorem dX5_together_147 : decode cX5_together 147 = .ok (.lreturn, 1) := by decide +kernel
set_option maxRecDepth 20000 in
theorem ggX5_declining_X5_book : GoodIn wsX5_declining wsX5_book := goodIn_r _ [8, 9, 10, 15, 16, 17, 18, 19, 20, 21, 22, 23, 24, 25, 26, 27, 28, 29, 30, 31, 32, 33, 34, 35, 36, 37, 38, 39, 40, 41, 42, 43, 44, 45, 46, 47, 48, 49, 50, 51] (by decide +kernel) (by decide +kernel)
set_option maxRecDepth 20000 in
theorem gX5_declining_X5_book : GoodIn wsX5_declining (wsV RX5 75 RX5 yX5_book wsX5_book) := goodIn_app (goodIn_of _ (by decide +kernel)) ggX5_declining_X5_book
set_option maxRecDepth 20000 in
theorem ggX5_declining_X5_rounded : GoodIn wsX5_declining wsX5_rounded := goodIn_r _ [13, 14] (by decide +kernel) (by decide +kernel)
set_option maxRecDepth 20000 in
theorem gX5_declining_X5_rounded : GoodIn wsX5_declining (va_wsS RX5 121 yX5_rounded wsX5_rounded) := goodIn_app (goodIn_of _ (by decide +kernel)) ggX5_declining_X5_rounded
theorem dX5_declining_0 : decode cX5_declining 0 = .ok (.aload_n 0, 1) := by decide +kernel
theorem dX5_declining_1 : decode cX5_declining 1 = .ok (.invokevirtual 75, 3) := by decide +kernel
theorem dX5_declining_4 : decode cX5_declining 4 = .ok (.aload_n 0, 1) := by decide +kernel
theorem dX5_declining_5 : decode cX5_declining 5 = .ok (.getfield 79, 3) := by decide +kernel
theorem dX5_declining_8 : decode cX5_declining 8 = .ok (.lsub, 1) := by decide +kernel
theorem dX5_declining_9 : decode cX5_declining 9 = .ok (.lstore_n 3, 1) := by decide +kernel
theorem dX5_declining_10 : decode cX5_declining 10 = .ok (.lload_n 3, 1) := by decide +kernel
theorem dX5_declining_11 : decode cX5_declining 11 = .ok (.lconst 0, 1) := by decide +kernel
theorem dX5_declining_12 : decode cX5_declining 12 = .ok (.lcmp, 1) := by decide +kernel
theorem dX5_declining_13 : decode cX5_declining 13 = .ok (.ifCond .gt 5, 3) := by decide +kernel
theorem dX5_declining_16 : decode cX5_declining 16 = .ok (.lconst 0, 1) := by decide +kernel
theorem dX5_declining_17 : decode cX5_declining 17 = .ok (.lreturn, 1) := by decide +kernel
theorem dX5_declining_18 : decode cX5_declining 18 = .ok (.aload_n 0, 1) := by decide +kernel
theorem dX5_declining_19 : decode cX5_declining 19 = .ok (.invokevirtual 75, 3) := by decide +kernel
theorem dX5_declining_22 : decode cX5_declining 22 = .ok (.aload_n 0, 1) := by decide +kernel
theorem dX5_declining_23 : decode cX5_declining 23 = .ok (.getfield 26, 3) := by decide +kernel
theorem dX5_declining_26 : decode cX5_declining 26 = .ok (.iload_n 1, 1) := by decide +kernel
theorem dX5_declining_27 : decode cX5_declining 27 = .ok (.iaload, 1) := by decide +kernel
theorem dX5_declining_28 : decode cX5_declining 28 = .ok (.i2l, 1) := by decide +kernel
theorem dX5_declining_29 : decode cX5_declining 29 = .ok (.lmul, 1) := by decide +kernel
theorem dX5_declining_30 : decode cX5_declining 30 = .ok (.ldc2_w 119, 3) := by decide +kernel
theorem dX5_declining_33 : decode cX5_declining 33 = .ok (.invokestatic 121, 3) := by decide +kernel
theorem dX5_declining_36 : decode cX5_declining 36 = .ok (.lstore 5, 2) := by decide +kernel
theorem dX5_declining_38 : decode cX5_declining 38 = .ok (.lload_n 3, 1) := by decide +kernel
theorem dX5_declining_39 : decode cX5_declining 39 = .ok (.iload_n 2, 1) := by decide +kernel
theorem dX5_declining_40 : decode cX5_declining 40 = .ok (.i2l, 1) := by decide +kernel
theorem dX5_declining_41 : decode cX5_declining 41 = .ok (.invokestatic 121, 3) := by decide +kernel
theorem dX5_declining_44 : decode cX5_declining 44 = .ok (.lstore 7, 2) := by decide +kernel
theorem dX5_declining_46 : decode cX5_declining 46 = .ok (.lload 5, 2) := by decide +kernel
theorem dX5_declining_48 : decode cX5_declining 48 = .ok (.lload 7, 2) := by decide +kernel
theorem dX5_declining_50 : decode cX5_declining 50 = .ok (.lcmp, 1) := by decide +kernel
theorem dX5_declining_51 : decode cX5_declining 51 = .ok (.ifCond .le 8, 3) := by decide +kernel
theorem dX5_declining_54 : decode cX5_declining 54 = .ok (.lload 5, 2) := by decide +kernel
theorem dX5_declining_56 : decode cX5_declining 56 = .ok (.goto 5, 3) := by decide +kernel
theorem dX5_declining_59 : decode cX5_declining 59 = .ok (.lload 7, 2) := by decide +kernel
theorem dX5_declining_61 : decode cX5_declining 61 = .ok (.lstore 9, 2) := by decide +kernel
theorem dX5_declining_63 : decode cX5_declining 63 = .ok (.iload_n 2, 1) := by decide +kernel
theorem dX5_declining_64 : decode cX5_declining 64 = .ok (.iconst 1, 1) := by decide +kernel
theorem dX5_declining_65 : decode cX5_declining 65 = .ok (.if_icmp .eq 10, 3) := by decide +kernel
theorem dX5_declining_68 : decode cX5_declining 68 = .ok (.lload 9, 2) := by decide +kernel
theorem dX5_declining_70 : decode cX5_declining 70 = .ok (.lload_n 3, 1) := by decide +kernel
theorem dX5_declining_71 : decode cX5_declining 71 = .ok (.lcmp, 1) := by decide +kernel
theorem dX5_declining_72 : decode cX5_declining 72 = .ok (.ifCond .le 7, 3) := by decide +kernel
theorem dX5_declining_75 : decode cX5_declining 75 = .ok (.lload_n 3, 1) := by decide +kernel
theorem dX5_declining_76 : decode cX5_declining 76 = .ok (.goto 5, 3) := by decide +kernel
theorem dX5_declining_79 : decode cX5_declining 79 = .ok (.lload 9, 2) := by decide +kernel
theorem dX5_declining_81 : decode cX5_declining 81 = .ok (.lreturn, 1) := by decide +kernel
set_option maxRecDepth 20000 in
theorem ggX5_writeOff_X5_declining : GoodIn wsX5_writeOff wsX5_declining := goodIn_r _ [17, 18, 19, 20, 21, 22, 23, 16, 24, 25, 11, 26, 27, 28, 29, 37, 38, 39, 40, 41, 42, 43, 44, 45, 46, 47, 48, 49, 50, 51, 52, 53, 54, 55, 56, 57, 58, 59, 60, 61, 62, 63, 64, 65, 66, 67, 68, 69, 70, 71, 72, 73] (by decide +kernel) (by decide +kernel)
set_option maxRecDepth 20000 in
theorem gX5_writeOff_X5_declining : GoodIn wsX5_writeOff (wsV RX5 155 RX5 yX5_declining wsX5_declining) := goodIn_app (goodIn_of _ (by decide +kernel)) ggX5_writeOff_X5_declining
set_option maxRecDepth 20000 in
theorem ggX5_writeOff_X5_together : GoodIn wsX5_writeOff wsX5_together := goodIn_r _ [33, 6, 34, 5, 35, 29, 7, 36, 26, 27, 16, 28, 37, 38, 39, 40, 41, 42, 43, 44, 45, 46, 47, 48, 49, 50, 51, 52, 53, 54, 55, 56, 57, 58, 59, 60, 61, 62, 63, 64, 65, 66, 67, 68, 69, 70, 71, 72, 73] (by decide +kernel) (by decide +kernel)
set_option maxRecDepth 20000 in
theorem gX5_writeOff_X5_together : GoodIn wsX5_writeOff (wsV RX5 159 RX5 yX5_together wsX5_together) := goodIn_app (goodIn_of _ (by decide +kernel)) ggX5_writeOff_X5_together
theorem dX5_writeOff_0 : decode cX5_writeOff 0 = .ok (.aload_n 0, 1) := by decide +kernel
theorem dX5_writeOff_1 : decode cX5_writeOff 1 = .ok (.lconst 0, 1) := by decide +kernel
theorem dX5_writeOff_2 : decode cX5_writeOff 2 = .ok (.putfield 152, 3) := by decide +kernel
theorem dX5_writeOff_5 : decode cX5_writeOff 5 = .ok (.aload_n 0, 1) := by decide +kernel
theorem dX5_writeOff_6 : decode cX5_writeOff 6 = .ok (.getfield 134, 3) := by decide +kernel
theorem dX5_writeOff_9 : decode cX5_writeOff 9 = .ok (.ifCond .ne 17, 3) := by decide +kernel
theorem dX5_writeOff_12 : decode cX5_writeOff 12 = .ok (.aload_n 0, 1) := by decide +kernel
theorem dX5_writeOff_13 : decode cX5_writeOff 13 = .ok (.getfield 130, 3) := by decide +kernel
theorem dX5_writeOff_16 : decode cX5_writeOff 16 = .ok (.ifCond .ne 10, 3) := by decide +kernel
theorem dX5_writeOff_19 : decode cX5_writeOff 19 = .ok (.aload_n 0, 1) := by decide +kernel
theorem dX5_writeOff_20 : decode cX5_writeOff 20 = .ok (.getfield 85, 3) := by decide +kernel
theorem dX5_writeOff_23 : decode cX5_writeOff 23 = .ok (.ifCond .ne 4, 3) := by decide +kernel
theorem dX5_writeOff_26 : decode cX5_writeOff 26 = .ok (.return_, 1) := by decide +kernel
theorem dX5_writeOff_27 : decode cX5_writeOff 27 = .ok (.aload_n 0, 1) := by decide +kernel
theorem dX5_writeOff_28 : decode cX5_writeOff 28 = .ok (.aload_n 0, 1) := by decide +kernel
theorem dX5_writeOff_29 : decode cX5_writeOff 29 = .ok (.getfield 85, 3) := by decide +kernel
theorem dX5_writeOff_32 : decode cX5_writeOff 32 = .ok (.iconst 1, 1) := by decide +kernel
theorem dX5_writeOff_33 : decode cX5_writeOff 33 = .ok (.isub, 1) := by decide +kernel
theorem dX5_writeOff_34 : decode cX5_writeOff 34 = .ok (.putfield 85, 3) := by decide +kernel
theorem dX5_writeOff_37 : decode cX5_writeOff 37 = .ok (.aload_n 0, 1) := by decide +kernel
theorem dX5_writeOff_38 : decode cX5_writeOff 38 = .ok (.aload_n 0, 1) := by decide +kernel
theorem dX5_writeOff_39 : decode cX5_writeOff 39 = .ok (.getfield 97, 3) := by decide +kernel
theorem dX5_writeOff_42 : decode cX5_writeOff 42 = .ok (.iconst 1, 1) := by decide +kernel
theorem dX5_writeOff_43 : decode cX5_writeOff 43 = .ok (.iadd, 1) := by decide +kernel
theorem dX5_writeOff_44 : decode cX5_writeOff 44 = .ok (.putfield 97, 3) := by decide +kernel
theorem dX5_writeOff_47 : decode cX5_writeOff 47 = .ok (.aload_n 0, 1) := by decide +kernel
theorem dX5_writeOff_48 : decode cX5_writeOff 48 = .ok (.getfield 23, 3) := by decide +kernel
theorem dX5_writeOff_51 : decode cX5_writeOff 51 = .ok (.iload_n 1, 1) := by decide +kernel
theorem dX5_writeOff_52 : decode cX5_writeOff 52 = .ok (.iaload, 1) := by decide +kernel
theorem dX5_writeOff_53 : decode cX5_writeOff 53 = .ok (.iconst 3, 1) := by decide +kernel
theorem dX5_writeOff_54 : decode cX5_writeOff 54 = .ok (.if_icmp .ne 43, 3) := by decide +kernel
theorem dX5_writeOff_57 : decode cX5_writeOff 57 = .ok (.aload_n 0, 1) := by decide +kernel
theorem dX5_writeOff_58 : decode cX5_writeOff 58 = .ok (.aload_n 0, 1) := by decide +kernel
theorem dX5_writeOff_59 : decode cX5_writeOff 59 = .ok (.getfield 100, 3) := by decide +kernel
theorem dX5_writeOff_62 : decode cX5_writeOff 62 = .ok (.aload_n 0, 1) := by decide +kernel
theorem dX5_writeOff_63 : decode cX5_writeOff 63 = .ok (.getfield 29, 3) := by decide +kernel
theorem dX5_writeOff_66 : decode cX5_writeOff 66 = .ok (.bipush 36, 2) := by decide +kernel
theorem dX5_writeOff_68 : decode cX5_writeOff 68 = .ok (.iload_n 1, 1) := by decide +kernel
theorem dX5_writeOff_69 : decode cX5_writeOff 69 = .ok (.imul, 1) := by decide +kernel
theorem dX5_writeOff_70 : decode cX5_writeOff 70 = .ok (.iload_n 2, 1) := by decide +kernel
theorem dX5_writeOff_71 : decode cX5_writeOff 71 = .ok (.iadd, 1) := by decide +kernel
theorem dX5_writeOff_72 : decode cX5_writeOff 72 = .ok (.iaload, 1) := by decide +kernel
theorem dX5_writeOff_73 : decode cX5_writeOff 73 = .ok (.iadd, 1) := by decide +kernel
theorem dX5_writeOff_74 : decode cX5_writeOff 74 = .ok (.putfield 100, 3) := by decide +kernel
theorem dX5_writeOff_77 : decode cX5_writeOff 77 = .ok (.aload_n 0, 1) := by decide +kernel
theorem dX5_writeOff_78 : decode cX5_writeOff 78 = .ok (.aload_n 0, 1) := by decide +kernel
theorem dX5_writeOff_79 : decode cX5_writeOff 79 = .ok (.getfield 91, 3) := by decide +kernel
theorem dX5_writeOff_82 : decode cX5_writeOff 82 = .ok (.aload_n 0, 1) := by decide +kernel
theorem dX5_writeOff_83 : decode cX5_writeOff 83 = .ok (.getfield 29, 3) := by decide +kernel
theorem dX5_writeOff_86 : decode cX5_writeOff 86 = .ok (.bipush 36, 2) := by decide +kernel
theorem dX5_writeOff_88 : decode cX5_writeOff 88 = .ok (.iload_n 1, 1) := by decide +kernel
theorem dX5_writeOff_89 : decode cX5_writeOff 89 = .ok (.imul, 1) := by decide +kernel
theorem dX5_writeOff_90 : decode cX5_writeOff 90 = .ok (.iload_n 2, 1) := by decide +kernel
theorem dX5_writeOff_91 : decode cX5_writeOff 91 = .ok (.iadd, 1) := by decide +kernel
theorem dX5_writeOff_92 : decode cX5_writeOff 92 = .ok (.iaload, 1) := by decide +kernel
theorem dX5_writeOff_93 : decode cX5_writeOff 93 = .ok (.iadd, 1) := by decide +kernel
theorem dX5_writeOff_94 : decode cX5_writeOff 94 = .ok (.putfield 91, 3) := by decide +kernel
theorem dX5_writeOff_97 : decode cX5_writeOff 97 = .ok (.aload_n 0, 1) := by decide +kernel
theorem dX5_writeOff_98 : decode cX5_writeOff 98 = .ok (.getfield 23, 3) := by decide +kernel
theorem dX5_writeOff_101 : decode cX5_writeOff 101 = .ok (.iload_n 1, 1) := by decide +kernel
theorem dX5_writeOff_102 : decode cX5_writeOff 102 = .ok (.iaload, 1) := by decide +kernel
theorem dX5_writeOff_103 : decode cX5_writeOff 103 = .ok (.iconst 1, 1) := by decide +kernel
theorem dX5_writeOff_104 : decode cX5_writeOff 104 = .ok (.if_icmp .ne 21, 3) := by decide +kernel
theorem dX5_writeOff_107 : decode cX5_writeOff 107 = .ok (.aload_n 0, 1) := by decide +kernel
theorem dX5_writeOff_108 : decode cX5_writeOff 108 = .ok (.aload_n 0, 1) := by decide +kernel
theorem dX5_writeOff_109 : decode cX5_writeOff 109 = .ok (.iload_n 1, 1) := by decide +kernel
theorem dX5_writeOff_110 : decode cX5_writeOff 110 = .ok (.aload_n 0, 1) := by decide +kernel
theorem dX5_writeOff_111 : decode cX5_writeOff 111 = .ok (.getfield 85, 3) := by decide +kernel
theorem dX5_writeOff_114 : decode cX5_writeOff 114 = .ok (.iconst 1, 1) := by decide +kernel
theorem dX5_writeOff_115 : decode cX5_writeOff 115 = .ok (.iadd, 1) := by decide +kernel
theorem dX5_writeOff_116 : decode cX5_writeOff 116 = .ok (.invokevirtual 155, 3) := by decide +kernel
theorem dX5_writeOff_119 : decode cX5_writeOff 119 = .ok (.putfield 152, 3) := by decide +kernel
theorem dX5_writeOff_122 : decode cX5_writeOff 122 = .ok (.goto 24, 3) := by decide +kernel
theorem dX5_writeOff_125 : decode cX5_writeOff 125 = .ok (.aload_n 0, 1) := by decide +kernel
theorem dX5_writeOff_126 : decode cX5_writeOff 126 = .ok (.iload_n 1, 1) := by decide +kernel
theorem dX5_writeOff_127 : decode cX5_writeOff 127 = .ok (.invokevirtual 159, 3) := by decide +kernel
theorem dX5_writeOff_130 : decode cX5_writeOff 130 = .ok (.lstore_n 3, 1) := by decide +kernel
theorem dX5_writeOff_131 : decode cX5_writeOff 131 = .ok (.aload_n 0, 1) := by decide +kernel
theorem dX5_writeOff_132 : decode cX5_writeOff 132 = .ok (.lload_n 3, 1) := by decide +kernel
theorem dX5_writeOff_133 : decode cX5_writeOff 133 = .ok (.aload_n 0, 1) := by decide +kernel
theorem dX5_writeOff_134 : decode cX5_writeOff 134 = .ok (.getfield 103, 3) := by decide +kernel
theorem dX5_writeOff_137 : decode cX5_writeOff 137 = .ok (.lsub, 1) := by decide +kernel
theorem dX5_writeOff_138 : decode cX5_writeOff 138 = .ok (.putfield 152, 3) := by decide +kernel
theorem dX5_writeOff_141 : decode cX5_writeOff 141 = .ok (.aload_n 0, 1) := by decide +kernel
theorem dX5_writeOff_142 : decode cX5_writeOff 142 = .ok (.lload_n 3, 1) := by decide +kernel
theorem dX5_writeOff_143 : decode cX5_writeOff 143 = .ok (.putfield 103, 3) := by decide +kernel
theorem dX5_writeOff_146 : decode cX5_writeOff 146 = .ok (.aload_n 0, 1) := by decide +kernel
theorem dX5_writeOff_147 : decode cX5_writeOff 147 = .ok (.aload_n 0, 1) := by decide +kernel
theorem dX5_writeOff_148 : decode cX5_writeOff 148 = .ok (.getfield 69, 3) := by decide +kernel
theorem dX5_writeOff_151 : decode cX5_writeOff 151 = .ok (.aload_n 0, 1) := by decide +kernel
theorem dX5_writeOff_152 : decode cX5_writeOff 152 = .ok (.getfield 152, 3) := by decide +kernel
theorem dX5_writeOff_155 : decode cX5_writeOff 155 = .ok (.ladd, 1) := by decide +kernel
theorem dX5_writeOff_156 : decode cX5_writeOff 156 = .ok (.putfield 69, 3) := by decide +kernel
theorem dX5_writeOff_159 : decode cX5_writeOff 159 = .ok (.aload_n 0, 1) := by decide +kernel
theorem dX5_writeOff_160 : decode cX5_writeOff 160 = .ok (.aload_n 0, 1) := by decide +kernel
theorem dX5_writeOff_161 : decode cX5_writeOff 161 = .ok (.getfield 163, 3) := by decide +kernel
theorem dX5_writeOff_164 : decode cX5_writeOff 164 = .ok (.aload_n 0, 1) := by decide +kernel
theorem dX5_writeOff_165 : decode cX5_writeOff 165 = .ok (.getfield 152, 3) := by decide +kernel
theorem dX5_writeOff_168 : decode cX5_writeOff 168 = .ok (.ladd, 1) := by decide +kernel
theorem dX5_writeOff_169 : decode cX5_writeOff 169 = .ok (.putfield 163, 3) := by decide +kernel
theorem dX5_writeOff_172 : decode cX5_writeOff 172 = .ok (.return_, 1) := by decide +kernel
theorem dX5_clear_0 : decode cX5_clear 0 = .ok (.aload_n 0, 1) := by decide +kernel
theorem dX5_clear_1 : decode cX5_clear 1 = .ok (.lconst 0, 1) := by decide +kernel
theorem dX5_clear_2 : decode cX5_clear 2 = .ok (.putfield 65, 3) := by decide +kernel
theorem dX5_clear_5 : decode cX5_clear 5 = .ok (.aload_n 0, 1) := by decide +kernel
theorem dX5_clear_6 : decode cX5_clear 6 = .ok (.lconst 0, 1) := by decide +kernel
theorem dX5_clear_7 : decode cX5_clear 7 = .ok (.putfield 69, 3) := by decide +kernel
theorem dX5_clear_10 : decode cX5_clear 10 = .ok (.aload_n 0, 1) := by decide +kernel
theorem dX5_clear_11 : decode cX5_clear 11 = .ok (.lconst 0, 1) := by decide +kernel
theorem dX5_clear_12 : decode cX5_clear 12 = .ok (.putfield 106, 3) := by decide +kernel
theorem dX5_clear_15 : decode cX5_clear 15 = .ok (.aload_n 0, 1) := by decide +kernel
theorem dX5_clear_16 : decode cX5_clear 16 = .ok (.lconst 0, 1) := by decide +kernel
theorem dX5_clear_17 : decode cX5_clear 17 = .ok (.putfield 109, 3) := by decide +kernel
theorem dX5_clear_20 : decode cX5_clear 20 = .ok (.aload_n 0, 1) := by decide +kernel
theorem dX5_clear_21 : decode cX5_clear 21 = .ok (.lconst 0, 1) := by decide +kernel
theorem dX5_clear_22 : decode cX5_clear 22 = .ok (.putfield 79, 3) := by decide +kernel
theorem dX5_clear_25 : decode cX5_clear 25 = .ok (.aload_n 0, 1) := by decide +kernel
theorem dX5_clear_26 : decode cX5_clear 26 = .ok (.iconst 0, 1) := by decide +kernel
theorem dX5_clear_27 : decode cX5_clear 27 = .ok (.putfield 85, 3) := by decide +kernel
theorem dX5_clear_30 : decode cX5_clear 30 = .ok (.aload_n 0, 1) := by decide +kernel
theorem dX5_clear_31 : decode cX5_clear 31 = .ok (.iconst 0, 1) := by decide +kernel
theorem dX5_clear_32 : decode cX5_clear 32 = .ok (.putfield 134, 3) := by decide +kernel
theorem dX5_clear_35 : decode cX5_clear 35 = .ok (.aload_n 0, 1) := by decide +kernel
theorem dX5_clear_36 : decode cX5_clear 36 = .ok (.iconst 0, 1) := by decide +kernel
theorem dX5_clear_37 : decode cX5_clear 37 = .ok (.putfield 130, 3) := by decide +kernel
theorem dX5_clear_40 : decode cX5_clear 40 = .ok (.aload_n 0, 1) := by decide +kernel
theorem dX5_clear_41 : decode cX5_clear 41 = .ok (.iconst 0, 1) := by decide +kernel
theorem dX5_clear_42 : decode cX5_clear 42 = .ok (.putfield 91, 3) := by decide +kernel
theorem dX5_clear_45 : decode cX5_clear 45 = .ok (.aload_n 0, 1) := by decide +kernel
theorem dX5_clear_46 : decode cX5_clear 46 = .ok (.lconst 0, 1) := by decide +kernel
theorem dX5_clear_47 : decode cX5_clear 47 = .ok (.putfield 152, 3) := by decide +kernel
theorem dX5_clear_50 : decode cX5_clear 50 = .ok (.aload_n 0, 1) := by decide +kernel
theorem dX5_clear_51 : decode cX5_clear 51 = .ok (.lconst 0, 1) := by decide +kernel
theorem dX5_clear_52 : decode cX5_clear 52 = .ok (.putfield 163, 3) := by decide +kernel
theorem dX5_clear_55 : decode cX5_clear 55 = .ok (.return_, 1) := by decide +kernel
set_option maxRecDepth 20000 in
theorem ggX5_go_X5_clear : GoodIn wsX5_go wsX5_clear := goodIn_r _ [15, 3, 16, 17, 18, 5, 7, 19, 20, 21, 22, 23, 96, 97, 98, 99, 100, 101, 102, 103, 104, 105, 106, 107, 108, 109, 110, 111, 112, 113, 114, 115, 116, 117, 118, 119, 120, 121, 122, 123, 124, 125, 126, 127, 128, 129, 130, 131, 132] (by decide +kernel) (by decide +kernel)
set_option maxRecDepth 20000 in
theorem gX5_go_X5_clear : GoodIn wsX5_go (wsV RX5 166 RX5 yX5_clear wsX5_clear) := goodIn_app (goodIn_of _ (by decide +kernel)) ggX5_go_X5_clear
set_option maxRecDepth 20000 in
theorem ggX5_go_X5_stretch : GoodIn wsX5_go wsX5_stretch := goodIn_r _ [27, 5, 28, 7, 29, 30, 21, 31, 32, 33, 34, 35, 36, 37, 14, 38, 3, 16, 96, 97, 98, 99, 100, 101, 102, 103, 104, 105, 106, 107, 108, 109, 110, 111, 112, 113, 114, 115, 116, 117, 118, 119, 120, 121, 122, 123, 124, 125, 126, 127, 128, 129, 130, 131, 132] (by decide +kernel) (by decide +kernel)
set_option maxRecDepth 20000 in
theorem gX5_go_X5_stretch : GoodIn wsX5_go (wsV RX5 169 RX5 yX5_stretch wsX5_stretch) := goodIn_app (goodIn_of _ (by decide +kernel)) ggX5_go_X5_stretch
set_option maxRecDepth 20000 in
theorem ggX5_go_X5_eventIn : GoodIn wsX5_go wsX5_eventIn := goodIn_r _ [42, 43, 44, 45, 96, 97, 98, 99, 100, 101, 102, 103, 104, 105, 106, 107, 108, 109, 110, 111, 112, 113, 114, 115, 116, 117, 118, 119, 120, 121, 122, 123, 124, 125, 126, 127, 128, 129, 130, 131, 132] (by decide +kernel) (by decide +kernel)
set_option maxRecDepth 20000 in
theorem gX5_go_X5_eventIn : GoodIn wsX5_go (wsV RX5 172 RX5 yX5_eventIn wsX5_eventIn) := goodIn_app (goodIn_of _ (by decide +kernel)) ggX5_go_X5_eventIn
set_option maxRecDepth 20000 in
theorem ggX5_go_X5_happens : GoodIn wsX5_go wsX5_happens := goodIn_r _ [49, 8, 50, 20, 19, 3, 7, 5, 51, 35, 36, 37, 14, 38, 16, 52, 53, 54, 55, 17, 56, 57, 58, 59, 18, 60, 61, 62, 63, 64, 65, 66, 67, 68, 9, 69, 70, 71, 72, 73, 74, 75, 76, 77, 78, 79, 80, 81, 96, 97, 98, 99, 100, 101, 102, 103, 104, 105, 106, 107, 108, 109, 110, 111, 112, 113, 114, 115, 116, 117, 118, 119, 120, 121, 122, 123, 124, 125, 126, 127, 128, 129, 130, 131, 132] (by decide +kernel) (by decide +kernel)
set_option maxRecDepth 20000 in
theorem gX5_go_X5_happens : GoodIn wsX5_go (wsV RX5 176 RX5 yX5_happens wsX5_happens) := goodIn_app (goodIn_of _ (by decide +kernel)) ggX5_go_X5_happens
set_option maxRecDepth 20000 in
theorem ggX5_go_X5_book : GoodIn wsX5_go wsX5_book := goodIn_r _ [38, 3, 16, 96, 97, 98, 99, 100, 101, 102, 103, 104, 105, 106, 107, 108, 109, 110, 111, 112, 113, 114, 115, 116, 117, 118, 119, 120, 121, 122, 123, 124, 125, 126, 127, 128, 129, 130, 131, 132] (by decide +kernel) (by decide +kernel)
set_option maxRecDepth 20000 in
theorem gX5_go_X5_book : GoodIn wsX5_go (wsV RX5 75 RX5 yX5_book wsX5_book) := goodIn_app (goodIn_of _ (by decide +kernel)) ggX5_go_X5_book
set_option maxRecDepth 20000 in
theorem ggX5_go_X5_writeOff : GoodIn wsX5_go wsX5_writeOff := goodIn_r _ [85, 22, 19, 20, 7, 32, 86, 33, 87, 21, 34, 16, 23, 88, 89, 90, 14, 91, 5, 30, 77, 35, 36, 37, 38, 3, 78, 79, 80, 81, 92, 93, 94, 95, 28, 29, 31, 96, 97, 98, 99, 100, 101, 102, 103, 104, 105, 106, 107, 108, 109, 110, 111, 112, 113, 114, 115, 116, 117, 118, 119, 120, 121, 122, 123, 124, 125, 126, 127, 128, 129, 130, 131, 132] (by decide +kernel) (by decide +kernel)
set_option maxRecDepth 20000 in
theorem gX5_go_X5_writeOff : GoodIn wsX5_go (wsV RX5 180 RX5 yX5_writeOff wsX5_writeOff) := goodIn_app (goodIn_of _ (by decide +kernel)) ggX5_go_X5_writeOff
theorem dX5_go_0 : decode cX5_go 0 = .ok (.aload_n 0, 1) := by decide +kernel
theorem dX5_go_1 : decode cX5_go 1 = .ok (.invokevirtual 166, 3) := by decide +kernel
theorem dX5_go_4 : decode cX5_go 4 = .ok (.aload_n 0, 1) := by decide +kernel
theorem dX5_go_5 : decode cX5_go 5 = .ok (.getfield 16, 3) := by decide +kernel
theorem dX5_go_8 : decode cX5_go 8 = .ok (.iload_n 1, 1) := by decide +kernel
theorem dX5_go_9 : decode cX5_go 9 = .ok (.iaload, 1) := by decide +kernel
theorem dX5_go_10 : decode cX5_go 10 = .ok (.istore 4, 2) := by decide +kernel
theorem dX5_go_12 : decode cX5_go 12 = .ok (.iload 4, 2) := by decide +kernel
theorem dX5_go_14 : decode cX5_go 14 = .ok (.iload_n 2, 1) := by decide +kernel
theorem dX5_go_15 : decode cX5_go 15 = .ok (.if_icmp .gt 180, 3) := by decide +kernel
theorem dX5_go_18 : decode cX5_go 18 = .ok (.iload 4, 2) := by decide +kernel
theorem dX5_go_20 : decode cX5_go 20 = .ok (.aload_n 0, 1) := by decide +kernel
theorem dX5_go_21 : decode cX5_go 21 = .ok (.getfield 16, 3) := by decide +kernel
theorem dX5_go_24 : decode cX5_go 24 = .ok (.iload_n 1, 1) := by decide +kernel
theorem dX5_go_25 : decode cX5_go 25 = .ok (.iaload, 1) := by decide +kernel
theorem dX5_go_26 : decode cX5_go 26 = .ok (.if_icmp .ne 38, 3) := by decide +kernel
theorem dX5_go_29 : decode cX5_go 29 = .ok (.aload_n 0, 1) := by decide +kernel
theorem dX5_go_30 : decode cX5_go 30 = .ok (.aload_n 0, 1) := by decide +kernel
theorem dX5_go_31 : decode cX5_go 31 = .ok (.getfield 7, 3) := by decide +kernel
theorem dX5_go_34 : decode cX5_go 34 = .ok (.iload_n 1, 1) := by decide +kernel
theorem dX5_go_35 : decode cX5_go 35 = .ok (.laload, 1) := by decide +kernel
theorem dX5_go_36 : decode cX5_go 36 = .ok (.putfield 65, 3) := by decide +kernel
theorem dX5_go_39 : decode cX5_go 39 = .ok (.aload_n 0, 1) := by decide +kernel
theorem dX5_go_40 : decode cX5_go 40 = .ok (.aload_n 0, 1) := by decide +kernel
theorem dX5_go_41 : decode cX5_go 41 = .ok (.getfield 13, 3) := by decide +kernel
theorem dX5_go_44 : decode cX5_go 44 = .ok (.iload_n 1, 1) := by decide +kernel
theorem dX5_go_45 : decode cX5_go 45 = .ok (.laload, 1) := by decide +kernel
theorem dX5_go_46 : decode cX5_go 46 = .ok (.putfield 79, 3) := by decide +kernel
theorem dX5_go_49 : decode cX5_go 49 = .ok (.aload_n 0, 1) := by decide +kernel
theorem dX5_go_50 : decode cX5_go 50 = .ok (.aload_n 0, 1) := by decide +kernel
theorem dX5_go_51 : decode cX5_go 51 = .ok (.getfield 20, 3) := by decide +kernel
theorem dX5_go_54 : decode cX5_go 54 = .ok (.iload_n 1, 1) := by decide +kernel
theorem dX5_go_55 : decode cX5_go 55 = .ok (.iaload, 1) := by decide +kernel
theorem dX5_go_56 : decode cX5_go 56 = .ok (.putfield 85, 3) := by decide +kernel
theorem dX5_go_59 : decode cX5_go 59 = .ok (.aload_n 0, 1) := by decide +kernel
theorem dX5_go_60 : decode cX5_go 60 = .ok (.iload_n 1, 1) := by decide +kernel
theorem dX5_go_61 : decode cX5_go 61 = .ok (.invokevirtual 169, 3) := by decide +kernel
theorem dX5_go_64 : decode cX5_go 64 = .ok (.aload_n 0, 1) := by decide +kernel
theorem dX5_go_65 : decode cX5_go 65 = .ok (.iload_n 1, 1) := by decide +kernel
theorem dX5_go_66 : decode cX5_go 66 = .ok (.iload 4, 2) := by decide +kernel
theorem dX5_go_68 : decode cX5_go 68 = .ok (.invokevirtual 172, 3) := by decide +kernel
theorem dX5_go_71 : decode cX5_go 71 = .ok (.istore 5, 2) := by decide +kernel
theorem dX5_go_73 : decode cX5_go 73 = .ok (.iload 5, 2) := by decide +kernel
theorem dX5_go_75 : decode cX5_go 75 = .ok (.ifCond .lt 29, 3) := by decide +kernel
theorem dX5_go_78 : decode cX5_go 78 = .ok (.iload_n 3, 1) := by decide +kernel
theorem dX5_go_79 : decode cX5_go 79 = .ok (.ifCond .eq 29, 3) := by decide +kernel
theorem dX5_go_82 : decode cX5_go 82 = .ok (.aload_n 0, 1) := by decide +kernel
theorem dX5_go_83 : decode cX5_go 83 = .ok (.getfield 41, 3) := by decide +kernel
theorem dX5_go_86 : decode cX5_go 86 = .ok (.iload 5, 2) := by decide +kernel
theorem dX5_go_88 : decode cX5_go 88 = .ok (.iaload, 1) := by decide +kernel
theorem dX5_go_89 : decode cX5_go 89 = .ok (.iconst 3, 1) := by decide +kernel
theorem dX5_go_90 : decode cX5_go 90 = .ok (.if_icmp .eq 14, 3) := by decide +kernel
theorem dX5_go_93 : decode cX5_go 93 = .ok (.aload_n 0, 1) := by decide +kernel
theorem dX5_go_94 : decode cX5_go 94 = .ok (.getfield 41, 3) := by decide +kernel
theorem dX5_go_97 : decode cX5_go 97 = .ok (.iload 5, 2) := by decide +kernel
theorem dX5_go_99 : decode cX5_go 99 = .ok (.iaload, 1) := by decide +kernel
theorem dX5_go_100 : decode cX5_go 100 = .ok (.iconst 4, 1) := by decide +kernel
theorem dX5_go_101 : decode cX5_go 101 = .ok (.if_icmp .ne 7, 3) := by decide +kernel
theorem dX5_go_104 : decode cX5_go 104 = .ok (.iconst 1, 1) := by decide +kernel
theorem dX5_go_105 : decode cX5_go 105 = .ok (.goto 4, 3) := by decide +kernel
theorem dX5_go_108 : decode cX5_go 108 = .ok (.iconst 0, 1) := by decide +kernel
theorem dX5_go_109 : decode cX5_go 109 = .ok (.istore 6, 2) := by decide +kernel
theorem dX5_go_111 : decode cX5_go 111 = .ok (.iload 6, 2) := by decide +kernel
theorem dX5_go_113 : decode cX5_go 113 = .ok (.ifCond .ne 17, 3) := by decide +kernel
theorem dX5_go_116 : decode cX5_go 116 = .ok (.aload_n 0, 1) := by decide +kernel
theorem dX5_go_117 : decode cX5_go 117 = .ok (.iload 5, 2) := by decide +kernel
theorem dX5_go_119 : decode cX5_go 119 = .ok (.iload 4, 2) := by decide +kernel
theorem dX5_go_121 : decode cX5_go 121 = .ok (.invokevirtual 176, 3) := by decide +kernel
theorem dX5_go_124 : decode cX5_go 124 = .ok (.ifCond .ne 6, 3) := by decide +kernel
theorem dX5_go_127 : decode cX5_go 127 = .ok (.iload 4, 2) := by decide +kernel
theorem dX5_go_129 : decode cX5_go 129 = .ok (.ireturn, 1) := by decide +kernel
theorem dX5_go_130 : decode cX5_go 130 = .ok (.iload 6, 2) := by decide +kernel
theorem dX5_go_132 : decode cX5_go 132 = .ok (.ifCond .ne 20, 3) := by decide +kernel
theorem dX5_go_135 : decode cX5_go 135 = .ok (.aload_n 0, 1) := by decide +kernel
theorem dX5_go_136 : decode cX5_go 136 = .ok (.getfield 41, 3) := by decide +kernel
theorem dX5_go_139 : decode cX5_go 139 = .ok (.iload 5, 2) := by decide +kernel
theorem dX5_go_141 : decode cX5_go 141 = .ok (.iaload, 1) := by decide +kernel
theorem dX5_go_142 : decode cX5_go 142 = .ok (.bipush 6, 2) := by decide +kernel
theorem dX5_go_144 : decode cX5_go 144 = .ok (.if_icmp .ge 8, 3) := by decide +kernel
theorem dX5_go_147 : decode cX5_go 147 = .ok (.aload_n 0, 1) := by decide +kernel
theorem dX5_go_148 : decode cX5_go 148 = .ok (.iload_n 1, 1) := by decide +kernel
theorem dX5_go_149 : decode cX5_go 149 = .ok (.invokevirtual 169, 3) := by decide +kernel
theorem dX5_go_152 : decode cX5_go 152 = .ok (.iload_n 3, 1) := by decide +kernel
theorem dX5_go_153 : decode cX5_go 153 = .ok (.ifCond .eq 14, 3) := by decide +kernel
theorem dX5_go_156 : decode cX5_go 156 = .ok (.aload_n 0, 1) := by decide +kernel
theorem dX5_go_157 : decode cX5_go 157 = .ok (.getfield 50, 3) := by decide +kernel
theorem dX5_go_160 : decode cX5_go 160 = .ok (.iload 4, 2) := by decide +kernel
theorem dX5_go_162 : decode cX5_go 162 = .ok (.aload_n 0, 1) := by decide +kernel
theorem dX5_go_163 : decode cX5_go 163 = .ok (.invokevirtual 75, 3) := by decide +kernel
theorem dX5_go_166 : decode cX5_go 166 = .ok (.lastore, 1) := by decide +kernel
theorem dX5_go_167 : decode cX5_go 167 = .ok (.aload_n 0, 1) := by decide +kernel
theorem dX5_go_168 : decode cX5_go 168 = .ok (.iload_n 1, 1) := by decide +kernel
theorem dX5_go_169 : decode cX5_go 169 = .ok (.iload 4, 2) := by decide +kernel
theorem dX5_go_171 : decode cX5_go 171 = .ok (.invokevirtual 180, 3) := by decide +kernel
theorem dX5_go_174 : decode cX5_go 174 = .ok (.iload_n 3, 1) := by decide +kernel
theorem dX5_go_175 : decode cX5_go 175 = .ok (.ifCond .eq 14, 3) := by decide +kernel
theorem dX5_go_178 : decode cX5_go 178 = .ok (.aload_n 0, 1) := by decide +kernel
theorem dX5_go_179 : decode cX5_go 179 = .ok (.getfield 53, 3) := by decide +kernel
theorem dX5_go_182 : decode cX5_go 182 = .ok (.iload 4, 2) := by decide +kernel
theorem dX5_go_184 : decode cX5_go 184 = .ok (.aload_n 0, 1) := by decide +kernel
theorem dX5_go_185 : decode cX5_go 185 = .ok (.invokevirtual 75, 3) := by decide +kernel
theorem dX5_go_188 : decode cX5_go 188 = .ok (.lastore, 1) := by decide +kernel
theorem dX5_go_189 : decode cX5_go 189 = .ok (.iinc 4 1, 3) := by decide +kernel
theorem dX5_go_192 : decode cX5_go 192 = .ok (.goto (-180), 3) := by decide +kernel
theorem dX5_go_195 : decode cX5_go 195 = .ok (.bipush 36, 2) := by decide +kernel
theorem dX5_go_197 : decode cX5_go 197 = .ok (.ireturn, 1) := by decide +kernel
set_option maxRecDepth 20000 in
theorem ggX5_reckon_X5_go : GoodIn wsX5_reckon wsX5_go := goodIn_r _ [6, 7, 8, 9, 10, 11, 12, 13, 14, 15, 16, 17, 18, 19, 5, 20, 21, 22, 23, 24, 25, 26, 27, 28, 29, 30, 31, 32, 33, 34, 35, 36, 37, 38, 39, 40, 41, 42, 43, 44, 45, 46, 47, 48, 49, 50, 51, 52, 53, 54, 55, 56, 57, 58, 59, 60, 61, 62, 63, 64, 65, 66, 67, 68, 69, 70, 71, 72, 1, 73, 74, 75, 76, 77, 78, 79, 80, 81, 82, 83, 84, 85, 86, 87, 88, 89, 90, 91, 92, 93, 94, 95, 96, 97, 98, 99, 100, 101, 102, 103, 104, 105, 106, 107, 108, 109, 110, 111, 112, 113, 114, 115, 116, 117, 118, 119, 120, 121, 122, 123, 124, 125, 126, 127, 128, 129, 130, 131, 132, 133, 134, 135, 136] (by decide +kernel) (by decide +kernel)
set_option maxRecDepth 20000 in
theorem gX5_reckon_X5_go : GoodIn wsX5_reckon (wsV RX5 184 RX5 yX5_go wsX5_go) := goodIn_app (goodIn_of _ (by decide +kernel)) ggX5_reckon_X5_go
theorem dX5_reckon_0 : decode cX5_reckon 0 = .ok (.aload_n 0, 1) := by decide +kernel
theorem dX5_reckon_1 : decode cX5_reckon 1 = .ok (.aload_n 0, 1) := by decide +kernel
theorem dX5_reckon_2 : decode cX5_reckon 2 = .ok (.iload_n 1, 1) := by decide +kernel
theorem dX5_reckon_3 : decode cX5_reckon 3 = .ok (.bipush 35, 2) := by decide +kernel
theorem dX5_reckon_5 : decode cX5_reckon 5 = .ok (.iconst 1, 1) := by decide +kernel
theorem dX5_reckon_6 : decode cX5_reckon 6 = .ok (.invokevirtual 184, 3) := by decide +kernel
theorem dX5_reckon_9 : decode cX5_reckon 9 = .ok (.putfield 116, 3) := by decide +kernel
theorem dX5_reckon_12 : decode cX5_reckon 12 = .ok (.aload_n 0, 1) := by decide +kernel
theorem dX5_reckon_13 : decode cX5_reckon 13 = .ok (.iload_n 1, 1) := by decide +kernel
theorem dX5_reckon_14 : decode cX5_reckon 14 = .ok (.iload_n 2, 1) := by decide +kernel
theorem dX5_reckon_15 : decode cX5_reckon 15 = .ok (.iconst 0, 1) := by decide +kernel
theorem dX5_reckon_16 : decode cX5_reckon 16 = .ok (.invokevirtual 184, 3) := by decide +kernel
theorem dX5_reckon_19 : decode cX5_reckon 19 = .ok (.bipush 36, 2) := by decide +kernel
theorem dX5_reckon_21 : decode cX5_reckon 21 = .ok (.if_icmp .ne 7, 3) := by decide +kernel
theorem dX5_reckon_24 : decode cX5_reckon 24 = .ok (.iconst 1, 1) := by decide +kernel
theorem dX5_reckon_25 : decode cX5_reckon 25 = .ok (.goto 4, 3) := by decide +kernel
theorem dX5_reckon_28 : decode cX5_reckon 28 = .ok (.iconst 0, 1) := by decide +kernel
theorem dX5_reckon_29 : decode cX5_reckon 29 = .ok (.ireturn, 1) := by decide +kernel
set_option maxRecDepth 20000 in
theorem ggX5_part_X5_isIn : GoodIn wsX5_part wsX5_isIn := goodIn_r _ [16] (by decide +kernel) (by decide +kernel)
set_option maxRecDepth 20000 in
theorem gX5_part_X5_isIn : GoodIn wsX5_part (va_wsS RX5 190 yX5_isIn wsX5_isIn) := goodIn_app (goodIn_of _ (by decide +kernel)) ggX5_part_X5_isIn
set_option maxRecDepth 20000 in
theorem ggX5_part_X5_isMonth : GoodIn wsX5_part wsX5_isMonth := goodIn_r _ [19] (by decide +kernel) (by decide +kernel)
set_option maxRecDepth 20000 in
theorem gX5_part_X5_isMonth : GoodIn wsX5_part (va_wsS RX5 194 yX5_isMonth wsX5_isMonth) := goodIn_app (goodIn_of _ (by decide +kernel)) ggX5_part_X5_isMonth
theorem dX5_part_0 : decode cX5_part 0 = .ok (.lload_n 1, 1) := by decide +kernel
theorem dX5_part_1 : decode cX5_part 1 = .ok (.lconst 1, 1) := by decide +kernel
theorem dX5_part_2 : decode cX5_part 2 = .ok (.ldc2_w 188, 3) := by decide +kernel
theorem dX5_part_5 : decode cX5_part 5 = .ok (.invokestatic 190, 3) := by decide +kernel
theorem dX5_part_8 : decode cX5_part 8 = .ok (.ifCond .eq 50, 3) := by decide +kernel
theorem dX5_part_11 : decode cX5_part 11 = .ok (.lload_n 3, 1) := by decide +kernel
theorem dX5_part_12 : decode cX5_part 12 = .ok (.lconst 0, 1) := by decide +kernel
theorem dX5_part_13 : decode cX5_part 13 = .ok (.lload_n 1, 1) := by decide +kernel
theorem dX5_part_14 : decode cX5_part 14 = .ok (.invokestatic 190, 3) := by decide +kernel
theorem dX5_part_17 : decode cX5_part 17 = .ok (.ifCond .eq 41, 3) := by decide +kernel
theorem dX5_part_20 : decode cX5_part 20 = .ok (.iload 5, 2) := by decide +kernel
theorem dX5_part_22 : decode cX5_part 22 = .ok (.invokestatic 194, 3) := by decide +kernel
theorem dX5_part_25 : decode cX5_part 25 = .ok (.ifCond .eq 33, 3) := by decide +kernel
theorem dX5_part_28 : decode cX5_part 28 = .ok (.iload 6, 2) := by decide +kernel
theorem dX5_part_30 : decode cX5_part 30 = .ok (.i2l, 1) := by decide +kernel
theorem dX5_part_31 : decode cX5_part 31 = .ok (.lconst 1, 1) := by decide +kernel
theorem dX5_part_32 : decode cX5_part 32 = .ok (.ldc2_w 198, 3) := by decide +kernel
theorem dX5_part_35 : decode cX5_part 35 = .ok (.invokestatic 190, 3) := by decide +kernel
theorem dX5_part_38 : decode cX5_part 38 = .ok (.ifCond .eq 20, 3) := by decide +kernel
theorem dX5_part_41 : decode cX5_part 41 = .ok (.iload 7, 2) := by decide +kernel
theorem dX5_part_43 : decode cX5_part 43 = .ok (.i2l, 1) := by decide +kernel
theorem dX5_part_44 : decode cX5_part 44 = .ok (.lconst 0, 1) := by decide +kernel
theorem dX5_part_45 : decode cX5_part 45 = .ok (.ldc2_w 200, 3) := by decide +kernel
theorem dX5_part_48 : decode cX5_part 48 = .ok (.invokestatic 190, 3) := by decide +kernel
theorem dX5_part_51 : decode cX5_part 51 = .ok (.ifCond .eq 7, 3) := by decide +kernel
theorem dX5_part_54 : decode cX5_part 54 = .ok (.iconst 1, 1) := by decide +kernel
theorem dX5_part_55 : decode cX5_part 55 = .ok (.goto 4, 3) := by decide +kernel
theorem dX5_part_58 : decode cX5_part 58 = .ok (.iconst 0, 1) := by decide +kernel
theorem dX5_part_59 : decode cX5_part 59 = .ok (.istore 9, 2) := by decide +kernel
theorem dX5_part_61 : decode cX5_part 61 = .ok (.iload 9, 2) := by decide +kernel
theorem dX5_part_63 : decode cX5_part 63 = .ok (.ifCond .eq 40, 3) := by decide +kernel
theorem dX5_part_66 : decode cX5_part 66 = .ok (.iload 7, 2) := by decide +kernel
theorem dX5_part_68 : decode cX5_part 68 = .ok (.iconst 1, 1) := by decide +kernel
theorem dX5_part_69 : decode cX5_part 69 = .ok (.if_icmp .eq 9, 3) := by decide +kernel
theorem dX5_part_72 : decode cX5_part 72 = .ok (.iload 7, 2) := by decide +kernel
theorem dX5_part_74 : decode cX5_part 74 = .ok (.iconst 3, 1) := by decide +kernel
theorem dX5_part_75 : decode cX5_part 75 = .ok (.if_icmp .ne 19, 3) := by decide +kernel
theorem dX5_part_78 : decode cX5_part 78 = .ok (.iload 8, 2) := by decide +kernel
theorem dX5_part_80 : decode cX5_part 80 = .ok (.i2l, 1) := by decide +kernel
theorem dX5_part_81 : decode cX5_part 81 = .ok (.lconst 1, 1) := by decide +kernel
theorem dX5_part_82 : decode cX5_part 82 = .ok (.ldc2_w 119, 3) := by decide +kernel
theorem dX5_part_85 : decode cX5_part 85 = .ok (.invokestatic 190, 3) := by decide +kernel
theorem dX5_part_88 : decode cX5_part 88 = .ok (.ifCond .eq 15, 3) := by decide +kernel
theorem dX5_part_91 : decode cX5_part 91 = .ok (.goto 8, 3) := by decide +kernel
theorem dX5_part_94 : decode cX5_part 94 = .ok (.iload 8, 2) := by decide +kernel
theorem dX5_part_96 : decode cX5_part 96 = .ok (.ifCond .ne 7, 3) := by decide +kernel
theorem dX5_part_99 : decode cX5_part 99 = .ok (.iconst 1, 1) := by decide +kernel
theorem dX5_part_100 : decode cX5_part 100 = .ok (.goto 4, 3) := by decide +kernel
theorem dX5_part_103 : decode cX5_part 103 = .ok (.iconst 0, 1) := by decide +kernel
theorem dX5_part_104 : decode cX5_part 104 = .ok (.istore 9, 2) := by decide +kernel
theorem dX5_part_106 : decode cX5_part 106 = .ok (.aload_n 0, 1) := by decide +kernel
theorem dX5_part_107 : decode cX5_part 107 = .ok (.iload 9, 2) := by decide +kernel
theorem dX5_part_109 : decode cX5_part 109 = .ok (.ifCond .ne 7, 3) := by decide +kernel
theorem dX5_part_112 : decode cX5_part 112 = .ok (.iconst 1, 1) := by decide +kernel
theorem dX5_part_113 : decode cX5_part 113 = .ok (.goto 17, 3) := by decide +kernel
theorem dX5_part_116 : decode cX5_part 116 = .ok (.aload_n 0, 1) := by decide +kernel
theorem dX5_part_117 : decode cX5_part 117 = .ok (.getfield 62, 3) := by decide +kernel
theorem dX5_part_120 : decode cX5_part 120 = .ok (.bipush 6, 2) := by decide +kernel
theorem dX5_part_122 : decode cX5_part 122 = .ok (.if_icmp .ne 7, 3) := by decide +kernel
theorem dX5_part_125 : decode cX5_part 125 = .ok (.iconst 2, 1) := by decide +kernel
theorem dX5_part_126 : decode cX5_part 126 = .ok (.goto 4, 3) := by decide +kernel
theorem dX5_part_129 : decode cX5_part 129 = .ok (.iconst 0, 1) := by decide +kernel
theorem dX5_part_130 : decode cX5_part 130 = .ok (.putfield 56, 3) := by decide +kernel
theorem dX5_part_133 : decode cX5_part 133 = .ok (.aload_n 0, 1) := by decide +kernel
theorem dX5_part_134 : decode cX5_part 134 = .ok (.getfield 56, 3) := by decide +kernel
theorem dX5_part_137 : decode cX5_part 137 = .ok (.ifCond .le 5, 3) := by decide +kernel
theorem dX5_part_140 : decode cX5_part 140 = .ok (.iconst 0, 1) := by decide +kernel
theorem dX5_part_141 : decode cX5_part 141 = .ok (.ireturn, 1) := by decide +kernel
theorem dX5_part_142 : decode cX5_part 142 = .ok (.aload_n 0, 1) := by decide +kernel
theorem dX5_part_143 : decode cX5_part 143 = .ok (.getfield 7, 3) := by decide +kernel
theorem dX5_part_146 : decode cX5_part 146 = .ok (.aload_n 0, 1) := by decide +kernel
theorem dX5_part_147 : decode cX5_part 147 = .ok (.getfield 62, 3) := by decide +kernel
theorem dX5_part_150 : decode cX5_part 150 = .ok (.lload_n 1, 1) := by decide +kernel
theorem dX5_part_151 : decode cX5_part 151 = .ok (.lastore, 1) := by decide +kernel
theorem dX5_part_152 : decode cX5_part 152 = .ok (.aload_n 0, 1) := by decide +kernel
theorem dX5_part_153 : decode cX5_part 153 = .ok (.getfield 13, 3) := by decide +kernel
theorem dX5_part_156 : decode cX5_part 156 = .ok (.aload_n 0, 1) := by decide +kernel
theorem dX5_part_157 : decode cX5_part 157 = .ok (.getfield 62, 3) := by decide +kernel
theorem dX5_part_160 : decode cX5_part 160 = .ok (.lload_n 3, 1) := by decide +kernel
theorem dX5_part_161 : decode cX5_part 161 = .ok (.lastore, 1) := by decide +kernel
theorem dX5_part_162 : decode cX5_part 162 = .ok (.aload_n 0, 1) := by decide +kernel
theorem dX5_part_163 : decode cX5_part 163 = .ok (.getfield 16, 3) := by decide +kernel
theorem dX5_part_166 : decode cX5_part 166 = .ok (.aload_n 0, 1) := by decide +kernel
theorem dX5_part_167 : decode cX5_part 167 = .ok (.getfield 62, 3) := by decide +kernel
theorem dX5_part_170 : decode cX5_part 170 = .ok (.iload 5, 2) := by decide +kernel
theorem dX5_part_172 : decode cX5_part 172 = .ok (.iastore, 1) := by decide +kernel
theorem dX5_part_173 : decode cX5_part 173 = .ok (.aload_n 0, 1) := by decide +kernel
theorem dX5_part_174 : decode cX5_part 174 = .ok (.getfield 20, 3) := by decide +kernel
theorem dX5_part_177 : decode cX5_part 177 = .ok (.aload_n 0, 1) := by decide +kernel
theorem dX5_part_178 : decode cX5_part 178 = .ok (.getfield 62, 3) := by decide +kernel
theorem dX5_part_181 : decode cX5_part 181 = .ok (.iload 6, 2) := by decide +kernel
theorem dX5_part_183 : decode cX5_part 183 = .ok (.iastore, 1) := by decide +kernel
theorem dX5_part_184 : decode cX5_part 184 = .ok (.aload_n 0, 1) := by decide +kernel
theorem dX5_part_185 : decode cX5_part 185 = .ok (.getfield 23, 3) := by decide +kernel
theorem dX5_part_188 : decode cX5_part 188 = .ok (.aload_n 0, 1) := by decide +kernel
theorem dX5_part_189 : decode cX5_part 189 = .ok (.getfield 62, 3) := by decide +kernel
theorem dX5_part_192 : decode cX5_part 192 = .ok (.iload 7, 2) := by decide +kernel
theorem dX5_part_194 : decode cX5_part 194 = .ok (.iastore, 1) := by decide +kernel
theorem dX5_part_195 : decode cX5_part 195 = .ok (.aload_n 0, 1) := by decide +kernel
theorem dX5_part_196 : decode cX5_part 196 = .ok (.getfield 26, 3) := by decide +kernel
theorem dX5_part_199 : decode cX5_part 199 = .ok (.aload_n 0, 1) := by decide +kernel
theorem dX5_part_200 : decode cX5_part 200 = .ok (.getfield 62, 3) := by decide +kernel
theorem dX5_part_203 : decode cX5_part 203 = .ok (.iload 8, 2) := by decide +kernel
theorem dX5_part_205 : decode cX5_part 205 = .ok (.iastore, 1) := by decide +kernel
theorem dX5_part_206 : decode cX5_part 206 = .ok (.aload_n 0, 1) := by decide +kernel
theorem dX5_part_207 : decode cX5_part 207 = .ok (.aload_n 0, 1) := by decide +kernel
theorem dX5_part_208 : decode cX5_part 208 = .ok (.getfield 62, 3) := by decide +kernel
theorem dX5_part_211 : decode cX5_part 211 = .ok (.iconst 1, 1) := by decide +kernel
theorem dX5_part_212 : decode cX5_part 212 = .ok (.iadd, 1) := by decide +kernel
theorem dX5_part_213 : decode cX5_part 213 = .ok (.putfield 62, 3) := by decide +kernel
theorem dX5_part_216 : decode cX5_part 216 = .ok (.aload_n 0, 1) := by decide +kernel
theorem dX5_part_217 : decode cX5_part 217 = .ok (.getfield 62, 3) := by decide +kernel
theorem dX5_part_220 : decode cX5_part 220 = .ok (.iconst 1, 1) := by decide +kernel
theorem dX5_part_221 : decode cX5_part 221 = .ok (.isub, 1) := by decide +kernel
theorem dX5_part_222 : decode cX5_part 222 = .ok (.ireturn, 1) := by decide +kernel
set_option maxRecDepth 20000 in
theorem ggX5_units_X5_isPart : GoodIn wsX5_units wsX5_isPart := goodIn_r _ [8, 9, 116, 117, 118, 119, 120, 121, 122, 123, 124, 125, 126, 127, 128, 129, 130, 131, 132, 133, 134, 135, 136, 137, 138, 139, 140, 141, 142, 143, 144, 145, 146, 147, 148, 149, 150, 151, 152] (by decide +kernel) (by decide +kernel)
set_option maxRecDepth 20000 in
theorem gX5_units_X5_isPart : GoodIn wsX5_units (wsV RX5 202 RX5 yX5_isPart wsX5_isPart) := goodIn_app (goodIn_of _ (by decide +kernel)) ggX5_units_X5_isPart
set_option maxRecDepth 20000 in
theorem ggX5_units_X5_isMonth : GoodIn wsX5_units wsX5_isMonth := goodIn_r _ [12] (by decide +kernel) (by decide +kernel)
set_option maxRecDepth 20000 in
theorem gX5_units_X5_isMonth : GoodIn wsX5_units (va_wsS RX5 194 yX5_isMonth wsX5_isMonth) := goodIn_app (goodIn_of _ (by decide +kernel)) ggX5_units_X5_isMonth
set_option maxRecDepth 20000 in
theorem ggX5_units_X5_isIn : GoodIn wsX5_units wsX5_isIn := goodIn_r _ [15] (by decide +kernel) (by decide +kernel)
set_option maxRecDepth 20000 in
theorem gX5_units_X5_isIn : GoodIn wsX5_units (va_wsS RX5 190 yX5_isIn wsX5_isIn) := goodIn_app (goodIn_of _ (by decide +kernel)) ggX5_units_X5_isIn
set_option maxRecDepth 20000 in
theorem ggX5_units_X5_reckon : GoodIn wsX5_units wsX5_reckon := goodIn_r _ [19, 20, 21, 22, 23, 7, 24, 25, 26, 27, 28, 29, 30, 31, 32, 33, 34, 35, 36, 37, 38, 39, 40, 41, 42, 43, 44, 45, 46, 47, 48, 49, 50, 51, 52, 53, 54, 55, 56, 57, 58, 59, 60, 61, 62, 63, 64, 65, 66, 67, 68, 69, 70, 71, 72, 73, 74, 75, 76, 77, 78, 79, 80, 81, 82, 83, 84, 85, 86, 87, 88, 89, 90, 91, 92, 93, 94, 95, 96, 97, 98, 1, 99, 100, 101, 102, 103, 104, 105, 106, 107, 3, 108, 109, 110, 111, 112, 113, 114, 115, 116, 117, 118, 119, 120, 121, 122, 123, 124, 125, 126, 127, 128, 129, 130, 131, 132, 133, 134, 135, 136, 137, 138, 139, 140, 141, 142, 143, 144, 145, 146, 147, 148, 149, 150, 151, 152] (by decide +kernel) (by decide +kernel)
set_option maxRecDepth 20000 in
theorem gX5_units_X5_reckon : GoodIn wsX5_units (wsV RX5 205 RX5 yX5_reckon wsX5_reckon) := goodIn_app (goodIn_of _ (by decide +kernel)) ggX5_units_X5_reckon
theorem dX5_units_0 : decode cX5_units 0 = .ok (.aload_n 0, 1) := by decide +kernel
theorem dX5_units_1 : decode cX5_units 1 = .ok (.aload_n 0, 1) := by decide +kernel
theorem dX5_units_2 : decode cX5_units 2 = .ok (.iload_n 1, 1) := by decide +kernel
theorem dX5_units_3 : decode cX5_units 3 = .ok (.invokevirtual 202, 3) := by decide +kernel
theorem dX5_units_6 : decode cX5_units 6 = .ok (.ifCond .eq 26, 3) := by decide +kernel
theorem dX5_units_9 : decode cX5_units 9 = .ok (.iload_n 2, 1) := by decide +kernel
theorem dX5_units_10 : decode cX5_units 10 = .ok (.invokestatic 194, 3) := by decide +kernel
theorem dX5_units_13 : decode cX5_units 13 = .ok (.ifCond .eq 19, 3) := by decide +kernel
theorem dX5_units_16 : decode cX5_units 16 = .ok (.iload_n 3, 1) := by decide +kernel
theorem dX5_units_17 : decode cX5_units 17 = .ok (.i2l, 1) := by decide +kernel
theorem dX5_units_18 : decode cX5_units 18 = .ok (.lconst 0, 1) := by decide +kernel
theorem dX5_units_19 : decode cX5_units 19 = .ok (.ldc2_w 119, 3) := by decide +kernel
theorem dX5_units_22 : decode cX5_units 22 = .ok (.invokestatic 190, 3) := by decide +kernel
theorem dX5_units_25 : decode cX5_units 25 = .ok (.ifCond .eq 7, 3) := by decide +kernel
theorem dX5_units_28 : decode cX5_units 28 = .ok (.iconst 0, 1) := by decide +kernel
theorem dX5_units_29 : decode cX5_units 29 = .ok (.goto 4, 3) := by decide +kernel
theorem dX5_units_32 : decode cX5_units 32 = .ok (.iconst 1, 1) := by decide +kernel
theorem dX5_units_33 : decode cX5_units 33 = .ok (.putfield 56, 3) := by decide +kernel
theorem dX5_units_36 : decode cX5_units 36 = .ok (.aload_n 0, 1) := by decide +kernel
theorem dX5_units_37 : decode cX5_units 37 = .ok (.getfield 56, 3) := by decide +kernel
theorem dX5_units_40 : decode cX5_units 40 = .ok (.ifCond .le 5, 3) := by decide +kernel
theorem dX5_units_43 : decode cX5_units 43 = .ok (.iconst 0, 1) := by decide +kernel
theorem dX5_units_44 : decode cX5_units 44 = .ok (.ireturn, 1) := by decide +kernel
theorem dX5_units_45 : decode cX5_units 45 = .ok (.aload_n 0, 1) := by decide +kernel
theorem dX5_units_46 : decode cX5_units 46 = .ok (.getfield 29, 3) := by decide +kernel
theorem dX5_units_49 : decode cX5_units 49 = .ok (.bipush 36, 2) := by decide +kernel
theorem dX5_units_51 : decode cX5_units 51 = .ok (.iload_n 1, 1) := by decide +kernel
theorem dX5_units_52 : decode cX5_units 52 = .ok (.imul, 1) := by decide +kernel
theorem dX5_units_53 : decode cX5_units 53 = .ok (.iload_n 2, 1) := by decide +kernel
theorem dX5_units_54 : decode cX5_units 54 = .ok (.iadd, 1) := by decide +kernel
theorem dX5_units_55 : decode cX5_units 55 = .ok (.iaload, 1) := by decide +kernel
theorem dX5_units_56 : decode cX5_units 56 = .ok (.istore 4, 2) := by decide +kernel
theorem dX5_units_58 : decode cX5_units 58 = .ok (.aload_n 0, 1) := by decide +kernel
theorem dX5_units_59 : decode cX5_units 59 = .ok (.getfield 29, 3) := by decide +kernel
theorem dX5_units_62 : decode cX5_units 62 = .ok (.bipush 36, 2) := by decide +kernel
theorem dX5_units_64 : decode cX5_units 64 = .ok (.iload_n 1, 1) := by decide +kernel
theorem dX5_units_65 : decode cX5_units 65 = .ok (.imul, 1) := by decide +kernel
theorem dX5_units_66 : decode cX5_units 66 = .ok (.iload_n 2, 1) := by decide +kernel
theorem dX5_units_67 : decode cX5_units 67 = .ok (.iadd, 1) := by decide +kernel
theorem dX5_units_68 : decode cX5_units 68 = .ok (.iload_n 3, 1) := by decide +kernel
theorem dX5_units_69 : decode cX5_units 69 = .ok (.iastore, 1) := by decide +kernel
theorem dX5_units_70 : decode cX5_units 70 = .ok (.aload_n 0, 1) := by decide +kernel
theorem dX5_units_71 : decode cX5_units 71 = .ok (.iload_n 1, 1) := by decide +kernel
theorem dX5_units_72 : decode cX5_units 72 = .ok (.bipush 35, 2) := by decide +kernel
theorem dX5_units_74 : decode cX5_units 74 = .ok (.invokevirtual 205, 3) := by decide +kernel
theorem dX5_units_77 : decode cX5_units 77 = .ok (.ifCond .ne 23, 3) := by decide +kernel
theorem dX5_units_80 : decode cX5_units 80 = .ok (.aload_n 0, 1) := by decide +kernel
theorem dX5_units_81 : decode cX5_units 81 = .ok (.getfield 29, 3) := by decide +kernel
theorem dX5_units_84 : decode cX5_units 84 = .ok (.bipush 36, 2) := by decide +kernel
theorem dX5_units_86 : decode cX5_units 86 = .ok (.iload_n 1, 1) := by decide +kernel
theorem dX5_units_87 : decode cX5_units 87 = .ok (.imul, 1) := by decide +kernel
theorem dX5_units_88 : decode cX5_units 88 = .ok (.iload_n 2, 1) := by decide +kernel
theorem dX5_units_89 : decode cX5_units 89 = .ok (.iadd, 1) := by decide +kernel
theorem dX5_units_90 : decode cX5_units 90 = .ok (.iload 4, 2) := by decide +kernel
theorem dX5_units_92 : decode cX5_units 92 = .ok (.iastore, 1) := by decide +kernel
theorem dX5_units_93 : decode cX5_units 93 = .ok (.aload_n 0, 1) := by decide +kernel
theorem dX5_units_94 : decode cX5_units 94 = .ok (.iconst 2, 1) := by decide +kernel
theorem dX5_units_95 : decode cX5_units 95 = .ok (.putfield 56, 3) := by decide +kernel
theorem dX5_units_98 : decode cX5_units 98 = .ok (.iconst 0, 1) := by decide +kernel
theorem dX5_units_99 : decode cX5_units 99 = .ok (.ireturn, 1) := by decide +kernel
theorem dX5_units_100 : decode cX5_units 100 = .ok (.iload 4, 2) := by decide +kernel
theorem dX5_units_102 : decode cX5_units 102 = .ok (.ireturn, 1) := by decide +kernel
theorem dX5_countOf_0 : decode cX5_countOf 0 = .ok (.iconst 0, 1) := by decide +kernel
theorem dX5_countOf_1 : decode cX5_countOf 1 = .ok (.istore_n 2, 1) := by decide +kernel
theorem dX5_countOf_2 : decode cX5_countOf 2 = .ok (.iconst 0, 1) := by decide +kernel
theorem dX5_countOf_3 : decode cX5_countOf 3 = .ok (.istore_n 3, 1) := by decide +kernel
theorem dX5_countOf_4 : decode cX5_countOf 4 = .ok (.iload_n 3, 1) := by decide +kernel
theorem dX5_countOf_5 : decode cX5_countOf 5 = .ok (.aload_n 0, 1) := by decide +kernel
theorem dX5_countOf_6 : decode cX5_countOf 6 = .ok (.getfield 72, 3) := by decide +kernel
theorem dX5_countOf_9 : decode cX5_countOf 9 = .ok (.if_icmp .ge 29, 3) := by decide +kernel
theorem dX5_countOf_12 : decode cX5_countOf 12 = .ok (.aload_n 0, 1) := by decide +kernel
theorem dX5_countOf_13 : decode cX5_countOf 13 = .ok (.getfield 35, 3) := by decide +kernel
theorem dX5_countOf_16 : decode cX5_countOf 16 = .ok (.iload_n 3, 1) := by decide +kernel
theorem dX5_countOf_17 : decode cX5_countOf 17 = .ok (.iaload, 1) := by decide +kernel
theorem dX5_countOf_18 : decode cX5_countOf 18 = .ok (.iload_n 1, 1) := by decide +kernel
theorem dX5_countOf_19 : decode cX5_countOf 19 = .ok (.iconst 1, 1) := by decide +kernel
theorem dX5_countOf_20 : decode cX5_countOf 20 = .ok (.iadd, 1) := by decide +kernel
theorem dX5_countOf_21 : decode cX5_countOf 21 = .ok (.if_icmp .ne 9, 3) := by decide +kernel
theorem dX5_countOf_24 : decode cX5_countOf 24 = .ok (.iload_n 2, 1) := by decide +kernel
theorem dX5_countOf_25 : decode cX5_countOf 25 = .ok (.iconst 1, 1) := by decide +kernel
theorem dX5_countOf_26 : decode cX5_countOf 26 = .ok (.iadd, 1) := by decide +kernel
theorem dX5_countOf_27 : decode cX5_countOf 27 = .ok (.goto 4, 3) := by decide +kernel
theorem dX5_countOf_30 : decode cX5_countOf 30 = .ok (.iload_n 2, 1) := by decide +kernel
theorem dX5_countOf_31 : decode cX5_countOf 31 = .ok (.istore_n 2, 1) := by decide +kernel
theorem dX5_countOf_32 : decode cX5_countOf 32 = .ok (.iinc 3 1, 3) := by decide +kernel
theorem dX5_countOf_35 : decode cX5_countOf 35 = .ok (.goto (-31), 3) := by decide +kernel
theorem dX5_countOf_38 : decode cX5_countOf 38 = .ok (.iload_n 2, 1) := by decide +kernel
theorem dX5_countOf_39 : decode cX5_countOf 39 = .ok (.ireturn, 1) := by decide +kernel
set_option maxRecDepth 20000 in
theorem ggX5_event_X5_isPart : GoodIn wsX5_event wsX5_isPart := goodIn_r _ [17, 18, 123, 124, 125, 126, 127, 128, 129, 130, 131, 132, 133, 134, 135, 136, 137, 138, 139, 140, 141, 142, 143, 144, 145, 146, 147, 148, 149, 150, 151, 152, 153, 154, 155, 156, 157, 158, 159] (by decide +kernel) (by decide +kernel)
set_option maxRecDepth 20000 in
theorem gX5_event_X5_isPart : GoodIn wsX5_event (wsV RX5 202 RX5 yX5_isPart wsX5_isPart) := goodIn_app (goodIn_of _ (by decide +kernel)) ggX5_event_X5_isPart
set_option maxRecDepth 20000 in
theorem ggX5_event_X5_isMonth : GoodIn wsX5_event wsX5_isMonth := goodIn_r _ [21] (by decide +kernel) (by decide +kernel)
set_option maxRecDepth 20000 in
theorem gX5_event_X5_isMonth : GoodIn wsX5_event (va_wsS RX5 194 yX5_isMonth wsX5_isMonth) := goodIn_app (goodIn_of _ (by decide +kernel)) ggX5_event_X5_isMonth
set_option maxRecDepth 20000 in
theorem ggX5_event_X5_isIn : GoodIn wsX5_event wsX5_isIn := goodIn_r _ [24] (by decide +kernel) (by decide +kernel)
set_option maxRecDepth 20000 in
theorem gX5_event_X5_isIn : GoodIn wsX5_event (va_wsS RX5 190 yX5_isIn wsX5_isIn) := goodIn_app (goodIn_of _ (by decide +kernel)) ggX5_event_X5_isIn
set_option maxRecDepth 20000 in
theorem ggX5_event_X5_eventIn : GoodIn wsX5_event wsX5_eventIn := goodIn_r _ [28, 6, 8, 9, 123, 124, 125, 126, 127, 128, 129, 130, 131, 132, 133, 134, 135, 136, 137, 138, 139, 140, 141, 142, 143, 144, 145, 146, 147, 148, 149, 150, 151, 152, 153, 154, 155, 156, 157, 158, 159] (by decide +kernel) (by decide +kernel)
set_option maxRecDepth 20000 in
theorem gX5_event_X5_eventIn : GoodIn wsX5_event (wsV RX5 172 RX5 yX5_eventIn wsX5_eventIn) := goodIn_app (goodIn_of _ (by decide +kernel)) ggX5_event_X5_eventIn
set_option maxRecDepth 20000 in
theorem ggX5_event_X5_countOf : GoodIn wsX5_event wsX5_countOf := goodIn_r _ [32, 6, 8, 123, 124, 125, 126, 127, 128, 129, 130, 131, 132, 133, 134, 135, 136, 137, 138, 139, 140, 141, 142, 143, 144, 145, 146, 147, 148, 149, 150, 151, 152, 153, 154, 155, 156, 157, 158, 159] (by decide +kernel) (by decide +kernel)
set_option maxRecDepth 20000 in
theorem gX5_event_X5_countOf : GoodIn wsX5_event (wsV RX5 210 RX5 yX5_countOf wsX5_countOf) := goodIn_app (goodIn_of _ (by decide +kernel)) ggX5_event_X5_countOf
set_option maxRecDepth 20000 in
theorem ggX5_event_X5_reckon : GoodIn wsX5_event wsX5_reckon := goodIn_r _ [36, 37, 38, 39, 40, 16, 41, 1, 42, 43, 44, 45, 46, 47, 10, 48, 49, 50, 51, 52, 53, 54, 55, 56, 57, 58, 59, 60, 61, 62, 63, 64, 65, 66, 67, 68, 69, 70, 71, 72, 73, 74, 75, 76, 25, 26, 27, 28, 6, 8, 9, 77, 78, 79, 80, 11, 12, 81, 82, 83, 84, 85, 86, 87, 88, 89, 90, 91, 92, 93, 94, 95, 96, 97, 98, 99, 100, 101, 102, 103, 104, 5, 105, 106, 107, 108, 109, 110, 111, 112, 113, 114, 115, 116, 117, 118, 119, 120, 121, 122, 123, 124, 125, 126, 127, 128, 129, 130, 131, 132, 133, 134, 135, 136, 137, 138, 139, 140, 141, 142, 143, 144, 145, 146, 147, 148, 149, 150, 151, 152, 153, 154, 155, 156, 157, 158, 159] (by decide +kernel) (by decide +kernel)
set_option maxRecDepth 20000 in
theorem gX5_event_X5_reckon : GoodIn wsX5_event (wsV RX5 205 RX5 yX5_reckon wsX5_reckon) := goodIn_app (goodIn_of _ (by decide +kernel)) ggX5_event_X5_reckon
theorem dX5_event_0 : decode cX5_event 0 = .ok (.aload_n 0, 1) := by decide +kernel
theorem dX5_event_1 : decode cX5_event 1 = .ok (.iload_n 1, 1) := by decide +kernel
theorem dX5_event_2 : decode cX5_event 2 = .ok (.invokevirtual 202, 3) := by decide +kernel
theorem dX5_event_5 : decode cX5_event 5 = .ok (.ifCond .eq 36, 3) := by decide +kernel
theorem dX5_event_8 : decode cX5_event 8 = .ok (.iload_n 2, 1) := by decide +kernel
theorem dX5_event_9 : decode cX5_event 9 = .ok (.invokestatic 194, 3) := by decide +kernel
theorem dX5_event_12 : decode cX5_event 12 = .ok (.ifCond .eq 29, 3) := by decide +kernel
theorem dX5_event_15 : decode cX5_event 15 = .ok (.iload_n 2, 1) := by decide +kernel
theorem dX5_event_16 : decode cX5_event 16 = .ok (.aload_n 0, 1) := by decide +kernel
theorem dX5_event_17 : decode cX5_event 17 = .ok (.getfield 16, 3) := by decide +kernel
theorem dX5_event_20 : decode cX5_event 20 = .ok (.iload_n 1, 1) := by decide +kernel
theorem dX5_event_21 : decode cX5_event 21 = .ok (.iaload, 1) := by decide +kernel
theorem dX5_event_22 : decode cX5_event 22 = .ok (.if_icmp .lt 19, 3) := by decide +kernel
theorem dX5_event_25 : decode cX5_event 25 = .ok (.iload_n 3, 1) := by decide +kernel
theorem dX5_event_26 : decode cX5_event 26 = .ok (.i2l, 1) := by decide +kernel
theorem dX5_event_27 : decode cX5_event 27 = .ok (.lconst 0, 1) := by decide +kernel
theorem dX5_event_28 : decode cX5_event 28 = .ok (.ldc2_w 208, 3) := by decide +kernel
theorem dX5_event_31 : decode cX5_event 31 = .ok (.invokestatic 190, 3) := by decide +kernel
theorem dX5_event_34 : decode cX5_event 34 = .ok (.ifCond .eq 7, 3) := by decide +kernel
theorem dX5_event_37 : decode cX5_event 37 = .ok (.iconst 1, 1) := by decide +kernel
theorem dX5_event_38 : decode cX5_event 38 = .ok (.goto 4, 3) := by decide +kernel
theorem dX5_event_41 : decode cX5_event 41 = .ok (.iconst 0, 1) := by decide +kernel
theorem dX5_event_42 : decode cX5_event 42 = .ok (.istore 7, 2) := by decide +kernel
theorem dX5_event_44 : decode cX5_event 44 = .ok (.iload 7, 2) := by decide +kernel
theorem dX5_event_46 : decode cX5_event 46 = .ok (.ifCond .eq 42, 3) := by decide +kernel
theorem dX5_event_49 : decode cX5_event 49 = .ok (.iload_n 3, 1) := by decide +kernel
theorem dX5_event_50 : decode cX5_event 50 = .ok (.iconst 4, 1) := by decide +kernel
theorem dX5_event_51 : decode cX5_event 51 = .ok (.if_icmp .le 13, 3) := by decide +kernel
theorem dX5_event_54 : decode cX5_event 54 = .ok (.lload 4, 2) := by decide +kernel
theorem dX5_event_56 : decode cX5_event 56 = .ok (.lconst 0, 1) := by decide +kernel
theorem dX5_event_57 : decode cX5_event 57 = .ok (.lcmp, 1) := by decide +kernel
theorem dX5_event_58 : decode cX5_event 58 = .ok (.ifCond .ne 30, 3) := by decide +kernel
theorem dX5_event_61 : decode cX5_event 61 = .ok (.goto 23, 3) := by decide +kernel
theorem dX5_event_64 : decode cX5_event 64 = .ok (.lload 4, 2) := by decide +kernel
theorem dX5_event_66 : decode cX5_event 66 = .ok (.iload_n 3, 1) := by decide +kernel
theorem dX5_event_67 : decode cX5_event 67 = .ok (.ifCond .ne 7, 3) := by decide +kernel
theorem dX5_event_70 : decode cX5_event 70 = .ok (.lconst 1, 1) := by decide +kernel
theorem dX5_event_71 : decode cX5_event 71 = .ok (.goto 4, 3) := by decide +kernel
theorem dX5_event_74 : decode cX5_event 74 = .ok (.lconst 0, 1) := by decide +kernel
theorem dX5_event_75 : decode cX5_event 75 = .ok (.ldc2_w 188, 3) := by decide +kernel
theorem dX5_event_78 : decode cX5_event 78 = .ok (.invokestatic 190, 3) := by decide +kernel
theorem dX5_event_81 : decode cX5_event 81 = .ok (.ifCond .eq 7, 3) := by decide +kernel
theorem dX5_event_84 : decode cX5_event 84 = .ok (.iconst 1, 1) := by decide +kernel
theorem dX5_event_85 : decode cX5_event 85 = .ok (.goto 4, 3) := by decide +kernel
theorem dX5_event_88 : decode cX5_event 88 = .ok (.iconst 0, 1) := by decide +kernel
theorem dX5_event_89 : decode cX5_event 89 = .ok (.istore 7, 2) := by decide +kernel
theorem dX5_event_91 : decode cX5_event 91 = .ok (.iload 7, 2) := by decide +kernel
theorem dX5_event_93 : decode cX5_event 93 = .ok (.ifCond .eq 54, 3) := by decide +kernel
theorem dX5_event_96 : decode cX5_event 96 = .ok (.iload_n 3, 1) := by decide +kernel
theorem dX5_event_97 : decode cX5_event 97 = .ok (.iconst 1, 1) := by decide +kernel
theorem dX5_event_98 : decode cX5_event 98 = .ok (.if_icmp .ne 19, 3) := by decide +kernel
theorem dX5_event_101 : decode cX5_event 101 = .ok (.iload 6, 2) := by decide +kernel
theorem dX5_event_103 : decode cX5_event 103 = .ok (.i2l, 1) := by decide +kernel
theorem dX5_event_104 : decode cX5_event 104 = .ok (.lconst 1, 1) := by decide +kernel
theorem dX5_event_105 : decode cX5_event 105 = .ok (.ldc2_w 198, 3) := by decide +kernel
theorem dX5_event_108 : decode cX5_event 108 = .ok (.invokestatic 190, 3) := by decide +kernel
theorem dX5_event_111 : decode cX5_event 111 = .ok (.ifCond .eq 36, 3) := by decide +kernel
theorem dX5_event_114 : decode cX5_event 114 = .ok (.goto 29, 3) := by decide +kernel
theorem dX5_event_117 : decode cX5_event 117 = .ok (.iload_n 3, 1) := by decide +kernel
theorem dX5_event_118 : decode cX5_event 118 = .ok (.iconst 5, 1) := by decide +kernel
theorem dX5_event_119 : decode cX5_event 119 = .ok (.if_icmp .ne 19, 3) := by decide +kernel
theorem dX5_event_122 : decode cX5_event 122 = .ok (.iload 6, 2) := by decide +kernel
theorem dX5_event_124 : decode cX5_event 124 = .ok (.i2l, 1) := by decide +kernel
theorem dX5_event_125 : decode cX5_event 125 = .ok (.lconst 1, 1) := by decide +kernel
theorem dX5_event_126 : decode cX5_event 126 = .ok (.ldc2_w 119, 3) := by decide +kernel
theorem dX5_event_129 : decode cX5_event 129 = .ok (.invokestatic 190, 3) := by decide +kernel
theorem dX5_event_132 : decode cX5_event 132 = .ok (.ifCond .eq 15, 3) := by decide +kernel
theorem dX5_event_135 : decode cX5_event 135 = .ok (.goto 8, 3) := by decide +kernel
theorem dX5_event_138 : decode cX5_event 138 = .ok (.iload 6, 2) := by decide +kernel
theorem dX5_event_140 : decode cX5_event 140 = .ok (.ifCond .ne 7, 3) := by decide +kernel
theorem dX5_event_143 : decode cX5_event 143 = .ok (.iconst 1, 1) := by decide +kernel
theorem dX5_event_144 : decode cX5_event 144 = .ok (.goto 4, 3) := by decide +kernel
theorem dX5_event_147 : decode cX5_event 147 = .ok (.iconst 0, 1) := by decide +kernel
theorem dX5_event_148 : decode cX5_event 148 = .ok (.istore 7, 2) := by decide +kernel
theorem dX5_event_150 : decode cX5_event 150 = .ok (.aload_n 0, 1) := by decide +kernel
theorem dX5_event_151 : decode cX5_event 151 = .ok (.iload 7, 2) := by decide +kernel
theorem dX5_event_153 : decode cX5_event 153 = .ok (.ifCond .ne 7, 3) := by decide +kernel
theorem dX5_event_156 : decode cX5_event 156 = .ok (.iconst 1, 1) := by decide +kernel
theorem dX5_event_157 : decode cX5_event 157 = .ok (.goto 36, 3) := by decide +kernel
theorem dX5_event_160 : decode cX5_event 160 = .ok (.aload_n 0, 1) := by decide +kernel
theorem dX5_event_161 : decode cX5_event 161 = .ok (.iload_n 1, 1) := by decide +kernel
theorem dX5_event_162 : decode cX5_event 162 = .ok (.iload_n 2, 1) := by decide +kernel
theorem dX5_event_163 : decode cX5_event 163 = .ok (.invokevirtual 172, 3) := by decide +kernel
theorem dX5_event_166 : decode cX5_event 166 = .ok (.ifCond .ge 22, 3) := by decide +kernel
theorem dX5_event_169 : decode cX5_event 169 = .ok (.aload_n 0, 1) := by decide +kernel
theorem dX5_event_170 : decode cX5_event 170 = .ok (.iload_n 1, 1) := by decide +kernel
theorem dX5_event_171 : decode cX5_event 171 = .ok (.invokevirtual 210, 3) := by decide +kernel
theorem dX5_event_174 : decode cX5_event 174 = .ok (.bipush 8, 2) := by decide +kernel
theorem dX5_event_176 : decode cX5_event 176 = .ok (.if_icmp .eq 12, 3) := by decide +kernel
theorem dX5_event_179 : decode cX5_event 179 = .ok (.aload_n 0, 1) := by decide +kernel
theorem dX5_event_180 : decode cX5_event 180 = .ok (.getfield 72, 3) := by decide +kernel
theorem dX5_event_183 : decode cX5_event 183 = .ok (.bipush 40, 2) := by decide +kernel
theorem dX5_event_185 : decode cX5_event 185 = .ok (.if_icmp .ne 7, 3) := by decide +kernel
theorem dX5_event_188 : decode cX5_event 188 = .ok (.iconst 2, 1) := by decide +kernel
theorem dX5_event_189 : decode cX5_event 189 = .ok (.goto 4, 3) := by decide +kernel
theorem dX5_event_192 : decode cX5_event 192 = .ok (.iconst 0, 1) := by decide +kernel
theorem dX5_event_193 : decode cX5_event 193 = .ok (.putfield 56, 3) := by decide +kernel
theorem dX5_event_196 : decode cX5_event 196 = .ok (.aload_n 0, 1) := by decide +kernel
theorem dX5_event_197 : decode cX5_event 197 = .ok (.getfield 56, 3) := by decide +kernel
theorem dX5_event_200 : decode cX5_event 200 = .ok (.ifCond .le 5, 3) := by decide +kernel
theorem dX5_event_203 : decode cX5_event 203 = .ok (.iconst 0, 1) := by decide +kernel
theorem dX5_event_204 : decode cX5_event 204 = .ok (.ireturn, 1) := by decide +kernel
theorem dX5_event_205 : decode cX5_event 205 = .ok (.aload_n 0, 1) := by decide +kernel
theorem dX5_event_206 : decode cX5_event 206 = .ok (.getfield 35, 3) := by decide +kernel
theorem dX5_event_209 : decode cX5_event 209 = .ok (.aload_n 0, 1) := by decide +kernel
theorem dX5_event_210 : decode cX5_event 210 = .ok (.getfield 72, 3) := by decide +kernel
theorem dX5_event_213 : decode cX5_event 213 = .ok (.iload_n 1, 1) := by decide +kernel
theorem dX5_event_214 : decode cX5_event 214 = .ok (.iconst 1, 1) := by decide +kernel
theorem dX5_event_215 : decode cX5_event 215 = .ok (.iadd, 1) := by decide +kernel
theorem dX5_event_216 : decode cX5_event 216 = .ok (.iastore, 1) := by decide +kernel
theorem dX5_event_217 : decode cX5_event 217 = .ok (.aload_n 0, 1) := by decide +kernel
theorem dX5_event_218 : decode cX5_event 218 = .ok (.getfield 38, 3) := by decide +kernel
theorem dX5_event_221 : decode cX5_event 221 = .ok (.aload_n 0, 1) := by decide +kernel
theorem dX5_event_222 : decode cX5_event 222 = .ok (.getfield 72, 3) := by decide +kernel
theorem dX5_event_225 : decode cX5_event 225 = .ok (.iload_n 2, 1) := by decide +kernel
theorem dX5_event_226 : decode cX5_event 226 = .ok (.iastore, 1) := by decide +kernel
theorem dX5_event_227 : decode cX5_event 227 = .ok (.aload_n 0, 1) := by decide +kernel
theorem dX5_event_228 : decode cX5_event 228 = .ok (.getfield 41, 3) := by decide +kernel
theorem dX5_event_231 : decode cX5_event 231 = .ok (.aload_n 0, 1) := by decide +kernel
theorem dX5_event_232 : decode cX5_event 232 = .ok (.getfield 72, 3) := by decide +kernel
theorem dX5_event_235 : decode cX5_event 235 = .ok (.iload_n 3, 1) := by decide +kernel
theorem dX5_event_236 : decode cX5_event 236 = .ok (.iastore, 1) := by decide +kernel
theorem dX5_event_237 : decode cX5_event 237 = .ok (.aload_n 0, 1) := by decide +kernel
theorem dX5_event_238 : decode cX5_event 238 = .ok (.getfield 44, 3) := by decide +kernel
theorem dX5_event_241 : decode cX5_event 241 = .ok (.aload_n 0, 1) := by decide +kernel
theorem dX5_event_242 : decode cX5_event 242 = .ok (.getfield 72, 3) := by decide +kernel
theorem dX5_event_245 : decode cX5_event 245 = .ok (.lload 4, 2) := by decide +kernel
theorem dX5_event_247 : decode cX5_event 247 = .ok (.lastore, 1) := by decide +kernel
theorem dX5_event_248 : decode cX5_event 248 = .ok (.aload_n 0, 1) := by decide +kernel
theorem dX5_event_249 : decode cX5_event 249 = .ok (.getfield 47, 3) := by decide +kernel
theorem dX5_event_252 : decode cX5_event 252 = .ok (.aload_n 0, 1) := by decide +kernel
theorem dX5_event_253 : decode cX5_event 253 = .ok (.getfield 72, 3) := by decide +kernel
theorem dX5_event_256 : decode cX5_event 256 = .ok (.iload 6, 2) := by decide +kernel
theorem dX5_event_258 : decode cX5_event 258 = .ok (.iastore, 1) := by decide +kernel
theorem dX5_event_259 : decode cX5_event 259 = .ok (.aload_n 0, 1) := by decide +kernel
theorem dX5_event_260 : decode cX5_event 260 = .ok (.aload_n 0, 1) := by decide +kernel
theorem dX5_event_261 : decode cX5_event 261 = .ok (.getfield 72, 3) := by decide +kernel
theorem dX5_event_264 : decode cX5_event 264 = .ok (.iconst 1, 1) := by decide +kernel
theorem dX5_event_265 : decode cX5_event 265 = .ok (.iadd, 1) := by decide +kernel
theorem dX5_event_266 : decode cX5_event 266 = .ok (.putfield 72, 3) := by decide +kernel
theorem dX5_event_269 : decode cX5_event 269 = .ok (.aload_n 0, 1) := by decide +kernel
theorem dX5_event_270 : decode cX5_event 270 = .ok (.iload_n 1, 1) := by decide +kernel
theorem dX5_event_271 : decode cX5_event 271 = .ok (.bipush 35, 2) := by decide +kernel
theorem dX5_event_273 : decode cX5_event 273 = .ok (.invokevirtual 205, 3) := by decide +kernel
theorem dX5_event_276 : decode cX5_event 276 = .ok (.ifCond .ne 20, 3) := by decide +kernel
theorem dX5_event_279 : decode cX5_event 279 = .ok (.aload_n 0, 1) := by decide +kernel
theorem dX5_event_280 : decode cX5_event 280 = .ok (.aload_n 0, 1) := by decide +kernel
theorem dX5_event_281 : decode cX5_event 281 = .ok (.getfield 72, 3) := by decide +kernel
theorem dX5_event_284 : decode cX5_event 284 = .ok (.iconst 1, 1) := by decide +kernel
theorem dX5_event_285 : decode cX5_event 285 = .ok (.isub, 1) := by decide +kernel
theorem dX5_event_286 : decode cX5_event 286 = .ok (.putfield 72, 3) := by decide +kernel
theorem dX5_event_289 : decode cX5_event 289 = .ok (.aload_n 0, 1) := by decide +kernel
theorem dX5_event_290 : decode cX5_event 290 = .ok (.iconst 2, 1) := by decide +kernel
theorem dX5_event_291 : decode cX5_event 291 = .ok (.putfield 56, 3) := by decide +kernel
theorem dX5_event_294 : decode cX5_event 294 = .ok (.iconst 0, 1) := by decide +kernel
theorem dX5_event_295 : decode cX5_event 295 = .ok (.ireturn, 1) := by decide +kernel
theorem dX5_event_296 : decode cX5_event 296 = .ok (.aload_n 0, 1) := by decide +kernel
theorem dX5_event_297 : decode cX5_event 297 = .ok (.getfield 72, 3) := by decide +kernel
theorem dX5_event_300 : decode cX5_event 300 = .ok (.iconst 1, 1) := by decide +kernel
theorem dX5_event_301 : decode cX5_event 301 = .ok (.isub, 1) := by decide +kernel
theorem dX5_event_302 : decode cX5_event 302 = .ok (.ireturn, 1) := by decide +kernel
theorem dX5_isEvent_0 : decode cX5_isEvent 0 = .ok (.iload_n 1, 1) := by decide +kernel
theorem dX5_isEvent_1 : decode cX5_isEvent 1 = .ok (.ifCond .lt 24, 3) := by decide +kernel
theorem dX5_isEvent_4 : decode cX5_isEvent 4 = .ok (.iload_n 1, 1) := by decide +kernel
theorem dX5_isEvent_5 : decode cX5_isEvent 5 = .ok (.aload_n 0, 1) := by decide +kernel
theorem dX5_isEvent_6 : decode cX5_isEvent 6 = .ok (.getfield 72, 3) := by decide +kernel
theorem dX5_isEvent_9 : decode cX5_isEvent 9 = .ok (.if_icmp .ge 16, 3) := by decide +kernel
theorem dX5_isEvent_12 : decode cX5_isEvent 12 = .ok (.aload_n 0, 1) := by decide +kernel
theorem dX5_isEvent_13 : decode cX5_isEvent 13 = .ok (.getfield 35, 3) := by decide +kernel
theorem dX5_isEvent_16 : decode cX5_isEvent 16 = .ok (.iload_n 1, 1) := by decide +kernel
theorem dX5_isEvent_17 : decode cX5_isEvent 17 = .ok (.iaload, 1) := by decide +kernel
theorem dX5_isEvent_18 : decode cX5_isEvent 18 = .ok (.ifCond .le 7, 3) := by decide +kernel
theorem dX5_isEvent_21 : decode cX5_isEvent 21 = .ok (.iconst 1, 1) := by decide +kernel
theorem dX5_isEvent_22 : decode cX5_isEvent 22 = .ok (.goto 4, 3) := by decide +kernel
theorem dX5_isEvent_25 : decode cX5_isEvent 25 = .ok (.iconst 0, 1) := by decide +kernel
theorem dX5_isEvent_26 : decode cX5_isEvent 26 = .ok (.ireturn, 1) := by decide +kernel
set_option maxRecDepth 20000 in
theorem ggX5_strike_X5_isEvent : GoodIn wsX5_strike wsX5_isEvent := goodIn_r _ [7, 8, 2, 109, 110, 111, 112, 113, 114, 115, 116, 117, 118, 119, 120, 121, 122, 123, 124, 125, 126, 127, 128, 129, 130, 131, 132, 133, 134, 135, 136, 137, 138, 139, 140, 141, 142, 143, 144, 145] (by decide +kernel) (by decide +kernel)
set_option maxRecDepth 20000 in
theorem gX5_strike_X5_isEvent : GoodIn wsX5_strike (wsV RX5 214 RX5 yX5_isEvent wsX5_isEvent) := goodIn_app (goodIn_of _ (by decide +kernel)) ggX5_strike_X5_isEvent
set_option maxRecDepth 20000 in
theorem ggX5_strike_X5_reckon : GoodIn wsX5_strike wsX5_reckon := goodIn_r _ [12, 13, 14, 15, 16, 6, 17, 18, 19, 20, 21, 22, 23, 24, 25, 26, 27, 28, 29, 30, 31, 32, 33, 34, 35, 36, 37, 38, 39, 40, 41, 42, 43, 44, 45, 46, 47, 48, 49, 50, 51, 52, 53, 54, 55, 56, 57, 58, 8, 2, 59, 60, 61, 62, 63, 64, 65, 66, 67, 68, 69, 70, 71, 72, 73, 74, 75, 76, 77, 78, 79, 80, 81, 82, 83, 84, 85, 86, 87, 88, 89, 90, 91, 92, 93, 94, 95, 96, 97, 98, 99, 100, 101, 102, 103, 104, 105, 106, 107, 108, 109, 110, 111, 112, 113, 114, 115, 116, 117, 118, 119, 120, 121, 122, 123, 124, 125, 126, 127, 128, 129, 130, 131, 132, 133, 134, 135, 136, 137, 138, 139, 140, 141, 142, 143, 144, 145] (by decide +kernel) (by decide +kernel)
set_option maxRecDepth 20000 in
theorem gX5_strike_X5_reckon : GoodIn wsX5_strike (wsV RX5 205 RX5 yX5_reckon wsX5_reckon) := goodIn_app (goodIn_of _ (by decide +kernel)) ggX5_strike_X5_reckon
theorem dX5_strike_0 : decode cX5_strike 0 = .ok (.aload_n 0, 1) := by decide +kernel
theorem dX5_strike_1 : decode cX5_strike 1 = .ok (.iconst 0, 1) := by decide +kernel
theorem dX5_strike_2 : decode cX5_strike 2 = .ok (.putfield 56, 3) := by decide +kernel
theorem dX5_strike_5 : decode cX5_strike 5 = .ok (.aload_n 0, 1) := by decide +kernel
theorem dX5_strike_6 : decode cX5_strike 6 = .ok (.iload_n 1, 1) := by decide +kernel
theorem dX5_strike_7 : decode cX5_strike 7 = .ok (.invokevirtual 214, 3) := by decide +kernel
theorem dX5_strike_10 : decode cX5_strike 10 = .ok (.ifCond .ne 5, 3) := by decide +kernel
theorem dX5_strike_13 : decode cX5_strike 13 = .ok (.iconst 0, 1) := by decide +kernel
theorem dX5_strike_14 : decode cX5_strike 14 = .ok (.ireturn, 1) := by decide +kernel
theorem dX5_strike_15 : decode cX5_strike 15 = .ok (.aload_n 0, 1) := by decide +kernel
theorem dX5_strike_16 : decode cX5_strike 16 = .ok (.getfield 35, 3) := by decide +kernel
theorem dX5_strike_19 : decode cX5_strike 19 = .ok (.iload_n 1, 1) := by decide +kernel
theorem dX5_strike_20 : decode cX5_strike 20 = .ok (.iaload, 1) := by decide +kernel
theorem dX5_strike_21 : decode cX5_strike 21 = .ok (.istore_n 2, 1) := by decide +kernel
theorem dX5_strike_22 : decode cX5_strike 22 = .ok (.aload_n 0, 1) := by decide +kernel
theorem dX5_strike_23 : decode cX5_strike 23 = .ok (.getfield 35, 3) := by decide +kernel
theorem dX5_strike_26 : decode cX5_strike 26 = .ok (.iload_n 1, 1) := by decide +kernel
theorem dX5_strike_27 : decode cX5_strike 27 = .ok (.iconst 0, 1) := by decide +kernel
theorem dX5_strike_28 : decode cX5_strike 28 = .ok (.iastore, 1) := by decide +kernel
theorem dX5_strike_29 : decode cX5_strike 29 = .ok (.aload_n 0, 1) := by decide +kernel
theorem dX5_strike_30 : decode cX5_strike 30 = .ok (.iload_n 2, 1) := by decide +kernel
theorem dX5_strike_31 : decode cX5_strike 31 = .ok (.iconst 1, 1) := by decide +kernel
theorem dX5_strike_32 : decode cX5_strike 32 = .ok (.isub, 1) := by decide +kernel
theorem dX5_strike_33 : decode cX5_strike 33 = .ok (.bipush 35, 2) := by decide +kernel
theorem dX5_strike_35 : decode cX5_strike 35 = .ok (.invokevirtual 205, 3) := by decide +kernel
theorem dX5_strike_38 : decode cX5_strike 38 = .ok (.istore_n 3, 1) := by decide +kernel
theorem dX5_strike_39 : decode cX5_strike 39 = .ok (.aload_n 0, 1) := by decide +kernel
theorem dX5_strike_40 : decode cX5_strike 40 = .ok (.getfield 35, 3) := by decide +kernel
theorem dX5_strike_43 : decode cX5_strike 43 = .ok (.iload_n 1, 1) := by decide +kernel
theorem dX5_strike_44 : decode cX5_strike 44 = .ok (.iload_n 3, 1) := by decide +kernel
theorem dX5_strike_45 : decode cX5_strike 45 = .ok (.ifCond .eq 7, 3) := by decide +kernel
theorem dX5_strike_48 : decode cX5_strike 48 = .ok (.iconst 0, 1) := by decide +kernel
theorem dX5_strike_49 : decode cX5_strike 49 = .ok (.goto 4, 3) := by decide +kernel
theorem dX5_strike_52 : decode cX5_strike 52 = .ok (.iload_n 2, 1) := by decide +kernel
theorem dX5_strike_53 : decode cX5_strike 53 = .ok (.iastore, 1) := by decide +kernel
theorem dX5_strike_54 : decode cX5_strike 54 = .ok (.iload_n 3, 1) := by decide +kernel
theorem dX5_strike_55 : decode cX5_strike 55 = .ok (.ireturn, 1) := by decide +kernel
set_option maxRecDepth 20000 in
theorem ggX5_told_X5_isEvent : GoodIn wsX5_told wsX5_isEvent := goodIn_r _ [10, 11, 2, 12, 13, 14, 15, 16, 17, 18, 19, 20, 21, 22, 23, 24, 25, 26, 27, 28, 29, 30, 31, 32, 33, 34, 35, 36, 37, 38, 39, 40, 41, 42, 43, 44, 45, 46, 47, 48] (by decide +kernel) (by decide +kernel)
set_option maxRecDepth 20000 in
theorem gX5_told_X5_isEvent : GoodIn wsX5_told (wsV RX5 214 RX5 yX5_isEvent wsX5_isEvent) := goodIn_app (goodIn_of _ (by decide +kernel)) ggX5_told_X5_isEvent
theorem dX5_told_0 : decode cX5_told 0 = .ok (.aload_n 0, 1) := by decide +kernel
theorem dX5_told_1 : decode cX5_told 1 = .ok (.iconst 0, 1) := by decide +kernel
theorem dX5_told_2 : decode cX5_told 2 = .ok (.putfield 56, 3) := by decide +kernel
theorem dX5_told_5 : decode cX5_told 5 = .ok (.aload_n 0, 1) := by decide +kernel
theorem dX5_told_6 : decode cX5_told 6 = .ok (.iload_n 1, 1) := by decide +kernel
theorem dX5_told_7 : decode cX5_told 7 = .ok (.invokevirtual 214, 3) := by decide +kernel
theorem dX5_told_10 : decode cX5_told 10 = .ok (.ifCond .eq 12, 3) := by decide +kernel
theorem dX5_told_13 : decode cX5_told 13 = .ok (.iload_n 2, 1) := by decide +kernel
theorem dX5_told_14 : decode cX5_told 14 = .ok (.ifCond .lt 8, 3) := by decide +kernel
theorem dX5_told_17 : decode cX5_told 17 = .ok (.iload_n 2, 1) := by decide +kernel
theorem dX5_told_18 : decode cX5_told 18 = .ok (.iconst 3, 1) := by decide +kernel
theorem dX5_told_19 : decode cX5_told 19 = .ok (.if_icmp .le 5, 3) := by decide +kernel
theorem dX5_told_22 : decode cX5_told 22 = .ok (.iconst (-1), 1) := by decide +kernel
theorem dX5_told_23 : decode cX5_told 23 = .ok (.ireturn, 1) := by decide +kernel
theorem dX5_told_24 : decode cX5_told 24 = .ok (.iload_n 2, 1) := by decide +kernel
theorem dX5_told_25 : decode cX5_told 25 = .ok (.ifCond .ne 14, 3) := by decide +kernel
theorem dX5_told_28 : decode cX5_told 28 = .ok (.aload_n 0, 1) := by decide +kernel
theorem dX5_told_29 : decode cX5_told 29 = .ok (.getfield 35, 3) := by decide +kernel
theorem dX5_told_32 : decode cX5_told 32 = .ok (.iload_n 1, 1) := by decide +kernel
theorem dX5_told_33 : decode cX5_told 33 = .ok (.iaload, 1) := by decide +kernel
theorem dX5_told_34 : decode cX5_told 34 = .ok (.iconst 1, 1) := by decide +kernel
theorem dX5_told_35 : decode cX5_told 35 = .ok (.isub, 1) := by decide +kernel
theorem dX5_told_36 : decode cX5_told 36 = .ok (.goto 37, 3) := by decide +kernel
theorem dX5_told_39 : decode cX5_told 39 = .ok (.iload_n 2, 1) := by decide +kernel
theorem dX5_told_40 : decode cX5_told 40 = .ok (.iconst 1, 1) := by decide +kernel
theorem dX5_told_41 : decode cX5_told 41 = .ok (.if_icmp .ne 12, 3) := by decide +kernel
theorem dX5_told_44 : decode cX5_told 44 = .ok (.aload_n 0, 1) := by decide +kernel
theorem dX5_told_45 : decode cX5_told 45 = .ok (.getfield 38, 3) := by decide +kernel
theorem dX5_told_48 : decode cX5_told 48 = .ok (.iload_n 1, 1) := by decide +kernel
theorem dX5_told_49 : decode cX5_told 49 = .ok (.iaload, 1) := by decide +kernel
theorem dX5_told_50 : decode cX5_told 50 = .ok (.goto 23, 3) := by decide +kernel
theorem dX5_told_53 : decode cX5_told 53 = .ok (.iload_n 2, 1) := by decide +kernel
theorem dX5_told_54 : decode cX5_told 54 = .ok (.iconst 2, 1) := by decide +kernel
theorem dX5_told_55 : decode cX5_told 55 = .ok (.if_icmp .ne 12, 3) := by decide +kernel
theorem dX5_told_58 : decode cX5_told 58 = .ok (.aload_n 0, 1) := by decide +kernel
theorem dX5_told_59 : decode cX5_told 59 = .ok (.getfield 41, 3) := by decide +kernel
theorem dX5_told_62 : decode cX5_told 62 = .ok (.iload_n 1, 1) := by decide +kernel
theorem dX5_told_63 : decode cX5_told 63 = .ok (.iaload, 1) := by decide +kernel
theorem dX5_told_64 : decode cX5_told 64 = .ok (.goto 9, 3) := by decide +kernel
theorem dX5_told_67 : decode cX5_told 67 = .ok (.aload_n 0, 1) := by decide +kernel
theorem dX5_told_68 : decode cX5_told 68 = .ok (.getfield 47, 3) := by decide +kernel
theorem dX5_told_71 : decode cX5_told 71 = .ok (.iload_n 1, 1) := by decide +kernel
theorem dX5_told_72 : decode cX5_told 72 = .ok (.iaload, 1) := by decide +kernel
theorem dX5_told_73 : decode cX5_told 73 = .ok (.ireturn, 1) := by decide +kernel
set_option maxRecDepth 20000 in
theorem ggX5_value_X5_isPart : GoodIn wsX5_value wsX5_isPart := goodIn_r _ [12, 13, 113, 114, 115, 116, 117, 118, 119, 120, 121, 122, 123, 124, 125, 126, 127, 128, 129, 130, 131, 132, 133, 134, 135, 136, 137, 138, 139, 140, 141, 142, 143, 144, 145, 146, 147, 148, 149] (by decide +kernel) (by decide +kernel)
set_option maxRecDepth 20000 in
theorem gX5_value_X5_isPart : GoodIn wsX5_value (wsV RX5 202 RX5 yX5_isPart wsX5_isPart) := goodIn_app (goodIn_of _ (by decide +kernel)) ggX5_value_X5_isPart
set_option maxRecDepth 20000 in
theorem ggX5_value_X5_isMonth : GoodIn wsX5_value wsX5_isMonth := goodIn_r _ [16] (by decide +kernel) (by decide +kernel)
set_option maxRecDepth 20000 in
theorem gX5_value_X5_isMonth : GoodIn wsX5_value (va_wsS RX5 194 yX5_isMonth wsX5_isMonth) := goodIn_app (goodIn_of _ (by decide +kernel)) ggX5_value_X5_isMonth
set_option maxRecDepth 20000 in
theorem ggX5_value_X5_reckon : GoodIn wsX5_value wsX5_reckon := goodIn_r _ [20, 21, 22, 23, 24, 11, 25, 26, 27, 2, 28, 6, 29, 7, 30, 31, 32, 33, 34, 35, 36, 3, 4, 5, 37, 38, 39, 40, 41, 42, 43, 44, 45, 46, 47, 48, 49, 50, 51, 52, 53, 54, 55, 56, 57, 58, 59, 60, 61, 62, 63, 64, 65, 66, 67, 68, 69, 70, 71, 72, 73, 74, 75, 76, 77, 78, 79, 80, 81, 82, 83, 84, 85, 86, 87, 88, 89, 90, 91, 92, 93, 94, 95, 96, 97, 98, 99, 100, 101, 102, 103, 104, 105, 106, 107, 108, 109, 110, 111, 112, 113, 114, 115, 116, 117, 118, 119, 120, 121, 122, 123, 124, 125, 126, 127, 128, 129, 130, 131, 132, 133, 134, 135, 136, 137, 138, 139, 140, 141, 142, 143, 144, 145, 146, 147, 148, 149] (by decide +kernel) (by decide +kernel)
set_option maxRecDepth 20000 in
theorem gX5_value_X5_reckon : GoodIn wsX5_value (wsV RX5 205 RX5 yX5_reckon wsX5_reckon) := goodIn_app (goodIn_of _ (by decide +kernel)) ggX5_value_X5_reckon
set_option maxRecDepth 20000 in
theorem ggX5_value_X5_book : GoodIn wsX5_value wsX5_book := goodIn_r _ [56, 2, 3, 113, 114, 115, 116, 117, 118, 119, 120, 121, 122, 123, 124, 125, 126, 127, 128, 129, 130, 131, 132, 133, 134, 135, 136, 137, 138, 139, 140, 141, 142, 143, 144, 145, 146, 147, 148, 149] (by decide +kernel) (by decide +kernel)
set_option maxRecDepth 20000 in
theorem gX5_value_X5_book : GoodIn wsX5_value (wsV RX5 75 RX5 yX5_book wsX5_book) := goodIn_app (goodIn_of _ (by decide +kernel)) ggX5_value_X5_book
theorem dX5_value_0 : decode cX5_value 0 = .ok (.aload_n 0, 1) := by decide +kernel
theorem dX5_value_1 : decode cX5_value 1 = .ok (.aload_n 0, 1) := by decide +kernel
theorem dX5_value_2 : decode cX5_value 2 = .ok (.iload_n 1, 1) := by decide +kernel
theorem dX5_value_3 : decode cX5_value 3 = .ok (.invokevirtual 202, 3) := by decide +kernel
theorem dX5_value_6 : decode cX5_value 6 = .ok (.ifCond .eq 24, 3) := by decide +kernel
theorem dX5_value_9 : decode cX5_value 9 = .ok (.iload_n 2, 1) := by decide +kernel
theorem dX5_value_10 : decode cX5_value 10 = .ok (.invokestatic 194, 3) := by decide +kernel
theorem dX5_value_13 : decode cX5_value 13 = .ok (.ifCond .eq 17, 3) := by decide +kernel
theorem dX5_value_16 : decode cX5_value 16 = .ok (.iload_n 3, 1) := by decide +kernel
theorem dX5_value_17 : decode cX5_value 17 = .ok (.ifCond .lt 13, 3) := by decide +kernel
theorem dX5_value_20 : decode cX5_value 20 = .ok (.iload_n 3, 1) := by decide +kernel
theorem dX5_value_21 : decode cX5_value 21 = .ok (.bipush 6, 2) := by decide +kernel
theorem dX5_value_23 : decode cX5_value 23 = .ok (.if_icmp .gt 7, 3) := by decide +kernel
theorem dX5_value_26 : decode cX5_value 26 = .ok (.iconst 0, 1) := by decide +kernel
theorem dX5_value_27 : decode cX5_value 27 = .ok (.goto 4, 3) := by decide +kernel
theorem dX5_value_30 : decode cX5_value 30 = .ok (.iconst 1, 1) := by decide +kernel
theorem dX5_value_31 : decode cX5_value 31 = .ok (.putfield 56, 3) := by decide +kernel
theorem dX5_value_34 : decode cX5_value 34 = .ok (.aload_n 0, 1) := by decide +kernel
theorem dX5_value_35 : decode cX5_value 35 = .ok (.getfield 56, 3) := by decide +kernel
theorem dX5_value_38 : decode cX5_value 38 = .ok (.ifCond .le 5, 3) := by decide +kernel
theorem dX5_value_41 : decode cX5_value 41 = .ok (.lconst 0, 1) := by decide +kernel
theorem dX5_value_42 : decode cX5_value 42 = .ok (.lreturn, 1) := by decide +kernel
theorem dX5_value_43 : decode cX5_value 43 = .ok (.aload_n 0, 1) := by decide +kernel
theorem dX5_value_44 : decode cX5_value 44 = .ok (.iload_n 1, 1) := by decide +kernel
theorem dX5_value_45 : decode cX5_value 45 = .ok (.iload_n 2, 1) := by decide +kernel
theorem dX5_value_46 : decode cX5_value 46 = .ok (.invokevirtual 205, 3) := by decide +kernel
theorem dX5_value_49 : decode cX5_value 49 = .ok (.pop, 1) := by decide +kernel
theorem dX5_value_50 : decode cX5_value 50 = .ok (.iload_n 3, 1) := by decide +kernel
theorem dX5_value_51 : decode cX5_value 51 = .ok (.tableswitch 67 0 5 #[37, 42, 47, 52, 57, 62], 37) := by decide +kernel
theorem dX5_value_88 : decode cX5_value 88 = .ok (.aload_n 0, 1) := by decide +kernel
theorem dX5_value_89 : decode cX5_value 89 = .ok (.getfield 65, 3) := by decide +kernel
theorem dX5_value_92 : decode cX5_value 92 = .ok (.lreturn, 1) := by decide +kernel
theorem dX5_value_93 : decode cX5_value 93 = .ok (.aload_n 0, 1) := by decide +kernel
theorem dX5_value_94 : decode cX5_value 94 = .ok (.getfield 69, 3) := by decide +kernel
theorem dX5_value_97 : decode cX5_value 97 = .ok (.lreturn, 1) := by decide +kernel
theorem dX5_value_98 : decode cX5_value 98 = .ok (.aload_n 0, 1) := by decide +kernel
theorem dX5_value_99 : decode cX5_value 99 = .ok (.invokevirtual 75, 3) := by decide +kernel
theorem dX5_value_102 : decode cX5_value 102 = .ok (.lreturn, 1) := by decide +kernel
theorem dX5_value_103 : decode cX5_value 103 = .ok (.aload_n 0, 1) := by decide +kernel
theorem dX5_value_104 : decode cX5_value 104 = .ok (.getfield 106, 3) := by decide +kernel
theorem dX5_value_107 : decode cX5_value 107 = .ok (.lreturn, 1) := by decide +kernel
theorem dX5_value_108 : decode cX5_value 108 = .ok (.aload_n 0, 1) := by decide +kernel
theorem dX5_value_109 : decode cX5_value 109 = .ok (.getfield 109, 3) := by decide +kernel
theorem dX5_value_112 : decode cX5_value 112 = .ok (.lreturn, 1) := by decide +kernel
theorem dX5_value_113 : decode cX5_value 113 = .ok (.aload_n 0, 1) := by decide +kernel
theorem dX5_value_114 : decode cX5_value 114 = .ok (.getfield 79, 3) := by decide +kernel
theorem dX5_value_117 : decode cX5_value 117 = .ok (.lreturn, 1) := by decide +kernel
theorem dX5_value_118 : decode cX5_value 118 = .ok (.aload_n 0, 1) := by decide +kernel
theorem dX5_value_119 : decode cX5_value 119 = .ok (.getfield 85, 3) := by decide +kernel
theorem dX5_value_122 : decode cX5_value 122 = .ok (.i2l, 1) := by decide +kernel
theorem dX5_value_123 : decode cX5_value 123 = .ok (.lreturn, 1) := by decide +kernel
set_option maxRecDepth 20000 in
theorem ggX5_charge_X5_isPart : GoodIn wsX5_charge wsX5_isPart := goodIn_r _ [7, 8, 113, 114, 115, 116, 117, 118, 119, 120, 121, 122, 123, 124, 125, 126, 127, 128, 129, 130, 131, 132, 133, 134, 135, 136, 137, 138, 139, 140, 141, 142, 143, 144, 145, 146, 147, 148, 149] (by decide +kernel) (by decide +kernel)
set_option maxRecDepth 20000 in
theorem gX5_charge_X5_isPart : GoodIn wsX5_charge (wsV RX5 202 RX5 yX5_isPart wsX5_isPart) := goodIn_app (goodIn_of _ (by decide +kernel)) ggX5_charge_X5_isPart
set_option maxRecDepth 20000 in
theorem ggX5_charge_X5_isMonth : GoodIn wsX5_charge wsX5_isMonth := goodIn_r _ [11] (by decide +kernel) (by decide +kernel)
set_option maxRecDepth 20000 in
theorem gX5_charge_X5_isMonth : GoodIn wsX5_charge (va_wsS RX5 194 yX5_isMonth wsX5_isMonth) := goodIn_app (goodIn_of _ (by decide +kernel)) ggX5_charge_X5_isMonth
set_option maxRecDepth 20000 in
theorem ggX5_charge_X5_reckon : GoodIn wsX5_charge wsX5_reckon := goodIn_r _ [15, 16, 17, 18, 19, 6, 20, 21, 22, 23, 24, 25, 26, 27, 28, 29, 30, 31, 32, 33, 34, 35, 36, 37, 38, 39, 40, 2, 41, 42, 43, 44, 45, 46, 47, 48, 49, 50, 51, 52, 53, 54, 55, 56, 57, 58, 59, 60, 61, 62, 63, 64, 65, 66, 67, 68, 69, 70, 71, 72, 73, 74, 75, 76, 77, 78, 79, 80, 81, 82, 83, 84, 85, 86, 87, 88, 89, 90, 91, 92, 93, 94, 95, 96, 97, 98, 99, 100, 101, 102, 103, 104, 105, 106, 107, 108, 109, 110, 111, 112, 113, 114, 115, 116, 117, 118, 119, 120, 121, 122, 123, 124, 125, 126, 127, 128, 129, 130, 131, 132, 133, 134, 135, 136, 137, 138, 139, 140, 141, 142, 143, 144, 145, 146, 147, 148, 149] (by decide +kernel) (by decide +kernel)
set_option maxRecDepth 20000 in
theorem gX5_charge_X5_reckon : GoodIn wsX5_charge (wsV RX5 205 RX5 yX5_reckon wsX5_reckon) := goodIn_app (goodIn_of _ (by decide +kernel)) ggX5_charge_X5_reckon
theorem dX5_charge_0 : decode cX5_charge 0 = .ok (.aload_n 0, 1) := by decide +kernel
theorem dX5_charge_1 : decode cX5_charge 1 = .ok (.aload_n 0, 1) := by decide +kernel
theorem dX5_charge_2 : decode cX5_charge 2 = .ok (.iload_n 1, 1) := by decide +kernel
theorem dX5_charge_3 : decode cX5_charge 3 = .ok (.invokevirtual 202, 3) := by decide +kernel
theorem dX5_charge_6 : decode cX5_charge 6 = .ok (.ifCond .eq 14, 3) := by decide +kernel
theorem dX5_charge_9 : decode cX5_charge 9 = .ok (.iload_n 2, 1) := by decide +kernel
theorem dX5_charge_10 : decode cX5_charge 10 = .ok (.invokestatic 194, 3) := by decide +kernel
theorem dX5_charge_13 : decode cX5_charge 13 = .ok (.ifCond .eq 7, 3) := by decide +kernel
theorem dX5_charge_16 : decode cX5_charge 16 = .ok (.iconst 0, 1) := by decide +kernel
theorem dX5_charge_17 : decode cX5_charge 17 = .ok (.goto 4, 3) := by decide +kernel
theorem dX5_charge_20 : decode cX5_charge 20 = .ok (.iconst 1, 1) := by decide +kernel
theorem dX5_charge_21 : decode cX5_charge 21 = .ok (.putfield 56, 3) := by decide +kernel
theorem dX5_charge_24 : decode cX5_charge 24 = .ok (.aload_n 0, 1) := by decide +kernel
theorem dX5_charge_25 : decode cX5_charge 25 = .ok (.getfield 56, 3) := by decide +kernel
theorem dX5_charge_28 : decode cX5_charge 28 = .ok (.ifCond .le 5, 3) := by decide +kernel
theorem dX5_charge_31 : decode cX5_charge 31 = .ok (.lconst 0, 1) := by decide +kernel
theorem dX5_charge_32 : decode cX5_charge 32 = .ok (.lreturn, 1) := by decide +kernel
theorem dX5_charge_33 : decode cX5_charge 33 = .ok (.aload_n 0, 1) := by decide +kernel
theorem dX5_charge_34 : decode cX5_charge 34 = .ok (.iload_n 1, 1) := by decide +kernel
theorem dX5_charge_35 : decode cX5_charge 35 = .ok (.iload_n 2, 1) := by decide +kernel
theorem dX5_charge_36 : decode cX5_charge 36 = .ok (.invokevirtual 205, 3) := by decide +kernel
theorem dX5_charge_39 : decode cX5_charge 39 = .ok (.pop, 1) := by decide +kernel
theorem dX5_charge_40 : decode cX5_charge 40 = .ok (.aload_n 0, 1) := by decide +kernel
theorem dX5_charge_41 : decode cX5_charge 41 = .ok (.getfield 152, 3) := by decide +kernel
theorem dX5_charge_44 : decode cX5_charge 44 = .ok (.lreturn, 1) := by decide +kernel
set_option maxRecDepth 20000 in
theorem ggX5_without_X5_isPart : GoodIn wsX5_without wsX5_isPart := goodIn_r _ [9, 10, 110, 111, 112, 113, 114, 115, 116, 117, 118, 119, 120, 121, 122, 123, 124, 125, 126, 127, 128, 129, 130, 131, 132, 133, 134, 135, 136, 137, 138, 139, 140, 141, 142, 143, 144, 145, 146] (by decide +kernel) (by decide +kernel)
set_option maxRecDepth 20000 in
theorem gX5_without_X5_isPart : GoodIn wsX5_without (wsV RX5 202 RX5 yX5_isPart wsX5_isPart) := goodIn_app (goodIn_of _ (by decide +kernel)) ggX5_without_X5_isPart
set_option maxRecDepth 20000 in
theorem ggX5_without_X5_isMonth : GoodIn wsX5_without wsX5_isMonth := goodIn_r _ [13] (by decide +kernel) (by decide +kernel)
set_option maxRecDepth 20000 in
theorem gX5_without_X5_isMonth : GoodIn wsX5_without (va_wsS RX5 194 yX5_isMonth wsX5_isMonth) := goodIn_app (goodIn_of _ (by decide +kernel)) ggX5_without_X5_isMonth
set_option maxRecDepth 20000 in
theorem ggX5_without_X5_go : GoodIn wsX5_without wsX5_go := goodIn_r _ [17, 3, 18, 19, 20, 21, 22, 23, 24, 25, 4, 26, 27, 28, 8, 29, 30, 31, 32, 33, 34, 35, 36, 37, 38, 39, 40, 41, 42, 43, 44, 45, 46, 47, 48, 49, 50, 51, 52, 53, 54, 55, 56, 57, 58, 59, 60, 61, 62, 63, 64, 65, 66, 67, 68, 69, 70, 71, 72, 73, 74, 75, 76, 77, 78, 79, 80, 81, 82, 83, 84, 85, 86, 87, 88, 89, 90, 91, 92, 93, 94, 95, 96, 97, 98, 99, 100, 101, 102, 103, 104, 105, 106, 107, 108, 109, 110, 111, 112, 113, 114, 115, 116, 117, 118, 119, 120, 121, 122, 123, 124, 125, 126, 127, 128, 129, 130, 131, 132, 133, 134, 135, 136, 137, 138, 139, 140, 141, 142, 143, 144, 145, 146] (by decide +kernel) (by decide +kernel)
set_option maxRecDepth 20000 in
theorem gX5_without_X5_go : GoodIn wsX5_without (wsV RX5 184 RX5 yX5_go wsX5_go) := goodIn_app (goodIn_of _ (by decide +kernel)) ggX5_without_X5_go
theorem dX5_without_0 : decode cX5_without 0 = .ok (.aload_n 0, 1) := by decide +kernel
theorem dX5_without_1 : decode cX5_without 1 = .ok (.aload_n 0, 1) := by decide +kernel
theorem dX5_without_2 : decode cX5_without 2 = .ok (.iload_n 1, 1) := by decide +kernel
theorem dX5_without_3 : decode cX5_without 3 = .ok (.invokevirtual 202, 3) := by decide +kernel
theorem dX5_without_6 : decode cX5_without 6 = .ok (.ifCond .eq 14, 3) := by decide +kernel
theorem dX5_without_9 : decode cX5_without 9 = .ok (.iload_n 2, 1) := by decide +kernel
theorem dX5_without_10 : decode cX5_without 10 = .ok (.invokestatic 194, 3) := by decide +kernel
theorem dX5_without_13 : decode cX5_without 13 = .ok (.ifCond .eq 7, 3) := by decide +kernel
theorem dX5_without_16 : decode cX5_without 16 = .ok (.iconst 0, 1) := by decide +kernel
theorem dX5_without_17 : decode cX5_without 17 = .ok (.goto 4, 3) := by decide +kernel
theorem dX5_without_20 : decode cX5_without 20 = .ok (.iconst 1, 1) := by decide +kernel
theorem dX5_without_21 : decode cX5_without 21 = .ok (.putfield 56, 3) := by decide +kernel
theorem dX5_without_24 : decode cX5_without 24 = .ok (.aload_n 0, 1) := by decide +kernel
theorem dX5_without_25 : decode cX5_without 25 = .ok (.getfield 56, 3) := by decide +kernel
theorem dX5_without_28 : decode cX5_without 28 = .ok (.ifCond .le 5, 3) := by decide +kernel
theorem dX5_without_31 : decode cX5_without 31 = .ok (.lconst 0, 1) := by decide +kernel
theorem dX5_without_32 : decode cX5_without 32 = .ok (.lreturn, 1) := by decide +kernel
theorem dX5_without_33 : decode cX5_without 33 = .ok (.aload_n 0, 1) := by decide +kernel
theorem dX5_without_34 : decode cX5_without 34 = .ok (.iload_n 1, 1) := by decide +kernel
theorem dX5_without_35 : decode cX5_without 35 = .ok (.iload_n 2, 1) := by decide +kernel
theorem dX5_without_36 : decode cX5_without 36 = .ok (.iconst 1, 1) := by decide +kernel
theorem dX5_without_37 : decode cX5_without 37 = .ok (.invokevirtual 184, 3) := by decide +kernel
theorem dX5_without_40 : decode cX5_without 40 = .ok (.istore_n 3, 1) := by decide +kernel
theorem dX5_without_41 : decode cX5_without 41 = .ok (.iload_n 3, 1) := by decide +kernel
theorem dX5_without_42 : decode cX5_without 42 = .ok (.iload_n 2, 1) := by decide +kernel
theorem dX5_without_43 : decode cX5_without 43 = .ok (.if_icmp .gt 9, 3) := by decide +kernel
theorem dX5_without_46 : decode cX5_without 46 = .ok (.ldc2_w 217, 3) := by decide +kernel
theorem dX5_without_49 : decode cX5_without 49 = .ok (.goto 23, 3) := by decide +kernel
theorem dX5_without_52 : decode cX5_without 52 = .ok (.iload_n 2, 1) := by decide +kernel
theorem dX5_without_53 : decode cX5_without 53 = .ok (.aload_n 0, 1) := by decide +kernel
theorem dX5_without_54 : decode cX5_without 54 = .ok (.getfield 16, 3) := by decide +kernel
theorem dX5_without_57 : decode cX5_without 57 = .ok (.iload_n 1, 1) := by decide +kernel
theorem dX5_without_58 : decode cX5_without 58 = .ok (.iaload, 1) := by decide +kernel
theorem dX5_without_59 : decode cX5_without 59 = .ok (.if_icmp .ge 7, 3) := by decide +kernel
theorem dX5_without_62 : decode cX5_without 62 = .ok (.lconst 0, 1) := by decide +kernel
theorem dX5_without_63 : decode cX5_without 63 = .ok (.goto 9, 3) := by decide +kernel
theorem dX5_without_66 : decode cX5_without 66 = .ok (.aload_n 0, 1) := by decide +kernel
theorem dX5_without_67 : decode cX5_without 67 = .ok (.getfield 53, 3) := by decide +kernel
theorem dX5_without_70 : decode cX5_without 70 = .ok (.iload_n 2, 1) := by decide +kernel
theorem dX5_without_71 : decode cX5_without 71 = .ok (.laload, 1) := by decide +kernel
theorem dX5_without_72 : decode cX5_without 72 = .ok (.lreturn, 1) := by decide +kernel
set_option maxRecDepth 20000 in
theorem ggX5_post_X5_reckon : GoodIn wsX5_post wsX5_reckon := goodIn_r _ [11, 12, 13, 14, 15, 10, 16, 4, 17, 18, 19, 20, 21, 22, 23, 24, 25, 26, 27, 28, 29, 30, 31, 32, 33, 34, 35, 36, 5, 37, 38, 39, 40, 41, 42, 43, 44, 45, 46, 47, 48, 49, 50, 51, 52, 53, 54, 55, 56, 57, 58, 59, 60, 61, 62, 63, 64, 65, 66, 67, 68, 69, 70, 71, 72, 73, 74, 75, 76, 77, 78, 79, 80, 81, 82, 83, 84, 85, 86, 87, 88, 89, 90, 91, 92, 93, 94, 95, 96, 97, 98, 99, 100, 101, 102, 103, 104, 105, 106, 107, 112, 113, 114, 115, 116, 117, 118, 119, 120, 121, 122, 123, 124, 125, 126, 127, 128, 129, 130, 131, 132, 133, 134, 135, 136, 137, 138, 139, 140, 141, 142, 143, 144, 145, 146, 147, 148] (by decide +kernel) (by decide +kernel)
set_option maxRecDepth 20000 in
theorem gX5_post_X5_reckon : GoodIn wsX5_post (wsV RX5 205 RX5 yX5_reckon wsX5_reckon) := goodIn_app (goodIn_of _ (by decide +kernel)) ggX5_post_X5_reckon
set_option maxRecDepth 20000 in
theorem ggX5_post_X5_totalOf : GoodIn wsX5_post wsX5_totalOf := goodIn_r _ [111, 1, 6, 112, 113, 114, 115, 116, 117, 118, 119, 120, 121, 122, 123, 124, 125, 126, 127, 128, 129, 130, 131, 132, 133, 134, 135, 136, 137, 138, 139, 140, 141, 142, 143, 144, 145, 146, 147, 148] (by decide +kernel) (by decide +kernel)
set_option maxRecDepth 20000 in
theorem gX5_post_X5_totalOf : GoodIn wsX5_post (wsV RX5 222 RX5 yX5_totalOf wsX5_totalOf) := goodIn_app (goodIn_of _ (by decide +kernel)) ggX5_post_X5_totalOf
theorem dX5_post_0 : decode cX5_post 0 = .ok (.aload_n 0, 1) := by decide +kernel
theorem dX5_post_1 : decode cX5_post 1 = .ok (.aload_n 0, 1) := by decide +kernel
theorem dX5_post_2 : decode cX5_post 2 = .ok (.getfield 219, 3) := by decide +kernel
theorem dX5_post_5 : decode cX5_post 5 = .ok (.bipush 36, 2) := by decide +kernel
theorem dX5_post_7 : decode cX5_post 7 = .ok (.if_icmp .ne 7, 3) := by decide +kernel
theorem dX5_post_10 : decode cX5_post 10 = .ok (.iconst 1, 1) := by decide +kernel
theorem dX5_post_11 : decode cX5_post 11 = .ok (.goto 4, 3) := by decide +kernel
theorem dX5_post_14 : decode cX5_post 14 = .ok (.iconst 0, 1) := by decide +kernel
theorem dX5_post_15 : decode cX5_post 15 = .ok (.putfield 56, 3) := by decide +kernel
theorem dX5_post_18 : decode cX5_post 18 = .ok (.aload_n 0, 1) := by decide +kernel
theorem dX5_post_19 : decode cX5_post 19 = .ok (.getfield 56, 3) := by decide +kernel
theorem dX5_post_22 : decode cX5_post 22 = .ok (.ifCond .le 5, 3) := by decide +kernel
theorem dX5_post_25 : decode cX5_post 25 = .ok (.lconst 0, 1) := by decide +kernel
theorem dX5_post_26 : decode cX5_post 26 = .ok (.lreturn, 1) := by decide +kernel
theorem dX5_post_27 : decode cX5_post 27 = .ok (.lconst 0, 1) := by decide +kernel
theorem dX5_post_28 : decode cX5_post 28 = .ok (.lstore_n 1, 1) := by decide +kernel
theorem dX5_post_29 : decode cX5_post 29 = .ok (.iconst 0, 1) := by decide +kernel
theorem dX5_post_30 : decode cX5_post 30 = .ok (.istore_n 3, 1) := by decide +kernel
theorem dX5_post_31 : decode cX5_post 31 = .ok (.iload_n 3, 1) := by decide +kernel
theorem dX5_post_32 : decode cX5_post 32 = .ok (.aload_n 0, 1) := by decide +kernel
theorem dX5_post_33 : decode cX5_post 33 = .ok (.getfield 62, 3) := by decide +kernel
theorem dX5_post_36 : decode cX5_post 36 = .ok (.if_icmp .ge 68, 3) := by decide +kernel
theorem dX5_post_39 : decode cX5_post 39 = .ok (.lconst 0, 1) := by decide +kernel
theorem dX5_post_40 : decode cX5_post 40 = .ok (.lstore 4, 2) := by decide +kernel
theorem dX5_post_42 : decode cX5_post 42 = .ok (.aload_n 0, 1) := by decide +kernel
theorem dX5_post_43 : decode cX5_post 43 = .ok (.getfield 16, 3) := by decide +kernel
theorem dX5_post_46 : decode cX5_post 46 = .ok (.iload_n 3, 1) := by decide +kernel
theorem dX5_post_47 : decode cX5_post 47 = .ok (.iaload, 1) := by decide +kernel
theorem dX5_post_48 : decode cX5_post 48 = .ok (.aload_n 0, 1) := by decide +kernel
theorem dX5_post_49 : decode cX5_post 49 = .ok (.getfield 219, 3) := by decide +kernel
theorem dX5_post_52 : decode cX5_post 52 = .ok (.if_icmp .gt 25, 3) := by decide +kernel
theorem dX5_post_55 : decode cX5_post 55 = .ok (.aload_n 0, 1) := by decide +kernel
theorem dX5_post_56 : decode cX5_post 56 = .ok (.iload_n 3, 1) := by decide +kernel
theorem dX5_post_57 : decode cX5_post 57 = .ok (.aload_n 0, 1) := by decide +kernel
theorem dX5_post_58 : decode cX5_post 58 = .ok (.getfield 219, 3) := by decide +kernel
theorem dX5_post_61 : decode cX5_post 61 = .ok (.invokevirtual 205, 3) := by decide +kernel
theorem dX5_post_64 : decode cX5_post 64 = .ok (.pop, 1) := by decide +kernel
theorem dX5_post_65 : decode cX5_post 65 = .ok (.aload_n 0, 1) := by decide +kernel
theorem dX5_post_66 : decode cX5_post 66 = .ok (.getfield 163, 3) := by decide +kernel
theorem dX5_post_69 : decode cX5_post 69 = .ok (.aload_n 0, 1) := by decide +kernel
theorem dX5_post_70 : decode cX5_post 70 = .ok (.iload_n 3, 1) := by decide +kernel
theorem dX5_post_71 : decode cX5_post 71 = .ok (.invokevirtual 222, 3) := by decide +kernel
theorem dX5_post_74 : decode cX5_post 74 = .ok (.lsub, 1) := by decide +kernel
theorem dX5_post_75 : decode cX5_post 75 = .ok (.lstore 4, 2) := by decide +kernel
theorem dX5_post_77 : decode cX5_post 77 = .ok (.aload_n 0, 1) := by decide +kernel
theorem dX5_post_78 : decode cX5_post 78 = .ok (.getfield 32, 3) := by decide +kernel
theorem dX5_post_81 : decode cX5_post 81 = .ok (.bipush 36, 2) := by decide +kernel
theorem dX5_post_83 : decode cX5_post 83 = .ok (.iload_n 3, 1) := by decide +kernel
theorem dX5_post_84 : decode cX5_post 84 = .ok (.imul, 1) := by decide +kernel
theorem dX5_post_85 : decode cX5_post 85 = .ok (.aload_n 0, 1) := by decide +kernel
theorem dX5_post_86 : decode cX5_post 86 = .ok (.getfield 219, 3) := by decide +kernel
theorem dX5_post_89 : decode cX5_post 89 = .ok (.iadd, 1) := by decide +kernel
theorem dX5_post_90 : decode cX5_post 90 = .ok (.lload 4, 2) := by decide +kernel
theorem dX5_post_92 : decode cX5_post 92 = .ok (.lastore, 1) := by decide +kernel
theorem dX5_post_93 : decode cX5_post 93 = .ok (.lload_n 1, 1) := by decide +kernel
theorem dX5_post_94 : decode cX5_post 94 = .ok (.lload 4, 2) := by decide +kernel
theorem dX5_post_96 : decode cX5_post 96 = .ok (.ladd, 1) := by decide +kernel
theorem dX5_post_97 : decode cX5_post 97 = .ok (.lstore_n 1, 1) := by decide +kernel
theorem dX5_post_98 : decode cX5_post 98 = .ok (.iinc 3 1, 3) := by decide +kernel
theorem dX5_post_101 : decode cX5_post 101 = .ok (.goto (-70), 3) := by decide +kernel
theorem dX5_post_104 : decode cX5_post 104 = .ok (.aload_n 0, 1) := by decide +kernel
theorem dX5_post_105 : decode cX5_post 105 = .ok (.aload_n 0, 1) := by decide +kernel
theorem dX5_post_106 : decode cX5_post 106 = .ok (.getfield 219, 3) := by decide +kernel
theorem dX5_post_109 : decode cX5_post 109 = .ok (.iconst 1, 1) := by decide +kernel
theorem dX5_post_110 : decode cX5_post 110 = .ok (.iadd, 1) := by decide +kernel
theorem dX5_post_111 : decode cX5_post 111 = .ok (.putfield 219, 3) := by decide +kernel
theorem dX5_post_114 : decode cX5_post 114 = .ok (.lload_n 1, 1) := by decide +kernel
theorem dX5_post_115 : decode cX5_post 115 = .ok (.lreturn, 1) := by decide +kernel
theorem dX5_totalOf_0 : decode cX5_totalOf 0 = .ok (.lconst 0, 1) := by decide +kernel
theorem dX5_totalOf_1 : decode cX5_totalOf 1 = .ok (.lstore_n 2, 1) := by decide +kernel
theorem dX5_totalOf_2 : decode cX5_totalOf 2 = .ok (.iconst 0, 1) := by decide +kernel
theorem dX5_totalOf_3 : decode cX5_totalOf 3 = .ok (.istore 4, 2) := by decide +kernel
theorem dX5_totalOf_5 : decode cX5_totalOf 5 = .ok (.iload 4, 2) := by decide +kernel
theorem dX5_totalOf_7 : decode cX5_totalOf 7 = .ok (.aload_n 0, 1) := by decide +kernel
theorem dX5_totalOf_8 : decode cX5_totalOf 8 = .ok (.getfield 219, 3) := by decide +kernel
theorem dX5_totalOf_11 : decode cX5_totalOf 11 = .ok (.if_icmp .ge 24, 3) := by decide +kernel
theorem dX5_totalOf_14 : decode cX5_totalOf 14 = .ok (.lload_n 2, 1) := by decide +kernel
theorem dX5_totalOf_15 : decode cX5_totalOf 15 = .ok (.aload_n 0, 1) := by decide +kernel
theorem dX5_totalOf_16 : decode cX5_totalOf 16 = .ok (.getfield 32, 3) := by decide +kernel
theorem dX5_totalOf_19 : decode cX5_totalOf 19 = .ok (.bipush 36, 2) := by decide +kernel
theorem dX5_totalOf_21 : decode cX5_totalOf 21 = .ok (.iload_n 1, 1) := by decide +kernel
theorem dX5_totalOf_22 : decode cX5_totalOf 22 = .ok (.imul, 1) := by decide +kernel
theorem dX5_totalOf_23 : decode cX5_totalOf 23 = .ok (.iload 4, 2) := by decide +kernel
theorem dX5_totalOf_25 : decode cX5_totalOf 25 = .ok (.iadd, 1) := by decide +kernel
theorem dX5_totalOf_26 : decode cX5_totalOf 26 = .ok (.laload, 1) := by decide +kernel
theorem dX5_totalOf_27 : decode cX5_totalOf 27 = .ok (.ladd, 1) := by decide +kernel
theorem dX5_totalOf_28 : decode cX5_totalOf 28 = .ok (.lstore_n 2, 1) := by decide +kernel
theorem dX5_totalOf_29 : decode cX5_totalOf 29 = .ok (.iinc 4 1, 3) := by decide +kernel
theorem dX5_totalOf_32 : decode cX5_totalOf 32 = .ok (.goto (-27), 3) := by decide +kernel
theorem dX5_totalOf_35 : decode cX5_totalOf 35 = .ok (.lload_n 2, 1) := by decide +kernel
theorem dX5_totalOf_36 : decode cX5_totalOf 36 = .ok (.lreturn, 1) := by decide +kernel
theorem dX5_months_0 : decode cX5_months 0 = .ok (.aload_n 0, 1) := by decide +kernel
theorem dX5_months_1 : decode cX5_months 1 = .ok (.iconst 0, 1) := by decide +kernel
theorem dX5_months_2 : decode cX5_months 2 = .ok (.putfield 56, 3) := by decide +kernel
theorem dX5_months_5 : decode cX5_months 5 = .ok (.aload_n 0, 1) := by decide +kernel
theorem dX5_months_6 : decode cX5_months 6 = .ok (.getfield 219, 3) := by decide +kernel
theorem dX5_months_9 : decode cX5_months 9 = .ok (.ireturn, 1) := by decide +kernel
set_option maxRecDepth 20000 in
theorem ggX5_posted_X5_isPart : GoodIn wsX5_posted wsX5_isPart := goodIn_r _ [7, 8, 12, 13, 14, 15, 16, 17, 18, 19, 20, 21, 22, 23, 24, 25, 26, 27, 28, 29, 30, 31, 32, 33, 34, 35, 36, 37, 38, 39, 40, 41, 42, 43, 44, 45, 46, 47, 48] (by decide +kernel) (by decide +kernel)
set_option maxRecDepth 20000 in
theorem gX5_posted_X5_isPart : GoodIn wsX5_posted (wsV RX5 202 RX5 yX5_isPart wsX5_isPart) := goodIn_app (goodIn_of _ (by decide +kernel)) ggX5_posted_X5_isPart
set_option maxRecDepth 20000 in
theorem ggX5_posted_X5_isMonth : GoodIn wsX5_posted wsX5_isMonth := goodIn_r _ [11] (by decide +kernel) (by decide +kernel)
set_option maxRecDepth 20000 in
theorem gX5_posted_X5_isMonth : GoodIn wsX5_posted (va_wsS RX5 194 yX5_isMonth wsX5_isMonth) := goodIn_app (goodIn_of _ (by decide +kernel)) ggX5_posted_X5_isMonth
theorem dX5_posted_0 : decode cX5_posted 0 = .ok (.aload_n 0, 1) := by decide +kernel
theorem dX5_posted_1 : decode cX5_posted 1 = .ok (.aload_n 0, 1) := by decide +kernel
theorem dX5_posted_2 : decode cX5_posted 2 = .ok (.iload_n 1, 1) := by decide +kernel
theorem dX5_posted_3 : decode cX5_posted 3 = .ok (.invokevirtual 202, 3) := by decide +kernel
theorem dX5_posted_6 : decode cX5_posted 6 = .ok (.ifCond .eq 14, 3) := by decide +kernel
theorem dX5_posted_9 : decode cX5_posted 9 = .ok (.iload_n 2, 1) := by decide +kernel
theorem dX5_posted_10 : decode cX5_posted 10 = .ok (.invokestatic 194, 3) := by decide +kernel
theorem dX5_posted_13 : decode cX5_posted 13 = .ok (.ifCond .eq 7, 3) := by decide +kernel
theorem dX5_posted_16 : decode cX5_posted 16 = .ok (.iconst 0, 1) := by decide +kernel
theorem dX5_posted_17 : decode cX5_posted 17 = .ok (.goto 4, 3) := by decide +kernel
theorem dX5_posted_20 : decode cX5_posted 20 = .ok (.iconst 1, 1) := by decide +kernel
theorem dX5_posted_21 : decode cX5_posted 21 = .ok (.putfield 56, 3) := by decide +kernel
theorem dX5_posted_24 : decode cX5_posted 24 = .ok (.aload_n 0, 1) := by decide +kernel
theorem dX5_posted_25 : decode cX5_posted 25 = .ok (.getfield 56, 3) := by decide +kernel
theorem dX5_posted_28 : decode cX5_posted 28 = .ok (.ifCond .le 7, 3) := by decide +kernel
theorem dX5_posted_31 : decode cX5_posted 31 = .ok (.lconst 0, 1) := by decide +kernel
theorem dX5_posted_32 : decode cX5_posted 32 = .ok (.goto 14, 3) := by decide +kernel
theorem dX5_posted_35 : decode cX5_posted 35 = .ok (.aload_n 0, 1) := by decide +kernel
theorem dX5_posted_36 : decode cX5_posted 36 = .ok (.getfield 32, 3) := by decide +kernel
theorem dX5_posted_39 : decode cX5_posted 39 = .ok (.bipush 36, 2) := by decide +kernel
theorem dX5_posted_41 : decode cX5_posted 41 = .ok (.iload_n 1, 1) := by decide +kernel
theorem dX5_posted_42 : decode cX5_posted 42 = .ok (.imul, 1) := by decide +kernel
theorem dX5_posted_43 : decode cX5_posted 43 = .ok (.iload_n 2, 1) := by decide +kernel
theorem dX5_posted_44 : decode cX5_posted 44 = .ok (.iadd, 1) := by decide +kernel
theorem dX5_posted_45 : decode cX5_posted 45 = .ok (.laload, 1) := by decide +kernel
theorem dX5_posted_46 : decode cX5_posted 46 = .ok (.lreturn, 1) := by decide +kernel
set_option maxRecDepth 20000 in
theorem ggX5_total_X5_isPart : GoodIn wsX5_total wsX5_isPart := goodIn_r _ [6, 7, 14, 15, 16, 17, 18, 19, 20, 21, 22, 23, 24, 25, 26, 27, 28, 29, 30, 31, 32, 33, 34, 35, 36, 37, 38, 39, 40, 41, 42, 43, 44, 45, 46, 47, 48, 49, 50] (by decide +kernel) (by decide +kernel)
set_option maxRecDepth 20000 in
theorem gX5_total_X5_isPart : GoodIn wsX5_total (wsV RX5 202 RX5 yX5_isPart wsX5_isPart) := goodIn_app (goodIn_of _ (by decide +kernel)) ggX5_total_X5_isPart
set_option maxRecDepth 20000 in
theorem ggX5_total_X5_totalOf : GoodIn wsX5_total wsX5_totalOf := goodIn_r _ [11, 12, 13, 14, 15, 16, 17, 18, 19, 20, 21, 22, 23, 24, 25, 26, 27, 28, 29, 30, 31, 32, 33, 34, 35, 36, 37, 38, 39, 40, 41, 42, 43, 44, 45, 46, 47, 48, 49, 50] (by decide +kernel) (by decide +kernel)
set_option maxRecDepth 20000 in
theorem gX5_total_X5_totalOf : GoodIn wsX5_total (wsV RX5 222 RX5 yX5_totalOf wsX5_totalOf) := goodIn_app (goodIn_of _ (by decide +kernel)) ggX5_total_X5_totalOf
theorem dX5_total_0 : decode cX5_total 0 = .ok (.aload_n 0, 1) := by decide +kernel
theorem dX5_total_1 : decode cX5_total 1 = .ok (.aload_n 0, 1) := by decide +kernel
theorem dX5_total_2 : decode cX5_total 2 = .ok (.iload_n 1, 1) := by decide +kernel
theorem dX5_total_3 : decode cX5_total 3 = .ok (.invokevirtual 202, 3) := by decide +kernel
theorem dX5_total_6 : decode cX5_total 6 = .ok (.ifCond .eq 7, 3) := by decide +kernel
theorem dX5_total_9 : decode cX5_total 9 = .ok (.iconst 0, 1) := by decide +kernel
theorem dX5_total_10 : decode cX5_total 10 = .ok (.goto 4, 3) := by decide +kernel
theorem dX5_total_13 : decode cX5_total 13 = .ok (.iconst 1, 1) := by decide +kernel
theorem dX5_total_14 : decode cX5_total 14 = .ok (.putfield 56, 3) := by decide +kernel
theorem dX5_total_17 : decode cX5_total 17 = .ok (.aload_n 0, 1) := by decide +kernel
theorem dX5_total_18 : decode cX5_total 18 = .ok (.getfield 56, 3) := by decide +kernel
theorem dX5_total_21 : decode cX5_total 21 = .ok (.ifCond .le 7, 3) := by decide +kernel
theorem dX5_total_24 : decode cX5_total 24 = .ok (.lconst 0, 1) := by decide +kernel
theorem dX5_total_25 : decode cX5_total 25 = .ok (.goto 8, 3) := by decide +kernel
theorem dX5_total_28 : decode cX5_total 28 = .ok (.aload_n 0, 1) := by decide +kernel
theorem dX5_total_29 : decode cX5_total 29 = .ok (.iload_n 1, 1) := by decide +kernel
theorem dX5_total_30 : decode cX5_total 30 = .ok (.invokevirtual 222, 3) := by decide +kernel
theorem dX5_total_33 : decode cX5_total 33 = .ok (.lreturn, 1) := by decide +kernel
theorem dX5_parts_0 : decode cX5_parts 0 = .ok (.aload_n 0, 1) := by decide +kernel
theorem dX5_parts_1 : decode cX5_parts 1 = .ok (.iconst 0, 1) := by decide +kernel
theorem dX5_parts_2 : decode cX5_parts 2 = .ok (.putfield 56, 3) := by decide +kernel
theorem dX5_parts_5 : decode cX5_parts 5 = .ok (.aload_n 0, 1) := by decide +kernel
theorem dX5_parts_6 : decode cX5_parts 6 = .ok (.getfield 62, 3) := by decide +kernel
theorem dX5_parts_9 : decode cX5_parts 9 = .ok (.ireturn, 1) := by decide +kernel
theorem dJ9_max_f86c9_0 : decode cJ9_max_f86c9 0 = .ok (.lload_n 0, 1) := by decide +kernel
theorem dJ9_max_f86c9_1 : decode cJ9_max_f86c9 1 = .ok (.lload_n 2, 1) := by decide +kernel
theorem dJ9_max_f86c9_2 : decode cJ9_max_f86c9 2 = .ok (.lcmp, 1) := by decide +kernel
theorem dJ9_max_f86c9_3 : decode cJ9_max_f86c9 3 = .ok (.ifCond .lt 7, 3) := by decide +kernel
theorem dJ9_max_f86c9_6 : decode cJ9_max_f86c9 6 = .ok (.lload_n 0, 1) := by decide +kernel
theorem dJ9_max_f86c9_7 : decode cJ9_max_f86c9 7 = .ok (.goto 4, 3) := by decide +kernel
theorem dJ9_max_f86c9_10 : decode cJ9_max_f86c9 10 = .ok (.lload_n 2, 1) := by decide +kernel
theorem dJ9_max_f86c9_11 : decode cJ9_max_f86c9 11 = .ok (.lreturn, 1) := by decide +kernel
theorem dJ9_min_f86c9_0 : decode cJ9_min_f86c9 0 = .ok (.lload_n 0, 1) := by decide +kernel
theorem dJ9_min_f86c9_1 : decode cJ9_min_f86c9 1 = .ok (.lload_n 2, 1) := by decide +kernel
theorem dJ9_min_f86c9_2 : decode cJ9_min_f86c9 2 = .ok (.lcmp, 1) := by decide +kernel
theorem dJ9_min_f86c9_3 : decode cJ9_min_f86c9 3 = .ok (.ifCond .gt 7, 3) := by decide +kernel
theorem dJ9_min_f86c9_6 : decode cJ9_min_f86c9 6 = .ok (.lload_n 0, 1) := by decide +kernel
theorem dJ9_min_f86c9_7 : decode cJ9_min_f86c9 7 = .ok (.goto 4, 3) := by decide +kernel
theorem dJ9_min_f86c9_10 : decode cJ9_min_f86c9 10 = .ok (.lload_n 2, 1) := by decide +kernel
theorem dJ9_min_f86c9_11 : decode cJ9_min_f86c9 11 = .ok (.lreturn, 1) := by decide +kernel
set_option maxRecDepth 20000 in
theorem ggL_part_X4_part : GoodIn wsL_part wsX4_part := goodIn_ca (goodIn_ca (goodIn_r _ [7, 8, 9, 10, 11, 12, 13, 14, 15, 16, 17, 18, 19, 20, 6, 21, 22, 23, 24, 25, 26, 27, 28, 29, 30, 31, 32, 33, 34, 35, 36, 37, 38, 39, 40, 41, 42, 43, 44, 45, 46, 47, 48, 49, 50, 51, 52, 53, 54, 55, 56, 57, 58, 59, 60, 61, 62, 63, 64] (by decide +kernel) (by decide +kernel)) (goodIn_sub (fun _ h => List.mem_cons_of_mem _ (List.mem_append_left _ (List.mem_append_right _ h))) (by decide +kernel))) (goodIn_sub (fun _ h => List.mem_cons_of_mem _ (List.mem_append_right _ h)) (by decide +kernel))
set_option maxRecDepth 20000 in
theorem gL_part_X4_part : GoodIn wsL_part (wsV RL 7 RX4 yX4_part wsX4_part) := goodIn_app (goodIn_of _ (by decide +kernel)) ggL_part_X4_part
theorem dL_part_0 : decode cL_part 0 = .ok (.aload 9, 2) := by decide +kernel
theorem dL_part_2 : decode cL_part 2 = .ok (.iconst 0, 1) := by decide +kernel
theorem dL_part_3 : decode cL_part 3 = .ok (.aload_n 0, 1) := by decide +kernel
theorem dL_part_4 : decode cL_part 4 = .ok (.lload_n 1, 1) := by decide +kernel
theorem dL_part_5 : decode cL_part 5 = .ok (.lload_n 3, 1) := by decide +kernel
theorem dL_part_6 : decode cL_part 6 = .ok (.iload 5, 2) := by decide +kernel
theorem dL_part_8 : decode cL_part 8 = .ok (.iload 6, 2) := by decide +kernel
theorem dL_part_10 : decode cL_part 10 = .ok (.iload 7, 2) := by decide +kernel
theorem dL_part_12 : decode cL_part 12 = .ok (.iload 8, 2) := by decide +kernel
theorem dL_part_14 : decode cL_part 14 = .ok (.invokevirtual 7, 3) := by decide +kernel
theorem dL_part_17 : decode cL_part 17 = .ok (.i2l, 1) := by decide +kernel
theorem dL_part_18 : decode cL_part 18 = .ok (.lastore, 1) := by decide +kernel
theorem dL_part_19 : decode cL_part 19 = .ok (.goto 11, 3) := by decide +kernel
theorem dL_part_22 : decode cL_part 22 = .ok (.astore 10, 2) := by decide +kernel
theorem dL_part_24 : decode cL_part 24 = .ok (.iconst 1, 1) := by decide +kernel
theorem dL_part_25 : decode cL_part 25 = .ok (.ireturn, 1) := by decide +kernel
theorem dL_part_26 : decode cL_part 26 = .ok (.astore 10, 2) := by decide +kernel
theorem dL_part_28 : decode cL_part 28 = .ok (.iconst 2, 1) := by decide +kernel
theorem dL_part_29 : decode cL_part 29 = .ok (.ireturn, 1) := by decide +kernel
theorem dL_part_30 : decode cL_part 30 = .ok (.iconst 0, 1) := by decide +kernel
theorem dL_part_31 : decode cL_part 31 = .ok (.ireturn, 1) := by decide +kernel
set_option maxRecDepth 20000 in
theorem ggL_units_X4_units : GoodIn wsL_units wsX4_units := goodIn_ca (goodIn_ca (goodIn_r _ [7, 8, 9, 10, 11, 12, 13, 14, 15, 16, 6, 17, 18, 19, 20, 21, 22, 23, 24, 25, 26, 27, 28, 29, 30, 31, 32, 33, 34, 35, 36, 37, 38, 39, 40, 41, 42, 43, 44, 45, 46, 47, 48, 49, 50, 51, 52, 53, 54, 55, 56, 57, 58, 59, 60, 61, 62, 63, 64, 65, 66, 67, 68, 69, 70, 71, 72, 73, 74, 75, 76, 77, 78, 79, 80, 81, 82, 83, 84, 85, 86, 87, 88, 89, 90, 91, 92, 93, 94, 95, 96, 97, 98, 99, 100, 101, 102, 103, 104, 105, 106, 107, 108, 109, 110, 111, 112, 113, 114, 115, 116, 117, 118, 119, 120, 121, 122, 123, 124, 125, 126, 127, 128, 129, 130, 131, 132, 133, 134, 135, 136, 137, 138, 139, 140, 141, 142, 143, 144, 145, 146, 147, 148, 149, 150, 151, 152, 153, 154, 155, 156, 157, 158, 159, 160, 161, 162, 163, 164, 165, 166, 167, 168, 169, 170, 171, 172, 173, 174, 175, 176, 177, 178, 179, 180, 181, 182, 183, 184, 185, 186, 187, 188, 189, 190, 191, 192, 193, 194, 195, 196, 197, 198, 199, 200] (by decide +kernel) (by decide +kernel)) (goodIn_sub (fun _ h => List.mem_cons_of_mem _ (List.mem_append_left _ (List.mem_append_right _ h))) (by decide +kernel))) (goodIn_sub (fun _ h => List.mem_cons_of_mem _ (List.mem_append_right _ h)) (by decide +kernel))
set_option maxRecDepth 20000 in
theorem gL_units_X4_units : GoodIn wsL_units (wsV RL 17 RX4 yX4_units wsX4_units) := goodIn_app (goodIn_of _ (by decide +kernel)) ggL_units_X4_units
theorem dL_units_0 : decode cL_units 0 = .ok (.aload 4, 2) := by decide +kernel
theorem dL_units_2 : decode cL_units 2 = .ok (.iconst 0, 1) := by decide +kernel
theorem dL_units_3 : decode cL_units 3 = .ok (.aload_n 0, 1) := by decide +kernel
theorem dL_units_4 : decode cL_units 4 = .ok (.iload_n 1, 1) := by decide +kernel
theorem dL_units_5 : decode cL_units 5 = .ok (.iload_n 2, 1) := by decide +kernel
theorem dL_units_6 : decode cL_units 6 = .ok (.iload_n 3, 1) := by decide +kernel
theorem dL_units_7 : decode cL_units 7 = .ok (.invokevirtual 17, 3) := by decide +kernel
theorem dL_units_10 : decode cL_units 10 = .ok (.i2l, 1) := by decide +kernel
theorem dL_units_11 : decode cL_units 11 = .ok (.lastore, 1) := by decide +kernel
theorem dL_units_12 : decode cL_units 12 = .ok (.goto 11, 3) := by decide +kernel
theorem dL_units_15 : decode cL_units 15 = .ok (.astore 5, 2) := by decide +kernel
theorem dL_units_17 : decode cL_units 17 = .ok (.iconst 1, 1) := by decide +kernel
theorem dL_units_18 : decode cL_units 18 = .ok (.ireturn, 1) := by decide +kernel
theorem dL_units_19 : decode cL_units 19 = .ok (.astore 5, 2) := by decide +kernel
theorem dL_units_21 : decode cL_units 21 = .ok (.iconst 2, 1) := by decide +kernel
theorem dL_units_22 : decode cL_units 22 = .ok (.ireturn, 1) := by decide +kernel
theorem dL_units_23 : decode cL_units 23 = .ok (.iconst 0, 1) := by decide +kernel
theorem dL_units_24 : decode cL_units 24 = .ok (.ireturn, 1) := by decide +kernel
set_option maxRecDepth 20000 in
theorem ggL_event_X4_event : GoodIn wsL_event wsX4_event := goodIn_ca (goodIn_ca (goodIn_r _ [7, 8, 9, 10, 11, 12, 13, 14, 15, 16, 17, 18, 19, 20, 21, 22, 6, 23, 24, 25, 26, 27, 28, 29, 30, 31, 32, 33, 34, 35, 36, 37, 38, 39, 40, 41, 42, 43, 44, 45, 46, 47, 48, 49, 50, 51, 52, 53, 54, 55, 56, 57, 58, 59, 60, 61, 62, 63, 64, 65, 66, 67, 68, 69, 70, 71, 72, 73, 74, 75, 76, 77, 78, 79, 80, 81, 82, 83, 84, 85, 86, 87, 88, 89, 90, 91, 92, 93, 94, 95, 96, 97, 98, 99, 100, 101, 102, 103, 104, 105, 106, 107, 108, 109, 110, 111, 112, 113, 114, 115, 116, 117, 118, 119, 120, 121, 122, 123, 124, 125, 126, 127, 128, 129, 130, 131, 132, 133, 134, 135, 136, 137, 138, 139, 140, 141, 142, 143, 144, 145, 146, 147, 148, 149, 150, 151, 152, 153, 154, 155, 156, 157, 158, 159, 160, 161, 162, 163, 164, 165, 166, 167, 168, 169, 170, 171, 172, 173, 174, 175, 176, 177, 178, 179, 180, 181, 182, 183, 184, 185, 186, 187, 188, 189, 190, 191, 192, 193, 194, 195, 196, 197, 198, 199, 200, 201, 202, 203, 204, 205, 206, 207, 208, 209, 210, 211, 212, 213, 214, 215, 216, 217, 218, 219, 220, 221, 222] (by decide +kernel) (by decide +kernel)) (goodIn_sub (fun _ h => List.mem_cons_of_mem _ (List.mem_append_left _ (List.mem_append_right _ h))) (by decide +kernel))) (goodIn_sub (fun _ h => List.mem_cons_of_mem _ (List.mem_append_right _ h)) (by decide +kernel))
set_option maxRecDepth 20000 in
theorem gL_event_X4_event : GoodIn wsL_event (wsV RL 21 RX4 yX4_event wsX4_event) := goodIn_app (goodIn_of _ (by decide +kernel)) ggL_event_X4_event
theorem dL_event_0 : decode cL_event 0 = .ok (.aload 7, 2) := by decide +kernel
theorem dL_event_2 : decode cL_event 2 = .ok (.iconst 0, 1) := by decide +kernel
theorem dL_event_3 : decode cL_event 3 = .ok (.aload_n 0, 1) := by decide +kernel
theorem dL_event_4 : decode cL_event 4 = .ok (.iload_n 1, 1) := by decide +kernel
theorem dL_event_5 : decode cL_event 5 = .ok (.iload_n 2, 1) := by decide +kernel
theorem dL_event_6 : decode cL_event 6 = .ok (.iload_n 3, 1) := by decide +kernel
theorem dL_event_7 : decode cL_event 7 = .ok (.lload 4, 2) := by decide +kernel
theorem dL_event_9 : decode cL_event 9 = .ok (.iload 6, 2) := by decide +kernel
theorem dL_event_11 : decode cL_event 11 = .ok (.invokevirtual 21, 3) := by decide +kernel
theorem dL_event_14 : decode cL_event 14 = .ok (.i2l, 1) := by decide +kernel
theorem dL_event_15 : decode cL_event 15 = .ok (.lastore, 1) := by decide +kernel
theorem dL_event_16 : decode cL_event 16 = .ok (.goto 11, 3) := by decide +kernel
theorem dL_event_19 : decode cL_event 19 = .ok (.astore 8, 2) := by decide +kernel
theorem dL_event_21 : decode cL_event 21 = .ok (.iconst 1, 1) := by decide +kernel
theorem dL_event_22 : decode cL_event 22 = .ok (.ireturn, 1) := by decide +kernel
theorem dL_event_23 : decode cL_event 23 = .ok (.astore 8, 2) := by decide +kernel
theorem dL_event_25 : decode cL_event 25 = .ok (.iconst 2, 1) := by decide +kernel
theorem dL_event_26 : decode cL_event 26 = .ok (.ireturn, 1) := by decide +kernel
theorem dL_event_27 : decode cL_event 27 = .ok (.iconst 0, 1) := by decide +kernel
theorem dL_event_28 : decode cL_event 28 = .ok (.ireturn, 1) := by decide +kernel
set_option maxRecDepth 20000 in
theorem ggL_value_X4_value : GoodIn wsL_value wsX4_value := goodIn_ca (goodIn_r _ [6, 7, 8, 9, 10, 11, 12, 13, 14, 5, 15, 16, 17, 18, 19, 20, 21, 22, 23, 24, 25, 26, 27, 28, 29, 30, 31, 32, 33, 34, 35, 36, 37, 38, 39, 40, 41, 42, 43, 44, 45, 46, 47, 48, 49, 50, 51, 52, 53, 54, 55, 56, 57, 58, 59, 60, 61, 62, 63, 64, 65, 66, 67, 68, 69, 70, 71, 72, 73, 74, 75, 76, 77, 78, 79, 80, 81, 82, 83, 84, 85, 86, 87, 88, 89, 90, 91, 92, 93, 94, 95, 96, 97, 98, 99, 100, 101, 102, 103, 104, 105, 106, 107, 108, 109, 110, 111, 112, 113, 114, 115, 116, 117, 118, 119, 120, 121, 122, 123, 124, 125, 126, 127, 128, 129, 130, 131, 132, 133, 134, 135, 136, 137, 138, 139, 140, 141, 142, 143, 144, 145, 146, 147, 148, 149, 150, 151, 152, 153, 154, 155, 156, 157, 158, 159, 160, 161, 162, 163, 164, 165, 166, 167, 168, 169, 170, 171, 172, 173, 174, 175, 176, 177, 178, 179, 180, 181, 182, 183, 184, 185, 186, 187, 188, 189, 190, 191, 192, 193, 194] (by decide +kernel) (by decide +kernel)) (goodIn_sub (fun _ h => List.mem_cons_of_mem _ (List.mem_append_right _ h)) (by decide +kernel))
set_option maxRecDepth 20000 in
theorem gL_value_X4_value : GoodIn wsL_value (wsV RL 25 RX4 yX4_value wsX4_value) := goodIn_app (goodIn_of _ (by decide +kernel)) ggL_value_X4_value
theorem dL_value_0 : decode cL_value 0 = .ok (.aload 4, 2) := by decide +kernel
theorem dL_value_2 : decode cL_value 2 = .ok (.iconst 0, 1) := by decide +kernel
theorem dL_value_3 : decode cL_value 3 = .ok (.aload_n 0, 1) := by decide +kernel
theorem dL_value_4 : decode cL_value 4 = .ok (.iload_n 1, 1) := by decide +kernel
theorem dL_value_5 : decode cL_value 5 = .ok (.iload_n 2, 1) := by decide +kernel
theorem dL_value_6 : decode cL_value 6 = .ok (.iload_n 3, 1) := by decide +kernel
theorem dL_value_7 : decode cL_value 7 = .ok (.invokevirtual 25, 3) := by decide +kernel
theorem dL_value_10 : decode cL_value 10 = .ok (.lastore, 1) := by decide +kernel
theorem dL_value_11 : decode cL_value 11 = .ok (.goto 7, 3) := by decide +kernel
theorem dL_value_14 : decode cL_value 14 = .ok (.astore 5, 2) := by decide +kernel
theorem dL_value_16 : decode cL_value 16 = .ok (.iconst 1, 1) := by decide +kernel
theorem dL_value_17 : decode cL_value 17 = .ok (.ireturn, 1) := by decide +kernel
theorem dL_value_18 : decode cL_value 18 = .ok (.iconst 0, 1) := by decide +kernel
theorem dL_value_19 : decode cL_value 19 = .ok (.ireturn, 1) := by decide +kernel
set_option maxRecDepth 20000 in
theorem ggL_charge_X4_charge : GoodIn wsL_charge wsX4_charge := goodIn_ca (goodIn_r _ [6, 7, 8, 9, 10, 11, 12, 13, 5, 14, 15, 16, 17, 18, 19, 20, 21, 22, 23, 24, 25, 26, 27, 28, 29, 30, 31, 32, 33, 34, 35, 36, 37, 38, 39, 40, 41, 42, 43, 44, 45, 46, 47, 48, 49, 50, 51, 52, 53, 54, 55, 56, 57, 58, 59, 60, 61, 62, 63, 64, 65, 66, 67, 68, 69, 70, 71, 72, 73, 74, 75, 76, 77, 78, 79, 80, 81, 82, 83, 84, 85, 86, 87, 88, 89, 90, 91, 92, 93, 94, 95, 96, 97, 98, 99, 100, 101, 102, 103, 104, 105, 106, 107, 108, 109, 110, 111, 112, 113, 114, 115, 116, 117, 118, 119, 120, 121, 122, 123, 124, 125, 126, 127, 128, 129, 130, 131, 132, 133, 134, 135, 136, 137, 138, 139, 140, 141, 142, 143, 144, 145, 146, 147, 148, 149, 150, 151, 152, 153, 154, 155, 156, 157, 158, 159, 160, 161, 162, 163, 164, 165, 166, 167, 168, 169, 170, 171, 172, 173, 174, 175, 176, 177, 178, 179, 180, 181, 182, 183, 184, 185, 186, 187, 188, 189] (by decide +kernel) (by decide +kernel)) (goodIn_sub (fun _ h => List.mem_cons_of_mem _ (List.mem_append_right _ h)) (by decide +kernel))
set_option maxRecDepth 20000 in
theorem gL_charge_X4_charge : GoodIn wsL_charge (wsV RL 29 RX4 yX4_charge wsX4_charge) := goodIn_app (goodIn_of _ (by decide +kernel)) ggL_charge_X4_charge
theorem dL_charge_0 : decode cL_charge 0 = .ok (.aload_n 3, 1) := by decide +kernel
theorem dL_charge_1 : decode cL_charge 1 = .ok (.iconst 0, 1) := by decide +kernel
theorem dL_charge_2 : decode cL_charge 2 = .ok (.aload_n 0, 1) := by decide +kernel
theorem dL_charge_3 : decode cL_charge 3 = .ok (.iload_n 1, 1) := by decide +kernel
theorem dL_charge_4 : decode cL_charge 4 = .ok (.iload_n 2, 1) := by decide +kernel
theorem dL_charge_5 : decode cL_charge 5 = .ok (.invokevirtual 29, 3) := by decide +kernel
theorem dL_charge_8 : decode cL_charge 8 = .ok (.lastore, 1) := by decide +kernel
theorem dL_charge_9 : decode cL_charge 9 = .ok (.goto 7, 3) := by decide +kernel
theorem dL_charge_12 : decode cL_charge 12 = .ok (.astore 4, 2) := by decide +kernel
theorem dL_charge_14 : decode cL_charge 14 = .ok (.iconst 1, 1) := by decide +kernel
theorem dL_charge_15 : decode cL_charge 15 = .ok (.ireturn, 1) := by decide +kernel
theorem dL_charge_16 : decode cL_charge 16 = .ok (.iconst 0, 1) := by decide +kernel
theorem dL_charge_17 : decode cL_charge 17 = .ok (.ireturn, 1) := by decide +kernel
set_option maxRecDepth 20000 in
theorem ggL_without_X4_without : GoodIn wsL_without wsX4_without := goodIn_ca (goodIn_r _ [6, 7, 8, 9, 10, 11, 12, 13, 5, 14, 15, 16, 17, 18, 19, 20, 21, 22, 23, 24, 25, 26, 27, 28, 29, 30, 31, 32, 33, 34, 35, 36, 37, 38, 39, 40, 41, 42, 43, 44, 45, 46, 47, 48, 49, 50, 51, 52, 53, 54, 55, 56, 57, 58, 59, 60, 61, 62, 63, 64, 65, 66, 67, 68, 69, 70, 71, 72, 73, 74, 75, 76, 77, 78, 79, 80, 81, 82, 83, 84, 85, 86, 87, 88, 89, 90, 91, 92, 93, 94, 95, 96, 97, 98, 99, 100, 101, 102, 103, 104, 105, 106, 107, 108, 109, 110, 111, 112, 113, 114, 115, 116, 117, 118, 119, 120, 121, 122, 123, 124, 125, 126, 127, 128, 129, 130, 131, 132, 133, 134, 135, 136, 137, 138, 139, 140, 141, 142, 143, 144, 145, 146, 147, 148, 149, 150, 151, 152, 153, 154, 155, 156, 157, 158, 159, 160, 161, 162, 163, 164, 165, 166, 167, 168, 169, 170, 171, 172, 173, 174, 175, 176, 177, 178, 179, 180, 181, 182, 183, 184, 185, 186, 187, 188, 189] (by decide +kernel) (by decide +kernel)) (goodIn_sub (fun _ h => List.mem_cons_of_mem _ (List.mem_append_right _ h)) (by decide +kernel))
set_option maxRecDepth 20000 in
theorem gL_without_X4_without : GoodIn wsL_without (wsV RL 33 RX4 yX4_without wsX4_without) := goodIn_app (goodIn_of _ (by decide +kernel)) ggL_without_X4_without
theorem dL_without_0 : decode cL_without 0 = .ok (.aload_n 3, 1) := by decide +kernel
theorem dL_without_1 : decode cL_without 1 = .ok (.iconst 0, 1) := by decide +kernel
theorem dL_without_2 : decode cL_without 2 = .ok (.aload_n 0, 1) := by decide +kernel
theorem dL_without_3 : decode cL_without 3 = .ok (.iload_n 1, 1) := by decide +kernel
theorem dL_without_4 : decode cL_without 4 = .ok (.iload_n 2, 1) := by decide +kernel
theorem dL_without_5 : decode cL_without 5 = .ok (.invokevirtual 33, 3) := by decide +kernel
theorem dL_without_8 : decode cL_without 8 = .ok (.lastore, 1) := by decide +kernel
theorem dL_without_9 : decode cL_without 9 = .ok (.goto 7, 3) := by decide +kernel
theorem dL_without_12 : decode cL_without 12 = .ok (.astore 4, 2) := by decide +kernel
theorem dL_without_14 : decode cL_without 14 = .ok (.iconst 1, 1) := by decide +kernel
theorem dL_without_15 : decode cL_without 15 = .ok (.ireturn, 1) := by decide +kernel
theorem dL_without_16 : decode cL_without 16 = .ok (.iconst 0, 1) := by decide +kernel
theorem dL_without_17 : decode cL_without 17 = .ok (.ireturn, 1) := by decide +kernel
set_option maxRecDepth 20000 in
theorem ggL_post_X4_post : GoodIn wsL_post wsX4_post := goodIn_ca (goodIn_r _ [6, 7, 8, 9, 10, 11, 12, 13, 14, 15, 16, 17, 5, 18, 19, 20, 21, 22, 23, 24, 25, 26, 27, 28, 29, 30, 31, 32, 33, 34, 35, 36, 37, 38, 39, 40, 41, 42, 43, 44, 45, 46, 47, 48, 49, 50, 51, 52, 53, 54, 55, 56, 57, 58, 59, 60, 61, 62, 63, 64, 65, 66, 67, 68, 69, 70, 71, 72, 73, 74, 75, 76, 77, 78, 79, 80, 81, 82, 83, 84, 85, 86, 87, 88, 89, 90, 91, 92, 93, 94, 95, 96, 97, 98, 99, 100, 101, 102, 103, 104, 105, 106, 107, 108, 109, 110, 111, 112, 113, 114, 115, 116, 117, 118, 119, 120, 121, 122, 123, 124, 125, 126, 127, 128, 129, 130, 131, 132, 133, 134, 135, 136, 137, 138, 139, 140, 141, 142, 143, 144, 145, 146, 147, 148, 149, 150, 151, 152, 153, 154, 155, 156, 157, 158, 159, 160, 161, 162, 163, 164, 165, 166, 167, 168, 169, 170, 171, 172, 173, 174, 175, 176, 177, 178, 179, 180, 181, 182, 183, 184, 185, 186, 187, 188, 189] (by decide +kernel) (by decide +kernel)) (goodIn_sub (fun _ h => List.mem_cons_of_mem _ (List.mem_append_right _ h)) (by decide +kernel))
set_option maxRecDepth 20000 in
theorem gL_post_X4_post : GoodIn wsL_post (wsV RL 36 RX4 yX4_post wsX4_post) := goodIn_app (goodIn_of _ (by decide +kernel)) ggL_post_X4_post
theorem dL_post_0 : decode cL_post 0 = .ok (.aload_n 1, 1) := by decide +kernel
theorem dL_post_1 : decode cL_post 1 = .ok (.iconst 0, 1) := by decide +kernel
theorem dL_post_2 : decode cL_post 2 = .ok (.aload_n 0, 1) := by decide +kernel
theorem dL_post_3 : decode cL_post 3 = .ok (.invokevirtual 36, 3) := by decide +kernel
theorem dL_post_6 : decode cL_post 6 = .ok (.lastore, 1) := by decide +kernel
theorem dL_post_7 : decode cL_post 7 = .ok (.goto 6, 3) := by decide +kernel
theorem dL_post_10 : decode cL_post 10 = .ok (.astore_n 2, 1) := by decide +kernel
theorem dL_post_11 : decode cL_post 11 = .ok (.iconst 1, 1) := by decide +kernel
theorem dL_post_12 : decode cL_post 12 = .ok (.ireturn, 1) := by decide +kernel
theorem dL_post_13 : decode cL_post 13 = .ok (.iconst 0, 1) := by decide +kernel
theorem dL_post_14 : decode cL_post 14 = .ok (.ireturn, 1) := by decide +kernel
set_option maxRecDepth 20000 in
theorem ggL_posted_X4_posted : GoodIn wsL_posted wsX4_posted := goodIn_ca (goodIn_r _ [6, 7, 8, 9, 10, 11, 12, 5, 13, 14, 15, 16, 17, 18, 19, 20, 21, 22, 23, 24, 25, 26, 27, 28, 29, 30, 31, 32, 33, 34, 35, 36] (by decide +kernel) (by decide +kernel)) (goodIn_sub (fun _ h => List.mem_cons_of_mem _ (List.mem_append_right _ h)) (by decide +kernel))
set_option maxRecDepth 20000 in
theorem gL_posted_X4_posted : GoodIn wsL_posted (wsV RL 40 RX4 yX4_posted wsX4_posted) := goodIn_app (goodIn_of _ (by decide +kernel)) ggL_posted_X4_posted
theorem dL_posted_0 : decode cL_posted 0 = .ok (.aload_n 3, 1) := by decide +kernel
theorem dL_posted_1 : decode cL_posted 1 = .ok (.iconst 0, 1) := by decide +kernel
theorem dL_posted_2 : decode cL_posted 2 = .ok (.aload_n 0, 1) := by decide +kernel
theorem dL_posted_3 : decode cL_posted 3 = .ok (.iload_n 1, 1) := by decide +kernel
theorem dL_posted_4 : decode cL_posted 4 = .ok (.iload_n 2, 1) := by decide +kernel
theorem dL_posted_5 : decode cL_posted 5 = .ok (.invokevirtual 40, 3) := by decide +kernel
theorem dL_posted_8 : decode cL_posted 8 = .ok (.lastore, 1) := by decide +kernel
theorem dL_posted_9 : decode cL_posted 9 = .ok (.goto 7, 3) := by decide +kernel
theorem dL_posted_12 : decode cL_posted 12 = .ok (.astore 4, 2) := by decide +kernel
theorem dL_posted_14 : decode cL_posted 14 = .ok (.iconst 1, 1) := by decide +kernel
theorem dL_posted_15 : decode cL_posted 15 = .ok (.ireturn, 1) := by decide +kernel
theorem dL_posted_16 : decode cL_posted 16 = .ok (.iconst 0, 1) := by decide +kernel
theorem dL_posted_17 : decode cL_posted 17 = .ok (.ireturn, 1) := by decide +kernel
set_option maxRecDepth 20000 in
theorem ggL_total_X4_total : GoodIn wsL_total wsX4_total := goodIn_ca (goodIn_r _ [6, 7, 8, 9, 10, 11, 12, 5, 13, 14, 15, 16, 17, 18, 19, 20, 21, 22, 23, 24, 25, 26, 27, 28, 29, 30, 31, 32, 33] (by decide +kernel) (by decide +kernel)) (goodIn_sub (fun _ h => List.mem_cons_of_mem _ (List.mem_append_right _ h)) (by decide +kernel))
set_option maxRecDepth 20000 in
theorem gL_total_X4_total : GoodIn wsL_total (wsV RL 43 RX4 yX4_total wsX4_total) := goodIn_app (goodIn_of _ (by decide +kernel)) ggL_total_X4_total
theorem dL_total_0 : decode cL_total 0 = .ok (.aload_n 2, 1) := by decide +kernel
theorem dL_total_1 : decode cL_total 1 = .ok (.iconst 0, 1) := by decide +kernel
theorem dL_total_2 : decode cL_total 2 = .ok (.aload_n 0, 1) := by decide +kernel
theorem dL_total_3 : decode cL_total 3 = .ok (.iload_n 1, 1) := by decide +kernel
theorem dL_total_4 : decode cL_total 4 = .ok (.invokevirtual 43, 3) := by decide +kernel
theorem dL_total_7 : decode cL_total 7 = .ok (.lastore, 1) := by decide +kernel
theorem dL_total_8 : decode cL_total 8 = .ok (.goto 6, 3) := by decide +kernel
theorem dL_total_11 : decode cL_total 11 = .ok (.astore_n 3, 1) := by decide +kernel
theorem dL_total_12 : decode cL_total 12 = .ok (.iconst 1, 1) := by decide +kernel
theorem dL_total_13 : decode cL_total 13 = .ok (.ireturn, 1) := by decide +kernel
theorem dL_total_14 : decode cL_total 14 = .ok (.iconst 0, 1) := by decide +kernel
theorem dL_total_15 : decode cL_total 15 = .ok (.ireturn, 1) := by decide +kernel
set_option maxRecDepth 20000 in
theorem ggL_law_X4_init : GoodIn wsL_law wsX4_init := goodIn_r _ [10, 11, 12, 13, 14, 15, 16, 17, 18, 19, 20, 21, 22, 23, 24, 25, 26, 27, 28, 29, 30, 31, 32, 33, 502, 503, 504, 505, 506, 507, 508, 546, 547, 548, 549, 550, 551, 552, 553, 554, 555, 556, 557, 558, 559, 560, 561, 562, 563, 564, 565, 566] (by decide +kernel) (by decide +kernel)
set_option maxRecDepth 20000 in
theorem gL_law_X4_init : GoodIn wsL_law (wsX4_init) := ggL_law_X4_init
set_option maxRecDepth 20000 in
theorem ggL_law_X5_init : GoodIn wsL_law wsX5_init := goodIn_r _ [36, 37, 12, 13, 6, 38, 39, 40, 41, 42, 43, 44, 45, 46, 47, 48, 49, 50, 51, 52, 53, 509, 510, 511, 512, 513, 514, 515, 516, 517, 518, 519, 520, 521, 522, 523, 524, 525, 526, 527, 528, 529, 530, 531, 532, 533, 534, 535, 536, 537, 538, 539, 540, 541, 542, 543, 544, 545] (by decide +kernel) (by decide +kernel)
set_option maxRecDepth 20000 in
theorem gL_law_X5_init : GoodIn wsL_law (wsX5_init) := ggL_law_X5_init
set_option maxRecDepth 20000 in
theorem ggL_law_L_part : GoodIn wsL_law wsL_part := goodIn_ca (goodIn_ca (goodIn_r _ [57, 58, 59, 60, 61, 62, 2, 63, 64, 65, 66, 67, 68, 69, 70, 15, 14, 71, 72, 73, 74, 75, 76, 77, 78, 79, 80, 81, 82, 83, 84, 85, 86, 12, 13, 87, 88, 89, 90, 91, 92, 40, 93, 94, 95, 6, 96, 502, 503, 504, 505, 506, 507, 508, 567, 568, 569, 570, 571, 572, 573, 574, 575, 576, 577] (by decide +kernel) (by decide +kernel)) (goodIn_sub (fun _ h => List.mem_append_left _ (List.mem_append_right _ h)) (by decide +kernel))) (goodIn_sub (fun _ h => List.mem_append_right _ h) (by decide +kernel))
set_option maxRecDepth 20000 in
theorem gL_law_L_part : GoodIn wsL_law (va_wsS RL 53 yL_part wsL_part) := goodIn_app (goodIn_of _ (by decide +kernel)) ggL_law_L_part
set_option maxRecDepth 20000 in
theorem ggL_law_X5_part : GoodIn wsL_law wsX5_part := goodIn_r _ [100, 101, 102, 103, 104, 105, 106, 38, 39, 41, 42, 43, 44, 107, 108, 5, 109, 110, 111, 112, 509, 510, 511, 512, 513, 514, 515, 516, 517, 518, 519, 520, 521, 522, 523, 524, 525, 526, 527, 528, 529, 530, 531, 532, 533, 534, 535, 536, 537, 538, 539, 540, 541, 542, 543, 544, 545] (by decide +kernel) (by decide +kernel)
set_option maxRecDepth 20000 in
theorem gL_law_X5_part : GoodIn wsL_law (wsV RL 58 RX5 yX5_part wsX5_part) := goodIn_app (goodIn_of _ (by decide +kernel)) ggL_law_X5_part
set_option maxRecDepth 20000 in
theorem ggL_law_X5_thrown : GoodIn wsL_law wsX5_thrown := goodIn_r _ [116, 106, 509, 510, 511, 512, 513, 514, 515, 516, 517, 518, 519, 520, 521, 522, 523, 524, 525, 526, 527, 528, 529, 530, 531, 532, 533, 534, 535, 536, 537, 538, 539, 540, 541, 542, 543, 544, 545] (by decide +kernel) (by decide +kernel)
set_option maxRecDepth 20000 in
theorem gL_law_X5_thrown : GoodIn wsL_law (wsV RL 59 RX5 yX5_thrown wsX5_thrown) := goodIn_app (goodIn_of _ (by decide +kernel)) ggL_law_X5_thrown
set_option maxRecDepth 20000 in
theorem ggL_law_L_units : GoodIn wsL_law wsL_units := goodIn_ca (goodIn_ca (goodIn_r _ [119, 58, 59, 120, 121, 122, 2, 123, 64, 65, 66, 67, 82, 124, 125, 126, 127, 128, 70, 15, 76, 77, 78, 73, 74, 75, 129, 130, 131, 132, 21, 133, 134, 135, 136, 22, 137, 138, 139, 140, 141, 142, 143, 20, 144, 145, 146, 147, 148, 149, 150, 151, 152, 153, 154, 155, 156, 157, 158, 159, 160, 161, 162, 163, 164, 165, 166, 167, 30, 168, 169, 170, 171, 172, 173, 174, 175, 176, 177, 178, 29, 179, 180, 181, 182, 183, 184, 185, 186, 187, 188, 189, 190, 191, 192, 193, 194, 195, 196, 197, 198, 199, 200, 201, 202, 203, 204, 205, 206, 207, 208, 209, 210, 211, 212, 213, 214, 215, 216, 217, 218, 219, 220, 221, 222, 223, 224, 225, 226, 227, 228, 229, 230, 231, 232, 233, 234, 235, 236, 237, 238, 239, 240, 241, 242, 243, 244, 245, 246, 247, 248, 249, 250, 251, 252, 253, 254, 567, 568, 569, 570, 571, 572, 573, 574, 575, 576, 577, 502, 503, 504, 505, 506, 507, 508, 546, 547, 548, 549, 550, 551, 552, 553, 554, 555, 556, 557, 558, 559, 560, 578, 579, 580, 581, 582, 561, 562, 563, 564, 565, 566] (by decide +kernel) (by decide +kernel)) (goodIn_sub (fun _ h => List.mem_append_left _ (List.mem_append_right _ h)) (by decide +kernel))) (goodIn_sub (fun _ h => List.mem_append_right _ h) (by decide +kernel))
set_option maxRecDepth 20000 in
theorem gL_law_L_units : GoodIn wsL_law (va_wsS RL 63 yL_units wsL_units) := goodIn_app (goodIn_of _ (by decide +kernel)) ggL_law_L_units
set_option maxRecDepth 20000 in
theorem ggL_law_X5_units : GoodIn wsL_law wsX5_units := goodIn_r _ [258, 104, 106, 45, 259, 260, 261, 5, 262, 105, 110, 111, 112, 107, 108, 109, 263, 264, 265, 266, 267, 268, 269, 270, 271, 41, 38, 272, 39, 273, 42, 274, 49, 52, 53, 275, 276, 277, 278, 279, 280, 281, 282, 283, 284, 285, 286, 287, 288, 289, 290, 291, 292, 44, 293, 294, 295, 296, 297, 298, 299, 300, 301, 302, 303, 304, 305, 47, 48, 306, 307, 308, 309, 50, 51, 310, 311, 312, 313, 314, 315, 316, 317, 318, 319, 320, 321, 322, 323, 324, 325, 326, 327, 328, 329, 330, 331, 332, 333, 334, 335, 336, 337, 338, 339, 340, 341, 43, 342, 343, 344, 345, 346, 347, 348, 349, 509, 510, 511, 512, 513, 514, 515, 516, 517, 518, 519, 520, 521, 522, 523, 524, 525, 526, 527, 528, 529, 530, 531, 532, 533, 534, 535, 536, 537, 538, 539, 540, 541, 542, 543, 544, 545] (by decide +kernel) (by decide +kernel)
set_option maxRecDepth 20000 in
theorem gL_law_X5_units : GoodIn wsL_law (wsV RL 66 RX5 yX5_units wsX5_units) := goodIn_app (goodIn_of _ (by decide +kernel)) ggL_law_X5_units
set_option maxRecDepth 20000 in
theorem ggL_law_L_event : GoodIn wsL_law wsL_event := goodIn_ca (goodIn_ca (goodIn_r _ [352, 58, 59, 353, 354, 355, 2, 356, 64, 65, 66, 67, 137, 138, 357, 358, 16, 359, 360, 17, 125, 126, 127, 128, 70, 15, 76, 77, 78, 361, 362, 363, 68, 69, 82, 73, 74, 75, 364, 365, 366, 367, 12, 13, 368, 369, 370, 371, 372, 129, 130, 131, 132, 21, 133, 134, 135, 136, 22, 139, 140, 124, 141, 142, 143, 20, 144, 145, 146, 147, 148, 149, 150, 151, 152, 153, 154, 155, 156, 157, 158, 159, 160, 161, 162, 163, 164, 165, 166, 167, 30, 168, 169, 170, 171, 172, 173, 174, 175, 176, 177, 178, 29, 179, 180, 181, 182, 183, 184, 185, 186, 187, 188, 189, 190, 191, 192, 193, 194, 195, 196, 197, 198, 199, 200, 201, 202, 203, 204, 205, 206, 207, 208, 209, 210, 211, 212, 213, 214, 215, 216, 217, 218, 219, 220, 221, 222, 223, 224, 225, 226, 227, 228, 229, 230, 231, 232, 233, 234, 235, 236, 237, 238, 239, 240, 241, 242, 243, 244, 245, 246, 247, 248, 249, 250, 251, 252, 253, 254, 567, 568, 569, 570, 571, 572, 573, 574, 575, 576, 577, 502, 503, 504, 505, 506, 507, 508, 578, 579, 580, 581, 582, 546, 547, 548, 549, 550, 551, 552, 553, 554, 555, 556, 557, 558, 559, 560, 561, 562, 563, 564, 565, 566] (by decide +kernel) (by decide +kernel)) (goodIn_sub (fun _ h => List.mem_append_left _ (List.mem_append_right _ h)) (by decide +kernel))) (goodIn_sub (fun _ h => List.mem_append_right _ h) (by decide +kernel))
set_option maxRecDepth 20000 in
theorem gL_law_L_event : GoodIn wsL_law (va_wsS RL 67 yL_event wsL_event) := goodIn_app (goodIn_of _ (by decide +kernel)) ggL_law_L_event
set_option maxRecDepth 20000 in
theorem ggL_law_X5_event : GoodIn wsL_law wsX5_event := goodIn_r _ [376, 41, 377, 101, 102, 104, 305, 106, 47, 48, 49, 50, 51, 259, 260, 261, 5, 262, 105, 110, 111, 112, 107, 108, 109, 301, 302, 303, 304, 378, 379, 380, 381, 263, 264, 265, 266, 267, 268, 269, 270, 271, 38, 272, 39, 273, 42, 274, 52, 53, 275, 276, 277, 278, 279, 280, 281, 282, 283, 284, 285, 286, 287, 288, 289, 290, 291, 292, 44, 293, 294, 295, 296, 297, 298, 299, 300, 306, 307, 308, 309, 310, 311, 312, 313, 314, 315, 316, 317, 318, 319, 320, 321, 322, 323, 324, 325, 326, 327, 328, 329, 330, 331, 332, 333, 334, 335, 336, 337, 338, 339, 340, 341, 43, 45, 342, 343, 344, 345, 346, 347, 348, 349, 509, 510, 511, 512, 513, 514, 515, 516, 517, 518, 519, 520, 521, 522, 523, 524, 525, 526, 527, 528, 529, 530, 531, 532, 533, 534, 535, 536, 537, 538, 539, 540, 541, 542, 543, 544, 545] (by decide +kernel) (by decide +kernel)
set_option maxRecDepth 20000 in
theorem gL_law_X5_event : GoodIn wsL_law (wsV RL 70 RX5 yX5_event wsX5_event) := goodIn_app (goodIn_of _ (by decide +kernel)) ggL_law_X5_event
set_option maxRecDepth 20000 in
theorem ggL_law_X4_strike : GoodIn wsL_law wsX4_strike := goodIn_r _ [385, 386, 138, 387, 357, 17, 388, 389, 390, 2, 391, 358, 125, 126, 127, 128, 70, 15, 129, 130, 131, 132, 21, 133, 134, 135, 136, 22, 137, 139, 140, 124, 141, 142, 143, 20, 144, 145, 146, 147, 148, 149, 150, 151, 152, 153, 154, 155, 156, 157, 158, 159, 160, 161, 162, 163, 164, 165, 166, 167, 30, 168, 169, 170, 171, 172, 173, 174, 175, 176, 177, 178, 29, 179, 180, 181, 182, 183, 184, 185, 186, 187, 188, 189, 190, 191, 192, 193, 194, 195, 196, 197, 198, 199, 200, 201, 202, 203, 204, 205, 206, 207, 208, 209, 210, 211, 212, 213, 214, 215, 216, 217, 218, 219, 220, 221, 222, 223, 224, 225, 226, 227, 228, 229, 230, 231, 232, 233, 234, 235, 236, 237, 238, 239, 240, 241, 242, 243, 244, 245, 246, 247, 248, 249, 250, 251, 252, 253, 254, 578, 579, 580, 581, 582, 567, 568, 569, 570, 571, 572, 573, 574, 575, 576, 577, 502, 503, 504, 505, 506, 507, 508, 546, 547, 548, 549, 550, 551, 552, 553, 554, 555, 556, 557, 558, 559, 560, 561, 562, 563, 564, 565, 566] (by decide +kernel) (by decide +kernel)
set_option maxRecDepth 20000 in
theorem gL_law_X4_strike : GoodIn wsL_law (wsV RL 71 RX4 yX4_strike wsX4_strike) := goodIn_app (goodIn_of _ (by decide +kernel)) ggL_law_X4_strike
set_option maxRecDepth 20000 in
theorem ggL_law_X5_strike : GoodIn wsL_law wsX5_strike := goodIn_r _ [395, 106, 47, 396, 397, 398, 5, 399, 305, 263, 264, 265, 266, 267, 268, 269, 270, 271, 41, 38, 272, 39, 273, 42, 274, 49, 52, 53, 275, 276, 277, 278, 279, 280, 281, 282, 283, 284, 285, 286, 287, 288, 289, 290, 291, 292, 44, 293, 294, 295, 296, 297, 298, 299, 300, 301, 302, 303, 304, 48, 306, 307, 308, 309, 50, 51, 310, 311, 312, 313, 314, 315, 316, 317, 318, 319, 320, 321, 322, 323, 324, 325, 326, 327, 328, 329, 330, 331, 332, 333, 104, 334, 335, 336, 337, 338, 339, 340, 341, 43, 45, 342, 343, 344, 345, 346, 347, 348, 349, 509, 510, 511, 512, 513, 514, 515, 516, 517, 518, 519, 520, 521, 522, 523, 524, 525, 526, 527, 528, 529, 530, 531, 532, 533, 534, 535, 536, 537, 538, 539, 540, 541, 542, 543, 544, 545] (by decide +kernel) (by decide +kernel)
set_option maxRecDepth 20000 in
theorem gL_law_X5_strike : GoodIn wsL_law (wsV RL 75 RX5 yX5_strike wsX5_strike) := goodIn_app (goodIn_of _ (by decide +kernel)) ggL_law_X5_strike
set_option maxRecDepth 20000 in
theorem ggL_law_X4_told : GoodIn wsL_law wsX4_told := goodIn_r _ [403, 386, 387, 139, 404, 388, 389, 390, 2, 391, 358, 17, 578, 579, 580, 581, 582, 502, 503, 504, 505, 506, 507, 508] (by decide +kernel) (by decide +kernel)
set_option maxRecDepth 20000 in
theorem gL_law_X4_told : GoodIn wsL_law (wsV RL 76 RX4 yX4_told wsX4_told) := goodIn_app (goodIn_of _ (by decide +kernel)) ggL_law_X4_told
set_option maxRecDepth 20000 in
theorem ggL_law_X5_told : GoodIn wsL_law wsX5_told := goodIn_r _ [408, 106, 47, 48, 49, 51, 396, 397, 398, 5, 399, 305, 509, 510, 511, 512, 513, 514, 515, 516, 517, 518, 519, 520, 521, 522, 523, 524, 525, 526, 527, 528, 529, 530, 531, 532, 533, 534, 535, 536, 537, 538, 539, 540, 541, 542, 543, 544, 545] (by decide +kernel) (by decide +kernel)
set_option maxRecDepth 20000 in
theorem gL_law_X5_told : GoodIn wsL_law (wsV RL 80 RX5 yX5_told wsX5_told) := goodIn_app (goodIn_of _ (by decide +kernel)) ggL_law_X5_told
set_option maxRecDepth 20000 in
theorem ggL_law_L_value : GoodIn wsL_law wsL_value := goodIn_ca (goodIn_r _ [411, 58, 412, 413, 414, 2, 415, 64, 65, 416, 137, 21, 125, 126, 127, 128, 70, 15, 76, 77, 78, 73, 74, 75, 133, 134, 135, 136, 22, 138, 139, 140, 124, 141, 142, 143, 20, 144, 145, 146, 147, 148, 149, 150, 151, 152, 153, 154, 155, 156, 157, 158, 159, 160, 161, 162, 163, 164, 165, 166, 167, 30, 168, 169, 170, 171, 172, 173, 174, 175, 176, 177, 178, 29, 179, 180, 181, 182, 183, 184, 185, 186, 187, 188, 189, 190, 191, 192, 193, 194, 195, 196, 197, 198, 199, 200, 201, 202, 203, 204, 205, 206, 207, 208, 209, 210, 211, 212, 213, 214, 215, 216, 217, 218, 219, 220, 221, 222, 223, 224, 225, 226, 227, 228, 229, 230, 231, 232, 233, 234, 235, 236, 237, 238, 239, 240, 241, 242, 243, 244, 245, 246, 247, 248, 249, 250, 251, 252, 253, 254, 417, 567, 568, 569, 570, 571, 572, 573, 574, 575, 576, 577, 502, 503, 504, 505, 506, 507, 508, 546, 547, 548, 549, 550, 551, 552, 553, 554, 555, 556, 557, 558, 559, 560, 578, 579, 580, 581, 582, 561, 562, 563, 564, 565, 566] (by decide +kernel) (by decide +kernel)) (goodIn_sub (fun _ h => List.mem_append_left _ (List.mem_append_right _ h)) (by decide +kernel))
set_option maxRecDepth 20000 in
theorem gL_law_L_value : GoodIn wsL_law (va_wsS RL 81 yL_value wsL_value) := goodIn_app (goodIn_of _ (by decide +kernel)) ggL_law_L_value
set_option maxRecDepth 20000 in
theorem ggL_law_X5_value : GoodIn wsL_law wsX5_value := goodIn_r _ [421, 106, 272, 279, 280, 281, 273, 274, 259, 260, 261, 5, 262, 105, 110, 111, 112, 263, 264, 265, 266, 267, 268, 269, 270, 271, 41, 38, 39, 42, 49, 52, 53, 275, 276, 277, 278, 282, 283, 284, 285, 286, 287, 288, 289, 290, 291, 292, 44, 293, 294, 295, 296, 297, 298, 299, 300, 301, 302, 303, 304, 305, 47, 48, 306, 307, 308, 309, 50, 51, 310, 311, 312, 313, 314, 315, 316, 317, 318, 319, 320, 321, 322, 323, 324, 325, 326, 327, 328, 329, 330, 331, 332, 333, 104, 334, 335, 336, 337, 338, 339, 340, 341, 43, 45, 342, 343, 344, 345, 346, 347, 348, 349, 509, 510, 511, 512, 513, 514, 515, 516, 517, 518, 519, 520, 521, 522, 523, 524, 525, 526, 527, 528, 529, 530, 531, 532, 533, 534, 535, 536, 537, 538, 539, 540, 541, 542, 543, 544, 545] (by decide +kernel) (by decide +kernel)
set_option maxRecDepth 20000 in
theorem gL_law_X5_value : GoodIn wsL_law (wsV RL 83 RX5 yX5_value wsX5_value) := goodIn_app (goodIn_of _ (by decide +kernel)) ggL_law_X5_value
set_option maxRecDepth 20000 in
theorem ggL_law_L_charge : GoodIn wsL_law wsL_charge := goodIn_ca (goodIn_r _ [424, 58, 425, 426, 427, 2, 428, 64, 65, 137, 21, 125, 126, 127, 128, 70, 15, 76, 77, 78, 133, 134, 135, 136, 22, 138, 139, 140, 124, 141, 142, 143, 20, 144, 145, 146, 147, 148, 149, 150, 151, 152, 153, 154, 155, 156, 157, 158, 159, 160, 161, 162, 163, 164, 165, 166, 167, 30, 168, 169, 170, 171, 172, 173, 174, 175, 176, 177, 178, 29, 179, 180, 181, 182, 183, 184, 185, 186, 187, 188, 189, 190, 191, 192, 193, 194, 195, 196, 197, 198, 199, 200, 201, 202, 203, 204, 205, 206, 207, 208, 209, 210, 211, 212, 213, 214, 215, 216, 217, 218, 219, 220, 221, 222, 223, 224, 225, 226, 227, 228, 229, 230, 231, 232, 233, 234, 235, 236, 237, 238, 239, 240, 241, 242, 243, 244, 245, 246, 247, 248, 249, 250, 251, 252, 253, 254, 567, 568, 569, 570, 571, 572, 573, 574, 575, 576, 577, 502, 503, 504, 505, 506, 507, 508, 546, 547, 548, 549, 550, 551, 552, 553, 554, 555, 556, 557, 558, 559, 560, 578, 579, 580, 581, 582, 561, 562, 563, 564, 565, 566] (by decide +kernel) (by decide +kernel)) (goodIn_sub (fun _ h => List.mem_append_left _ (List.mem_append_right _ h)) (by decide +kernel))
set_option maxRecDepth 20000 in
theorem gL_law_L_charge : GoodIn wsL_law (va_wsS RL 84 yL_charge wsL_charge) := goodIn_app (goodIn_of _ (by decide +kernel)) ggL_law_L_charge
set_option maxRecDepth 20000 in
theorem ggL_law_X5_charge : GoodIn wsL_law wsX5_charge := goodIn_r _ [432, 106, 285, 259, 260, 261, 5, 262, 105, 110, 111, 112, 263, 264, 265, 266, 267, 268, 269, 270, 271, 41, 38, 272, 39, 273, 42, 274, 49, 52, 53, 275, 276, 277, 278, 279, 280, 281, 282, 283, 284, 286, 287, 288, 289, 290, 291, 292, 44, 293, 294, 295, 296, 297, 298, 299, 300, 301, 302, 303, 304, 305, 47, 48, 306, 307, 308, 309, 50, 51, 310, 311, 312, 313, 314, 315, 316, 317, 318, 319, 320, 321, 322, 323, 324, 325, 326, 327, 328, 329, 330, 331, 332, 333, 104, 334, 335, 336, 337, 338, 339, 340, 341, 43, 45, 342, 343, 344, 345, 346, 347, 348, 349, 509, 510, 511, 512, 513, 514, 515, 516, 517, 518, 519, 520, 521, 522, 523, 524, 525, 526, 527, 528, 529, 530, 531, 532, 533, 534, 535, 536, 537, 538, 539, 540, 541, 542, 543, 544, 545] (by decide +kernel) (by decide +kernel)
set_option maxRecDepth 20000 in
theorem gL_law_X5_charge : GoodIn wsL_law (wsV RL 87 RX5 yX5_charge wsX5_charge) := goodIn_app (goodIn_of _ (by decide +kernel)) ggL_law_X5_charge
set_option maxRecDepth 20000 in
theorem ggL_law_L_without : GoodIn wsL_law wsL_without := goodIn_ca (goodIn_r _ [435, 58, 436, 437, 438, 2, 439, 64, 65, 137, 22, 125, 126, 127, 128, 70, 15, 76, 77, 78, 133, 134, 135, 136, 21, 138, 139, 140, 124, 141, 142, 143, 20, 144, 145, 146, 147, 148, 149, 150, 151, 152, 153, 154, 155, 156, 157, 158, 159, 160, 161, 162, 163, 164, 165, 166, 167, 30, 168, 169, 170, 171, 172, 173, 174, 175, 176, 177, 178, 29, 179, 180, 181, 182, 183, 184, 185, 186, 187, 188, 189, 190, 191, 192, 193, 194, 195, 196, 197, 198, 199, 200, 201, 202, 203, 204, 205, 206, 207, 208, 209, 210, 211, 212, 213, 214, 215, 216, 217, 218, 219, 220, 221, 222, 223, 224, 225, 226, 227, 228, 229, 230, 231, 232, 233, 234, 235, 236, 237, 238, 239, 240, 241, 242, 243, 244, 245, 246, 247, 248, 249, 250, 251, 252, 253, 254, 567, 568, 569, 570, 571, 572, 573, 574, 575, 576, 577, 502, 503, 504, 505, 506, 507, 508, 578, 579, 580, 581, 582, 546, 547, 548, 549, 550, 551, 552, 553, 554, 555, 556, 557, 558, 559, 560, 561, 562, 563, 564, 565, 566] (by decide +kernel) (by decide +kernel)) (goodIn_sub (fun _ h => List.mem_append_left _ (List.mem_append_right _ h)) (by decide +kernel))
set_option maxRecDepth 20000 in
theorem gL_law_L_without : GoodIn wsL_law (va_wsS RL 88 yL_without wsL_without) := goodIn_app (goodIn_of _ (by decide +kernel)) ggL_law_L_without
set_option maxRecDepth 20000 in
theorem ggL_law_X5_without : GoodIn wsL_law wsX5_without := goodIn_r _ [443, 106, 444, 41, 53, 259, 260, 261, 5, 262, 105, 110, 111, 112, 268, 269, 270, 271, 38, 272, 39, 273, 42, 274, 49, 52, 275, 276, 277, 278, 279, 280, 281, 282, 283, 284, 285, 286, 287, 288, 289, 290, 291, 292, 44, 293, 294, 295, 296, 297, 298, 299, 300, 301, 302, 303, 304, 305, 47, 48, 306, 307, 308, 309, 50, 51, 310, 311, 312, 313, 314, 315, 316, 317, 318, 319, 320, 321, 322, 323, 324, 325, 267, 326, 327, 328, 329, 330, 331, 332, 333, 104, 334, 335, 336, 337, 338, 339, 340, 341, 43, 45, 342, 343, 344, 345, 346, 347, 348, 349, 509, 510, 511, 512, 513, 514, 515, 516, 517, 518, 519, 520, 521, 522, 523, 524, 525, 526, 527, 528, 529, 530, 531, 532, 533, 534, 535, 536, 537, 538, 539, 540, 541, 542, 543, 544, 545] (by decide +kernel) (by decide +kernel)
set_option maxRecDepth 20000 in
theorem gL_law_X5_without : GoodIn wsL_law (wsV RL 90 RX5 yX5_without wsX5_without) := goodIn_app (goodIn_of _ (by decide +kernel)) ggL_law_X5_without
set_option maxRecDepth 20000 in
theorem ggL_law_L_post : GoodIn wsL_law wsL_post := goodIn_ca (goodIn_r _ [447, 59, 448, 449, 450, 2, 451, 66, 67, 452, 70, 137, 453, 21, 454, 125, 126, 127, 128, 15, 133, 134, 135, 136, 22, 138, 139, 140, 124, 141, 142, 143, 20, 144, 145, 146, 147, 148, 149, 150, 151, 152, 153, 154, 155, 156, 157, 158, 159, 160, 161, 162, 163, 164, 165, 166, 167, 30, 168, 169, 170, 171, 172, 173, 174, 175, 176, 177, 178, 29, 179, 180, 181, 182, 183, 184, 185, 186, 187, 188, 189, 190, 191, 192, 193, 194, 195, 196, 197, 198, 199, 200, 201, 202, 203, 204, 205, 206, 207, 208, 209, 210, 211, 212, 213, 214, 215, 216, 217, 218, 219, 220, 221, 222, 223, 224, 225, 226, 227, 228, 229, 230, 231, 232, 233, 234, 235, 236, 237, 238, 239, 240, 241, 242, 243, 244, 245, 246, 247, 248, 249, 250, 251, 252, 253, 254, 502, 503, 504, 505, 506, 507, 508, 567, 568, 569, 570, 571, 572, 573, 574, 575, 576, 577, 546, 547, 548, 549, 550, 551, 552, 553, 554, 555, 556, 557, 558, 559, 560, 578, 579, 580, 581, 582, 561, 562, 563, 564, 565, 566] (by decide +kernel) (by decide +kernel)) (goodIn_sub (fun _ h => List.mem_append_right _ h) (by decide +kernel))
set_option maxRecDepth 20000 in
theorem gL_law_L_post : GoodIn wsL_law (va_wsS RL 91 yL_post wsL_post) := goodIn_app (goodIn_of _ (by decide +kernel)) ggL_law_L_post
set_option maxRecDepth 20000 in
theorem ggL_law_X5_post : GoodIn wsL_law wsX5_post := goodIn_r _ [458, 459, 106, 105, 41, 286, 46, 263, 264, 265, 5, 266, 267, 268, 269, 270, 271, 38, 272, 39, 273, 42, 274, 49, 52, 53, 275, 276, 277, 278, 279, 280, 281, 282, 283, 284, 285, 287, 288, 289, 290, 291, 292, 44, 293, 294, 295, 296, 297, 298, 299, 300, 301, 302, 303, 304, 305, 47, 48, 306, 307, 308, 309, 50, 51, 310, 311, 312, 313, 314, 315, 316, 317, 318, 319, 320, 321, 322, 323, 324, 325, 326, 327, 328, 329, 330, 331, 332, 333, 104, 334, 335, 336, 337, 338, 339, 340, 341, 43, 45, 342, 343, 344, 345, 346, 347, 348, 349, 460, 461, 462, 463, 509, 510, 511, 512, 513, 514, 515, 516, 517, 518, 519, 520, 521, 522, 523, 524, 525, 526, 527, 528, 529, 530, 531, 532, 533, 534, 535, 536, 537, 538, 539, 540, 541, 542, 543, 544, 545] (by decide +kernel) (by decide +kernel)
set_option maxRecDepth 20000 in
theorem gL_law_X5_post : GoodIn wsL_law (wsV RL 94 RX5 yX5_post wsX5_post) := goodIn_app (goodIn_of _ (by decide +kernel)) ggL_law_X5_post
set_option maxRecDepth 20000 in
theorem ggL_law_X4_months : GoodIn wsL_law wsX4_months := goodIn_r _ [467, 452, 502, 503, 504, 505, 506, 507, 508] (by decide +kernel) (by decide +kernel)
set_option maxRecDepth 20000 in
theorem gL_law_X4_months : GoodIn wsL_law (wsV RL 95 RX4 yX4_months wsX4_months) := goodIn_app (goodIn_of _ (by decide +kernel)) ggL_law_X4_months
set_option maxRecDepth 20000 in
theorem ggL_law_X5_months : GoodIn wsL_law wsX5_months := goodIn_r _ [471, 106, 459, 509, 510, 511, 512, 513, 514, 515, 516, 517, 518, 519, 520, 521, 522, 523, 524, 525, 526, 527, 528, 529, 530, 531, 532, 533, 534, 535, 536, 537, 538, 539, 540, 541, 542, 543, 544, 545] (by decide +kernel) (by decide +kernel)
set_option maxRecDepth 20000 in
theorem gL_law_X5_months : GoodIn wsL_law (wsV RL 98 RX5 yX5_months wsX5_months) := goodIn_app (goodIn_of _ (by decide +kernel)) ggL_law_X5_months
set_option maxRecDepth 20000 in
theorem ggL_law_L_posted : GoodIn wsL_law wsL_posted := goodIn_ca (goodIn_r _ [474, 58, 475, 476, 477, 2, 478, 64, 65, 453, 125, 126, 127, 128, 70, 15, 76, 77, 78, 567, 568, 569, 570, 571, 572, 573, 574, 575, 576, 577, 502, 503, 504, 505, 506, 507, 508] (by decide +kernel) (by decide +kernel)) (goodIn_sub (fun _ h => List.mem_append_left _ (List.mem_append_right _ h)) (by decide +kernel))
set_option maxRecDepth 20000 in
theorem gL_law_L_posted : GoodIn wsL_law (va_wsS RL 99 yL_posted wsL_posted) := goodIn_app (goodIn_of _ (by decide +kernel)) ggL_law_L_posted
set_option maxRecDepth 20000 in
theorem ggL_law_X5_posted : GoodIn wsL_law wsX5_posted := goodIn_r _ [482, 106, 46, 259, 260, 261, 5, 262, 105, 110, 111, 112, 509, 510, 511, 512, 513, 514, 515, 516, 517, 518, 519, 520, 521, 522, 523, 524, 525, 526, 527, 528, 529, 530, 531, 532, 533, 534, 535, 536, 537, 538, 539, 540, 541, 542, 543, 544, 545] (by decide +kernel) (by decide +kernel)
set_option maxRecDepth 20000 in
theorem gL_law_X5_posted : GoodIn wsL_law (wsV RL 101 RX5 yX5_posted wsX5_posted) := goodIn_app (goodIn_of _ (by decide +kernel)) ggL_law_X5_posted
set_option maxRecDepth 20000 in
theorem ggL_law_L_total : GoodIn wsL_law wsL_total := goodIn_ca (goodIn_r _ [485, 58, 486, 487, 488, 2, 489, 64, 65, 454, 125, 126, 127, 128, 70, 15, 567, 568, 569, 570, 571, 572, 573, 574, 575, 576, 577, 502, 503, 504, 505, 506, 507, 508] (by decide +kernel) (by decide +kernel)) (goodIn_sub (fun _ h => List.mem_append_left _ (List.mem_append_right _ h)) (by decide +kernel))
set_option maxRecDepth 20000 in
theorem gL_law_L_total : GoodIn wsL_law (va_wsS RL 102 yL_total wsL_total) := goodIn_app (goodIn_of _ (by decide +kernel)) ggL_law_L_total
set_option maxRecDepth 20000 in
theorem ggL_law_X5_total : GoodIn wsL_law wsX5_total := goodIn_r _ [493, 106, 259, 260, 261, 5, 262, 105, 460, 461, 462, 463, 459, 46, 509, 510, 511, 512, 513, 514, 515, 516, 517, 518, 519, 520, 521, 522, 523, 524, 525, 526, 527, 528, 529, 530, 531, 532, 533, 534, 535, 536, 537, 538, 539, 540, 541, 542, 543, 544, 545] (by decide +kernel) (by decide +kernel)
set_option maxRecDepth 20000 in
theorem gL_law_X5_total : GoodIn wsL_law (wsV RL 105 RX5 yX5_total wsX5_total) := goodIn_app (goodIn_of _ (by decide +kernel)) ggL_law_X5_total
set_option maxRecDepth 20000 in
theorem ggL_law_X4_parts : GoodIn wsL_law wsX4_parts := goodIn_r _ [497, 70, 502, 503, 504, 505, 506, 507, 508] (by decide +kernel) (by decide +kernel)
set_option maxRecDepth 20000 in
theorem gL_law_X4_parts : GoodIn wsL_law (wsV RL 106 RX4 yX4_parts wsX4_parts) := goodIn_app (goodIn_of _ (by decide +kernel)) ggL_law_X4_parts
set_option maxRecDepth 20000 in
theorem ggL_law_X5_parts : GoodIn wsL_law wsX5_parts := goodIn_r _ [501, 106, 105, 509, 510, 511, 512, 513, 514, 515, 516, 517, 518, 519, 520, 521, 522, 523, 524, 525, 526, 527, 528, 529, 530, 531, 532, 533, 534, 535, 536, 537, 538, 539, 540, 541, 542, 543, 544, 545] (by decide +kernel) (by decide +kernel)
set_option maxRecDepth 20000 in
theorem gL_law_X5_parts : GoodIn wsL_law (wsV RL 109 RX5 yX5_parts wsX5_parts) := goodIn_app (goodIn_of _ (by decide +kernel)) ggL_law_X5_parts
theorem dL_law_0 : decode cL_law 0 = .ok (.new 8, 3) := by decide +kernel
theorem dL_law_3 : decode cL_law 3 = .ok (.dup, 1) := by decide +kernel
theorem dL_law_4 : decode cL_law 4 = .ok (.invokespecial 47, 3) := by decide +kernel
theorem dL_law_7 : decode cL_law 7 = .ok (.astore_n 1, 1) := by decide +kernel
theorem dL_law_8 : decode cL_law 8 = .ok (.new 48, 3) := by decide +kernel
theorem dL_law_11 : decode cL_law 11 = .ok (.dup, 1) := by decide +kernel
theorem dL_law_12 : decode cL_law 12 = .ok (.invokespecial 50, 3) := by decide +kernel
theorem dL_law_15 : decode cL_law 15 = .ok (.astore_n 2, 1) := by decide +kernel
theorem dL_law_16 : decode cL_law 16 = .ok (.iconst 1, 1) := by decide +kernel
theorem dL_law_17 : decode cL_law 17 = .ok (.newarray .long, 2) := by decide +kernel
theorem dL_law_19 : decode cL_law 19 = .ok (.astore_n 3, 1) := by decide +kernel
theorem dL_law_20 : decode cL_law 20 = .ok (.iconst 0, 1) := by decide +kernel
theorem dL_law_21 : decode cL_law 21 = .ok (.istore 4, 2) := by decide +kernel
theorem dL_law_23 : decode cL_law 23 = .ok (.iload 4, 2) := by decide +kernel
theorem dL_law_25 : decode cL_law 25 = .ok (.aload_n 0, 1) := by decide +kernel
theorem dL_law_26 : decode cL_law 26 = .ok (.arraylength, 1) := by decide +kernel
theorem dL_law_27 : decode cL_law 27 = .ok (.bipush 9, 2) := by decide +kernel
theorem dL_law_29 : decode cL_law 29 = .ok (.isub, 1) := by decide +kernel
theorem dL_law_30 : decode cL_law 30 = .ok (.if_icmp .gt 954, 3) := by decide +kernel
theorem dL_law_33 : decode cL_law 33 = .ok (.aload_n 0, 1) := by decide +kernel
theorem dL_law_34 : decode cL_law 34 = .ok (.iload 4, 2) := by decide +kernel
theorem dL_law_36 : decode cL_law 36 = .ok (.iaload, 1) := by decide +kernel
theorem dL_law_37 : decode cL_law 37 = .ok (.bipush 15, 2) := by decide +kernel
theorem dL_law_39 : decode cL_law 39 = .ok (.iand, 1) := by decide +kernel
theorem dL_law_40 : decode cL_law 40 = .ok (.tableswitch 938 0 12 #[68, 254, 334, 472, 497, 534, 613, 680, 747, 790, 803, 870, 925], 68) := by decide +kernel
theorem dL_law_108 : decode cL_law 108 = .ok (.aload_n 1, 1) := by decide +kernel
theorem dL_law_109 : decode cL_law 109 = .ok (.aload_n 0, 1) := by decide +kernel
theorem dL_law_110 : decode cL_law 110 = .ok (.iload 4, 2) := by decide +kernel
theorem dL_law_112 : decode cL_law 112 = .ok (.iconst 1, 1) := by decide +kernel
theorem dL_law_113 : decode cL_law 113 = .ok (.iadd, 1) := by decide +kernel
theorem dL_law_114 : decode cL_law 114 = .ok (.iaload, 1) := by decide +kernel
theorem dL_law_115 : decode cL_law 115 = .ok (.i2l, 1) := by decide +kernel
theorem dL_law_116 : decode cL_law 116 = .ok (.bipush 32, 2) := by decide +kernel
theorem dL_law_118 : decode cL_law 118 = .ok (.lshl, 1) := by decide +kernel
theorem dL_law_119 : decode cL_law 119 = .ok (.aload_n 0, 1) := by decide +kernel
theorem dL_law_120 : decode cL_law 120 = .ok (.iload 4, 2) := by decide +kernel
theorem dL_law_122 : decode cL_law 122 = .ok (.iconst 2, 1) := by decide +kernel
theorem dL_law_123 : decode cL_law 123 = .ok (.iadd, 1) := by decide +kernel
theorem dL_law_124 : decode cL_law 124 = .ok (.iaload, 1) := by decide +kernel
theorem dL_law_125 : decode cL_law 125 = .ok (.i2l, 1) := by decide +kernel
theorem dL_law_126 : decode cL_law 126 = .ok (.ldc2_w 51, 3) := by decide +kernel
theorem dL_law_129 : decode cL_law 129 = .ok (.land, 1) := by decide +kernel
theorem dL_law_130 : decode cL_law 130 = .ok (.lor, 1) := by decide +kernel
theorem dL_law_131 : decode cL_law 131 = .ok (.aload_n 0, 1) := by decide +kernel
theorem dL_law_132 : decode cL_law 132 = .ok (.iload 4, 2) := by decide +kernel
theorem dL_law_134 : decode cL_law 134 = .ok (.iconst 3, 1) := by decide +kernel
theorem dL_law_135 : decode cL_law 135 = .ok (.iadd, 1) := by decide +kernel
theorem dL_law_136 : decode cL_law 136 = .ok (.iaload, 1) := by decide +kernel
theorem dL_law_137 : decode cL_law 137 = .ok (.i2l, 1) := by decide +kernel
theorem dL_law_138 : decode cL_law 138 = .ok (.bipush 32, 2) := by decide +kernel
theorem dL_law_140 : decode cL_law 140 = .ok (.lshl, 1) := by decide +kernel
theorem dL_law_141 : decode cL_law 141 = .ok (.aload_n 0, 1) := by decide +kernel
theorem dL_law_142 : decode cL_law 142 = .ok (.iload 4, 2) := by decide +kernel
theorem dL_law_144 : decode cL_law 144 = .ok (.iconst 4, 1) := by decide +kernel
theorem dL_law_145 : decode cL_law 145 = .ok (.iadd, 1) := by decide +kernel
theorem dL_law_146 : decode cL_law 146 = .ok (.iaload, 1) := by decide +kernel
theorem dL_law_147 : decode cL_law 147 = .ok (.i2l, 1) := by decide +kernel
theorem dL_law_148 : decode cL_law 148 = .ok (.ldc2_w 51, 3) := by decide +kernel
theorem dL_law_151 : decode cL_law 151 = .ok (.land, 1) := by decide +kernel
theorem dL_law_152 : decode cL_law 152 = .ok (.lor, 1) := by decide +kernel
theorem dL_law_153 : decode cL_law 153 = .ok (.aload_n 0, 1) := by decide +kernel
theorem dL_law_154 : decode cL_law 154 = .ok (.iload 4, 2) := by decide +kernel
theorem dL_law_156 : decode cL_law 156 = .ok (.iconst 5, 1) := by decide +kernel
theorem dL_law_157 : decode cL_law 157 = .ok (.iadd, 1) := by decide +kernel
theorem dL_law_158 : decode cL_law 158 = .ok (.iaload, 1) := by decide +kernel
theorem dL_law_159 : decode cL_law 159 = .ok (.aload_n 0, 1) := by decide +kernel
theorem dL_law_160 : decode cL_law 160 = .ok (.iload 4, 2) := by decide +kernel
theorem dL_law_162 : decode cL_law 162 = .ok (.bipush 6, 2) := by decide +kernel
theorem dL_law_164 : decode cL_law 164 = .ok (.iadd, 1) := by decide +kernel
theorem dL_law_165 : decode cL_law 165 = .ok (.iaload, 1) := by decide +kernel
theorem dL_law_166 : decode cL_law 166 = .ok (.aload_n 0, 1) := by decide +kernel
theorem dL_law_167 : decode cL_law 167 = .ok (.iload 4, 2) := by decide +kernel
theorem dL_law_169 : decode cL_law 169 = .ok (.bipush 7, 2) := by decide +kernel
theorem dL_law_171 : decode cL_law 171 = .ok (.iadd, 1) := by decide +kernel
theorem dL_law_172 : decode cL_law 172 = .ok (.iaload, 1) := by decide +kernel
theorem dL_law_173 : decode cL_law 173 = .ok (.aload_n 0, 1) := by decide +kernel
theorem dL_law_174 : decode cL_law 174 = .ok (.iload 4, 2) := by decide +kernel
theorem dL_law_176 : decode cL_law 176 = .ok (.bipush 8, 2) := by decide +kernel
theorem dL_law_178 : decode cL_law 178 = .ok (.iadd, 1) := by decide +kernel
theorem dL_law_179 : decode cL_law 179 = .ok (.iaload, 1) := by decide +kernel
theorem dL_law_180 : decode cL_law 180 = .ok (.aload_n 3, 1) := by decide +kernel
theorem dL_law_181 : decode cL_law 181 = .ok (.invokestatic 53, 3) := by decide +kernel
theorem dL_law_184 : decode cL_law 184 = .ok (.istore 5, 2) := by decide +kernel
theorem dL_law_186 : decode cL_law 186 = .ok (.aload_n 2, 1) := by decide +kernel
theorem dL_law_187 : decode cL_law 187 = .ok (.aload_n 0, 1) := by decide +kernel
theorem dL_law_188 : decode cL_law 188 = .ok (.iload 4, 2) := by decide +kernel
theorem dL_law_190 : decode cL_law 190 = .ok (.iconst 1, 1) := by decide +kernel
theorem dL_law_191 : decode cL_law 191 = .ok (.iadd, 1) := by decide +kernel
theorem dL_law_192 : decode cL_law 192 = .ok (.iaload, 1) := by decide +kernel
theorem dL_law_193 : decode cL_law 193 = .ok (.i2l, 1) := by decide +kernel
theorem dL_law_194 : decode cL_law 194 = .ok (.bipush 32, 2) := by decide +kernel
theorem dL_law_196 : decode cL_law 196 = .ok (.lshl, 1) := by decide +kernel
theorem dL_law_197 : decode cL_law 197 = .ok (.aload_n 0, 1) := by decide +kernel
theorem dL_law_198 : decode cL_law 198 = .ok (.iload 4, 2) := by decide +kernel
theorem dL_law_200 : decode cL_law 200 = .ok (.iconst 2, 1) := by decide +kernel
theorem dL_law_201 : decode cL_law 201 = .ok (.iadd, 1) := by decide +kernel
theorem dL_law_202 : decode cL_law 202 = .ok (.iaload, 1) := by decide +kernel
theorem dL_law_203 : decode cL_law 203 = .ok (.i2l, 1) := by decide +kernel
theorem dL_law_204 : decode cL_law 204 = .ok (.ldc2_w 51, 3) := by decide +kernel
theorem dL_law_207 : decode cL_law 207 = .ok (.land, 1) := by decide +kernel
theorem dL_law_208 : decode cL_law 208 = .ok (.lor, 1) := by decide +kernel
theorem dL_law_209 : decode cL_law 209 = .ok (.aload_n 0, 1) := by decide +kernel
theorem dL_law_210 : decode cL_law 210 = .ok (.iload 4, 2) := by decide +kernel
theorem dL_law_212 : decode cL_law 212 = .ok (.iconst 3, 1) := by decide +kernel
theorem dL_law_213 : decode cL_law 213 = .ok (.iadd, 1) := by decide +kernel
theorem dL_law_214 : decode cL_law 214 = .ok (.iaload, 1) := by decide +kernel
theorem dL_law_215 : decode cL_law 215 = .ok (.i2l, 1) := by decide +kernel
theorem dL_law_216 : decode cL_law 216 = .ok (.bipush 32, 2) := by decide +kernel
theorem dL_law_218 : decode cL_law 218 = .ok (.lshl, 1) := by decide +kernel
theorem dL_law_219 : decode cL_law 219 = .ok (.aload_n 0, 1) := by decide +kernel
theorem dL_law_220 : decode cL_law 220 = .ok (.iload 4, 2) := by decide +kernel
theorem dL_law_222 : decode cL_law 222 = .ok (.iconst 4, 1) := by decide +kernel
theorem dL_law_223 : decode cL_law 223 = .ok (.iadd, 1) := by decide +kernel
theorem dL_law_224 : decode cL_law 224 = .ok (.iaload, 1) := by decide +kernel
theorem dL_law_225 : decode cL_law 225 = .ok (.i2l, 1) := by decide +kernel
theorem dL_law_226 : decode cL_law 226 = .ok (.ldc2_w 51, 3) := by decide +kernel
theorem dL_law_229 : decode cL_law 229 = .ok (.land, 1) := by decide +kernel
theorem dL_law_230 : decode cL_law 230 = .ok (.lor, 1) := by decide +kernel
theorem dL_law_231 : decode cL_law 231 = .ok (.aload_n 0, 1) := by decide +kernel
theorem dL_law_232 : decode cL_law 232 = .ok (.iload 4, 2) := by decide +kernel
theorem dL_law_234 : decode cL_law 234 = .ok (.iconst 5, 1) := by decide +kernel
theorem dL_law_235 : decode cL_law 235 = .ok (.iadd, 1) := by decide +kernel
theorem dL_law_236 : decode cL_law 236 = .ok (.iaload, 1) := by decide +kernel
theorem dL_law_237 : decode cL_law 237 = .ok (.aload_n 0, 1) := by decide +kernel
theorem dL_law_238 : decode cL_law 238 = .ok (.iload 4, 2) := by decide +kernel
theorem dL_law_240 : decode cL_law 240 = .ok (.bipush 6, 2) := by decide +kernel
theorem dL_law_242 : decode cL_law 242 = .ok (.iadd, 1) := by decide +kernel
theorem dL_law_243 : decode cL_law 243 = .ok (.iaload, 1) := by decide +kernel
theorem dL_law_244 : decode cL_law 244 = .ok (.aload_n 0, 1) := by decide +kernel
theorem dL_law_245 : decode cL_law 245 = .ok (.iload 4, 2) := by decide +kernel
theorem dL_law_247 : decode cL_law 247 = .ok (.bipush 7, 2) := by decide +kernel
theorem dL_law_249 : decode cL_law 249 = .ok (.iadd, 1) := by decide +kernel
theorem dL_law_250 : decode cL_law 250 = .ok (.iaload, 1) := by decide +kernel
theorem dL_law_251 : decode cL_law 251 = .ok (.aload_n 0, 1) := by decide +kernel
theorem dL_law_252 : decode cL_law 252 = .ok (.iload 4, 2) := by decide +kernel
theorem dL_law_254 : decode cL_law 254 = .ok (.bipush 8, 2) := by decide +kernel
theorem dL_law_256 : decode cL_law 256 = .ok (.iadd, 1) := by decide +kernel
theorem dL_law_257 : decode cL_law 257 = .ok (.iaload, 1) := by decide +kernel
theorem dL_law_258 : decode cL_law 258 = .ok (.invokevirtual 58, 3) := by decide +kernel
theorem dL_law_261 : decode cL_law 261 = .ok (.istore 6, 2) := by decide +kernel
theorem dL_law_263 : decode cL_law 263 = .ok (.aload_n 2, 1) := by decide +kernel
theorem dL_law_264 : decode cL_law 264 = .ok (.invokevirtual 59, 3) := by decide +kernel
theorem dL_law_267 : decode cL_law 267 = .ok (.iload 5, 2) := by decide +kernel
theorem dL_law_269 : decode cL_law 269 = .ok (.if_icmp .eq 5, 3) := by decide +kernel
theorem dL_law_272 : decode cL_law 272 = .ok (.iconst 0, 1) := by decide +kernel
theorem dL_law_273 : decode cL_law 273 = .ok (.ireturn, 1) := by decide +kernel
theorem dL_law_274 : decode cL_law 274 = .ok (.iload 5, 2) := by decide +kernel
theorem dL_law_276 : decode cL_law 276 = .ok (.ifCond .ne 15, 3) := by decide +kernel
theorem dL_law_279 : decode cL_law 279 = .ok (.aload_n 3, 1) := by decide +kernel
theorem dL_law_280 : decode cL_law 280 = .ok (.iconst 0, 1) := by decide +kernel
theorem dL_law_281 : decode cL_law 281 = .ok (.laload, 1) := by decide +kernel
theorem dL_law_282 : decode cL_law 282 = .ok (.iload 6, 2) := by decide +kernel
theorem dL_law_284 : decode cL_law 284 = .ok (.i2l, 1) := by decide +kernel
theorem dL_law_285 : decode cL_law 285 = .ok (.lcmp, 1) := by decide +kernel
theorem dL_law_286 : decode cL_law 286 = .ok (.ifCond .eq 5, 3) := by decide +kernel
theorem dL_law_289 : decode cL_law 289 = .ok (.iconst 0, 1) := by decide +kernel
theorem dL_law_290 : decode cL_law 290 = .ok (.ireturn, 1) := by decide +kernel
theorem dL_law_291 : decode cL_law 291 = .ok (.goto 687, 3) := by decide +kernel
theorem dL_law_294 : decode cL_law 294 = .ok (.aload_n 1, 1) := by decide +kernel
theorem dL_law_295 : decode cL_law 295 = .ok (.aload_n 0, 1) := by decide +kernel
theorem dL_law_296 : decode cL_law 296 = .ok (.iload 4, 2) := by decide +kernel
theorem dL_law_298 : decode cL_law 298 = .ok (.iconst 1, 1) := by decide +kernel
theorem dL_law_299 : decode cL_law 299 = .ok (.iadd, 1) := by decide +kernel
theorem dL_law_300 : decode cL_law 300 = .ok (.iaload, 1) := by decide +kernel
theorem dL_law_301 : decode cL_law 301 = .ok (.aload_n 0, 1) := by decide +kernel
theorem dL_law_302 : decode cL_law 302 = .ok (.iload 4, 2) := by decide +kernel
theorem dL_law_304 : decode cL_law 304 = .ok (.iconst 2, 1) := by decide +kernel
theorem dL_law_305 : decode cL_law 305 = .ok (.iadd, 1) := by decide +kernel
theorem dL_law_306 : decode cL_law 306 = .ok (.iaload, 1) := by decide +kernel
theorem dL_law_307 : decode cL_law 307 = .ok (.aload_n 0, 1) := by decide +kernel
theorem dL_law_308 : decode cL_law 308 = .ok (.iload 4, 2) := by decide +kernel
theorem dL_law_310 : decode cL_law 310 = .ok (.iconst 3, 1) := by decide +kernel
theorem dL_law_311 : decode cL_law 311 = .ok (.iadd, 1) := by decide +kernel
theorem dL_law_312 : decode cL_law 312 = .ok (.iaload, 1) := by decide +kernel
theorem dL_law_313 : decode cL_law 313 = .ok (.aload_n 3, 1) := by decide +kernel
theorem dL_law_314 : decode cL_law 314 = .ok (.invokestatic 63, 3) := by decide +kernel
theorem dL_law_317 : decode cL_law 317 = .ok (.istore 5, 2) := by decide +kernel
theorem dL_law_319 : decode cL_law 319 = .ok (.aload_n 2, 1) := by decide +kernel
theorem dL_law_320 : decode cL_law 320 = .ok (.aload_n 0, 1) := by decide +kernel
theorem dL_law_321 : decode cL_law 321 = .ok (.iload 4, 2) := by decide +kernel
theorem dL_law_323 : decode cL_law 323 = .ok (.iconst 1, 1) := by decide +kernel
theorem dL_law_324 : decode cL_law 324 = .ok (.iadd, 1) := by decide +kernel
theorem dL_law_325 : decode cL_law 325 = .ok (.iaload, 1) := by decide +kernel
theorem dL_law_326 : decode cL_law 326 = .ok (.aload_n 0, 1) := by decide +kernel
theorem dL_law_327 : decode cL_law 327 = .ok (.iload 4, 2) := by decide +kernel
theorem dL_law_329 : decode cL_law 329 = .ok (.iconst 2, 1) := by decide +kernel
theorem dL_law_330 : decode cL_law 330 = .ok (.iadd, 1) := by decide +kernel
theorem dL_law_331 : decode cL_law 331 = .ok (.iaload, 1) := by decide +kernel
theorem dL_law_332 : decode cL_law 332 = .ok (.aload_n 0, 1) := by decide +kernel
theorem dL_law_333 : decode cL_law 333 = .ok (.iload 4, 2) := by decide +kernel
theorem dL_law_335 : decode cL_law 335 = .ok (.iconst 3, 1) := by decide +kernel
theorem dL_law_336 : decode cL_law 336 = .ok (.iadd, 1) := by decide +kernel
theorem dL_law_337 : decode cL_law 337 = .ok (.iaload, 1) := by decide +kernel
theorem dL_law_338 : decode cL_law 338 = .ok (.invokevirtual 66, 3) := by decide +kernel
theorem dL_law_341 : decode cL_law 341 = .ok (.istore 6, 2) := by decide +kernel
theorem dL_law_343 : decode cL_law 343 = .ok (.aload_n 2, 1) := by decide +kernel
theorem dL_law_344 : decode cL_law 344 = .ok (.invokevirtual 59, 3) := by decide +kernel
theorem dL_law_347 : decode cL_law 347 = .ok (.iload 5, 2) := by decide +kernel
theorem dL_law_349 : decode cL_law 349 = .ok (.if_icmp .eq 5, 3) := by decide +kernel
theorem dL_law_352 : decode cL_law 352 = .ok (.iconst 0, 1) := by decide +kernel
theorem dL_law_353 : decode cL_law 353 = .ok (.ireturn, 1) := by decide +kernel
theorem dL_law_354 : decode cL_law 354 = .ok (.iload 5, 2) := by decide +kernel
theorem dL_law_356 : decode cL_law 356 = .ok (.ifCond .ne 15, 3) := by decide +kernel
theorem dL_law_359 : decode cL_law 359 = .ok (.aload_n 3, 1) := by decide +kernel
theorem dL_law_360 : decode cL_law 360 = .ok (.iconst 0, 1) := by decide +kernel
theorem dL_law_361 : decode cL_law 361 = .ok (.laload, 1) := by decide +kernel
theorem dL_law_362 : decode cL_law 362 = .ok (.iload 6, 2) := by decide +kernel
theorem dL_law_364 : decode cL_law 364 = .ok (.i2l, 1) := by decide +kernel
theorem dL_law_365 : decode cL_law 365 = .ok (.lcmp, 1) := by decide +kernel
theorem dL_law_366 : decode cL_law 366 = .ok (.ifCond .eq 5, 3) := by decide +kernel
theorem dL_law_369 : decode cL_law 369 = .ok (.iconst 0, 1) := by decide +kernel
theorem dL_law_370 : decode cL_law 370 = .ok (.ireturn, 1) := by decide +kernel
theorem dL_law_371 : decode cL_law 371 = .ok (.goto 607, 3) := by decide +kernel
theorem dL_law_374 : decode cL_law 374 = .ok (.aload_n 1, 1) := by decide +kernel
theorem dL_law_375 : decode cL_law 375 = .ok (.aload_n 0, 1) := by decide +kernel
theorem dL_law_376 : decode cL_law 376 = .ok (.iload 4, 2) := by decide +kernel
theorem dL_law_378 : decode cL_law 378 = .ok (.iconst 1, 1) := by decide +kernel
theorem dL_law_379 : decode cL_law 379 = .ok (.iadd, 1) := by decide +kernel
theorem dL_law_380 : decode cL_law 380 = .ok (.iaload, 1) := by decide +kernel
theorem dL_law_381 : decode cL_law 381 = .ok (.aload_n 0, 1) := by decide +kernel
theorem dL_law_382 : decode cL_law 382 = .ok (.iload 4, 2) := by decide +kernel
theorem dL_law_384 : decode cL_law 384 = .ok (.iconst 2, 1) := by decide +kernel
theorem dL_law_385 : decode cL_law 385 = .ok (.iadd, 1) := by decide +kernel
theorem dL_law_386 : decode cL_law 386 = .ok (.iaload, 1) := by decide +kernel
theorem dL_law_387 : decode cL_law 387 = .ok (.aload_n 0, 1) := by decide +kernel
theorem dL_law_388 : decode cL_law 388 = .ok (.iload 4, 2) := by decide +kernel
theorem dL_law_390 : decode cL_law 390 = .ok (.iconst 3, 1) := by decide +kernel
theorem dL_law_391 : decode cL_law 391 = .ok (.iadd, 1) := by decide +kernel
theorem dL_law_392 : decode cL_law 392 = .ok (.iaload, 1) := by decide +kernel
theorem dL_law_393 : decode cL_law 393 = .ok (.aload_n 0, 1) := by decide +kernel
theorem dL_law_394 : decode cL_law 394 = .ok (.iload 4, 2) := by decide +kernel
theorem dL_law_396 : decode cL_law 396 = .ok (.iconst 4, 1) := by decide +kernel
theorem dL_law_397 : decode cL_law 397 = .ok (.iadd, 1) := by decide +kernel
theorem dL_law_398 : decode cL_law 398 = .ok (.iaload, 1) := by decide +kernel
theorem dL_law_399 : decode cL_law 399 = .ok (.i2l, 1) := by decide +kernel
theorem dL_law_400 : decode cL_law 400 = .ok (.bipush 32, 2) := by decide +kernel
theorem dL_law_402 : decode cL_law 402 = .ok (.lshl, 1) := by decide +kernel
theorem dL_law_403 : decode cL_law 403 = .ok (.aload_n 0, 1) := by decide +kernel
theorem dL_law_404 : decode cL_law 404 = .ok (.iload 4, 2) := by decide +kernel
theorem dL_law_406 : decode cL_law 406 = .ok (.iconst 5, 1) := by decide +kernel
theorem dL_law_407 : decode cL_law 407 = .ok (.iadd, 1) := by decide +kernel
theorem dL_law_408 : decode cL_law 408 = .ok (.iaload, 1) := by decide +kernel
theorem dL_law_409 : decode cL_law 409 = .ok (.i2l, 1) := by decide +kernel
theorem dL_law_410 : decode cL_law 410 = .ok (.ldc2_w 51, 3) := by decide +kernel
theorem dL_law_413 : decode cL_law 413 = .ok (.land, 1) := by decide +kernel
theorem dL_law_414 : decode cL_law 414 = .ok (.lor, 1) := by decide +kernel
theorem dL_law_415 : decode cL_law 415 = .ok (.aload_n 0, 1) := by decide +kernel
theorem dL_law_416 : decode cL_law 416 = .ok (.iload 4, 2) := by decide +kernel
theorem dL_law_418 : decode cL_law 418 = .ok (.bipush 6, 2) := by decide +kernel
theorem dL_law_420 : decode cL_law 420 = .ok (.iadd, 1) := by decide +kernel
theorem dL_law_421 : decode cL_law 421 = .ok (.iaload, 1) := by decide +kernel
theorem dL_law_422 : decode cL_law 422 = .ok (.aload_n 3, 1) := by decide +kernel
theorem dL_law_423 : decode cL_law 423 = .ok (.invokestatic 67, 3) := by decide +kernel
theorem dL_law_426 : decode cL_law 426 = .ok (.istore 5, 2) := by decide +kernel
theorem dL_law_428 : decode cL_law 428 = .ok (.aload_n 2, 1) := by decide +kernel
theorem dL_law_429 : decode cL_law 429 = .ok (.aload_n 0, 1) := by decide +kernel
theorem dL_law_430 : decode cL_law 430 = .ok (.iload 4, 2) := by decide +kernel
theorem dL_law_432 : decode cL_law 432 = .ok (.iconst 1, 1) := by decide +kernel
theorem dL_law_433 : decode cL_law 433 = .ok (.iadd, 1) := by decide +kernel
theorem dL_law_434 : decode cL_law 434 = .ok (.iaload, 1) := by decide +kernel
theorem dL_law_435 : decode cL_law 435 = .ok (.aload_n 0, 1) := by decide +kernel
theorem dL_law_436 : decode cL_law 436 = .ok (.iload 4, 2) := by decide +kernel
theorem dL_law_438 : decode cL_law 438 = .ok (.iconst 2, 1) := by decide +kernel
theorem dL_law_439 : decode cL_law 439 = .ok (.iadd, 1) := by decide +kernel
theorem dL_law_440 : decode cL_law 440 = .ok (.iaload, 1) := by decide +kernel
theorem dL_law_441 : decode cL_law 441 = .ok (.aload_n 0, 1) := by decide +kernel
theorem dL_law_442 : decode cL_law 442 = .ok (.iload 4, 2) := by decide +kernel
theorem dL_law_444 : decode cL_law 444 = .ok (.iconst 3, 1) := by decide +kernel
theorem dL_law_445 : decode cL_law 445 = .ok (.iadd, 1) := by decide +kernel
theorem dL_law_446 : decode cL_law 446 = .ok (.iaload, 1) := by decide +kernel
theorem dL_law_447 : decode cL_law 447 = .ok (.aload_n 0, 1) := by decide +kernel
theorem dL_law_448 : decode cL_law 448 = .ok (.iload 4, 2) := by decide +kernel
theorem dL_law_450 : decode cL_law 450 = .ok (.iconst 4, 1) := by decide +kernel
theorem dL_law_451 : decode cL_law 451 = .ok (.iadd, 1) := by decide +kernel
theorem dL_law_452 : decode cL_law 452 = .ok (.iaload, 1) := by decide +kernel
theorem dL_law_453 : decode cL_law 453 = .ok (.i2l, 1) := by decide +kernel
theorem dL_law_454 : decode cL_law 454 = .ok (.bipush 32, 2) := by decide +kernel
theorem dL_law_456 : decode cL_law 456 = .ok (.lshl, 1) := by decide +kernel
theorem dL_law_457 : decode cL_law 457 = .ok (.aload_n 0, 1) := by decide +kernel
theorem dL_law_458 : decode cL_law 458 = .ok (.iload 4, 2) := by decide +kernel
theorem dL_law_460 : decode cL_law 460 = .ok (.iconst 5, 1) := by decide +kernel
theorem dL_law_461 : decode cL_law 461 = .ok (.iadd, 1) := by decide +kernel
theorem dL_law_462 : decode cL_law 462 = .ok (.iaload, 1) := by decide +kernel
theorem dL_law_463 : decode cL_law 463 = .ok (.i2l, 1) := by decide +kernel
theorem dL_law_464 : decode cL_law 464 = .ok (.ldc2_w 51, 3) := by decide +kernel
theorem dL_law_467 : decode cL_law 467 = .ok (.land, 1) := by decide +kernel
theorem dL_law_468 : decode cL_law 468 = .ok (.lor, 1) := by decide +kernel
theorem dL_law_469 : decode cL_law 469 = .ok (.aload_n 0, 1) := by decide +kernel
theorem dL_law_470 : decode cL_law 470 = .ok (.iload 4, 2) := by decide +kernel
theorem dL_law_472 : decode cL_law 472 = .ok (.bipush 6, 2) := by decide +kernel
theorem dL_law_474 : decode cL_law 474 = .ok (.iadd, 1) := by decide +kernel
theorem dL_law_475 : decode cL_law 475 = .ok (.iaload, 1) := by decide +kernel
theorem dL_law_476 : decode cL_law 476 = .ok (.invokevirtual 70, 3) := by decide +kernel
theorem dL_law_479 : decode cL_law 479 = .ok (.istore 6, 2) := by decide +kernel
theorem dL_law_481 : decode cL_law 481 = .ok (.aload_n 2, 1) := by decide +kernel
theorem dL_law_482 : decode cL_law 482 = .ok (.invokevirtual 59, 3) := by decide +kernel
theorem dL_law_485 : decode cL_law 485 = .ok (.iload 5, 2) := by decide +kernel
theorem dL_law_487 : decode cL_law 487 = .ok (.if_icmp .eq 5, 3) := by decide +kernel
theorem dL_law_490 : decode cL_law 490 = .ok (.iconst 0, 1) := by decide +kernel
theorem dL_law_491 : decode cL_law 491 = .ok (.ireturn, 1) := by decide +kernel
theorem dL_law_492 : decode cL_law 492 = .ok (.iload 5, 2) := by decide +kernel
theorem dL_law_494 : decode cL_law 494 = .ok (.ifCond .ne 15, 3) := by decide +kernel
theorem dL_law_497 : decode cL_law 497 = .ok (.aload_n 3, 1) := by decide +kernel
theorem dL_law_498 : decode cL_law 498 = .ok (.iconst 0, 1) := by decide +kernel
theorem dL_law_499 : decode cL_law 499 = .ok (.laload, 1) := by decide +kernel
theorem dL_law_500 : decode cL_law 500 = .ok (.iload 6, 2) := by decide +kernel
theorem dL_law_502 : decode cL_law 502 = .ok (.i2l, 1) := by decide +kernel
theorem dL_law_503 : decode cL_law 503 = .ok (.lcmp, 1) := by decide +kernel
theorem dL_law_504 : decode cL_law 504 = .ok (.ifCond .eq 5, 3) := by decide +kernel
theorem dL_law_507 : decode cL_law 507 = .ok (.iconst 0, 1) := by decide +kernel
theorem dL_law_508 : decode cL_law 508 = .ok (.ireturn, 1) := by decide +kernel
theorem dL_law_509 : decode cL_law 509 = .ok (.goto 469, 3) := by decide +kernel
theorem dL_law_512 : decode cL_law 512 = .ok (.aload_n 1, 1) := by decide +kernel
theorem dL_law_513 : decode cL_law 513 = .ok (.aload_n 0, 1) := by decide +kernel
theorem dL_law_514 : decode cL_law 514 = .ok (.iload 4, 2) := by decide +kernel
theorem dL_law_516 : decode cL_law 516 = .ok (.iconst 1, 1) := by decide +kernel
theorem dL_law_517 : decode cL_law 517 = .ok (.iadd, 1) := by decide +kernel
theorem dL_law_518 : decode cL_law 518 = .ok (.iaload, 1) := by decide +kernel
theorem dL_law_519 : decode cL_law 519 = .ok (.invokevirtual 71, 3) := by decide +kernel
theorem dL_law_522 : decode cL_law 522 = .ok (.aload_n 2, 1) := by decide +kernel
theorem dL_law_523 : decode cL_law 523 = .ok (.aload_n 0, 1) := by decide +kernel
theorem dL_law_524 : decode cL_law 524 = .ok (.iload 4, 2) := by decide +kernel
theorem dL_law_526 : decode cL_law 526 = .ok (.iconst 1, 1) := by decide +kernel
theorem dL_law_527 : decode cL_law 527 = .ok (.iadd, 1) := by decide +kernel
theorem dL_law_528 : decode cL_law 528 = .ok (.iaload, 1) := by decide +kernel
theorem dL_law_529 : decode cL_law 529 = .ok (.invokevirtual 75, 3) := by decide +kernel
theorem dL_law_532 : decode cL_law 532 = .ok (.if_icmp .eq 446, 3) := by decide +kernel
theorem dL_law_535 : decode cL_law 535 = .ok (.iconst 0, 1) := by decide +kernel
theorem dL_law_536 : decode cL_law 536 = .ok (.ireturn, 1) := by decide +kernel
theorem dL_law_537 : decode cL_law 537 = .ok (.aload_n 1, 1) := by decide +kernel
theorem dL_law_538 : decode cL_law 538 = .ok (.aload_n 0, 1) := by decide +kernel
theorem dL_law_539 : decode cL_law 539 = .ok (.iload 4, 2) := by decide +kernel
theorem dL_law_541 : decode cL_law 541 = .ok (.iconst 1, 1) := by decide +kernel
theorem dL_law_542 : decode cL_law 542 = .ok (.iadd, 1) := by decide +kernel
theorem dL_law_543 : decode cL_law 543 = .ok (.iaload, 1) := by decide +kernel
theorem dL_law_544 : decode cL_law 544 = .ok (.aload_n 0, 1) := by decide +kernel
theorem dL_law_545 : decode cL_law 545 = .ok (.iload 4, 2) := by decide +kernel
theorem dL_law_547 : decode cL_law 547 = .ok (.iconst 2, 1) := by decide +kernel
theorem dL_law_548 : decode cL_law 548 = .ok (.iadd, 1) := by decide +kernel
theorem dL_law_549 : decode cL_law 549 = .ok (.iaload, 1) := by decide +kernel
theorem dL_law_550 : decode cL_law 550 = .ok (.invokevirtual 76, 3) := by decide +kernel
theorem dL_law_553 : decode cL_law 553 = .ok (.aload_n 2, 1) := by decide +kernel
theorem dL_law_554 : decode cL_law 554 = .ok (.aload_n 0, 1) := by decide +kernel
theorem dL_law_555 : decode cL_law 555 = .ok (.iload 4, 2) := by decide +kernel
theorem dL_law_557 : decode cL_law 557 = .ok (.iconst 1, 1) := by decide +kernel
theorem dL_law_558 : decode cL_law 558 = .ok (.iadd, 1) := by decide +kernel
theorem dL_law_559 : decode cL_law 559 = .ok (.iaload, 1) := by decide +kernel
theorem dL_law_560 : decode cL_law 560 = .ok (.aload_n 0, 1) := by decide +kernel
theorem dL_law_561 : decode cL_law 561 = .ok (.iload 4, 2) := by decide +kernel
theorem dL_law_563 : decode cL_law 563 = .ok (.iconst 2, 1) := by decide +kernel
theorem dL_law_564 : decode cL_law 564 = .ok (.iadd, 1) := by decide +kernel
theorem dL_law_565 : decode cL_law 565 = .ok (.iaload, 1) := by decide +kernel
theorem dL_law_566 : decode cL_law 566 = .ok (.invokevirtual 80, 3) := by decide +kernel
theorem dL_law_569 : decode cL_law 569 = .ok (.if_icmp .eq 409, 3) := by decide +kernel
theorem dL_law_572 : decode cL_law 572 = .ok (.iconst 0, 1) := by decide +kernel
theorem dL_law_573 : decode cL_law 573 = .ok (.ireturn, 1) := by decide +kernel
theorem dL_law_574 : decode cL_law 574 = .ok (.aload_n 1, 1) := by decide +kernel
theorem dL_law_575 : decode cL_law 575 = .ok (.aload_n 0, 1) := by decide +kernel
theorem dL_law_576 : decode cL_law 576 = .ok (.iload 4, 2) := by decide +kernel
theorem dL_law_578 : decode cL_law 578 = .ok (.iconst 1, 1) := by decide +kernel
theorem dL_law_579 : decode cL_law 579 = .ok (.iadd, 1) := by decide +kernel
theorem dL_law_580 : decode cL_law 580 = .ok (.iaload, 1) := by decide +kernel
theorem dL_law_581 : decode cL_law 581 = .ok (.aload_n 0, 1) := by decide +kernel
theorem dL_law_582 : decode cL_law 582 = .ok (.iload 4, 2) := by decide +kernel
theorem dL_law_584 : decode cL_law 584 = .ok (.iconst 2, 1) := by decide +kernel
theorem dL_law_585 : decode cL_law 585 = .ok (.iadd, 1) := by decide +kernel
theorem dL_law_586 : decode cL_law 586 = .ok (.iaload, 1) := by decide +kernel
theorem dL_law_587 : decode cL_law 587 = .ok (.aload_n 0, 1) := by decide +kernel
theorem dL_law_588 : decode cL_law 588 = .ok (.iload 4, 2) := by decide +kernel
theorem dL_law_590 : decode cL_law 590 = .ok (.iconst 3, 1) := by decide +kernel
theorem dL_law_591 : decode cL_law 591 = .ok (.iadd, 1) := by decide +kernel
theorem dL_law_592 : decode cL_law 592 = .ok (.iaload, 1) := by decide +kernel
theorem dL_law_593 : decode cL_law 593 = .ok (.aload_n 3, 1) := by decide +kernel
theorem dL_law_594 : decode cL_law 594 = .ok (.invokestatic 81, 3) := by decide +kernel
theorem dL_law_597 : decode cL_law 597 = .ok (.istore 5, 2) := by decide +kernel
theorem dL_law_599 : decode cL_law 599 = .ok (.aload_n 2, 1) := by decide +kernel
theorem dL_law_600 : decode cL_law 600 = .ok (.aload_n 0, 1) := by decide +kernel
theorem dL_law_601 : decode cL_law 601 = .ok (.iload 4, 2) := by decide +kernel
theorem dL_law_603 : decode cL_law 603 = .ok (.iconst 1, 1) := by decide +kernel
theorem dL_law_604 : decode cL_law 604 = .ok (.iadd, 1) := by decide +kernel
theorem dL_law_605 : decode cL_law 605 = .ok (.iaload, 1) := by decide +kernel
theorem dL_law_606 : decode cL_law 606 = .ok (.aload_n 0, 1) := by decide +kernel
theorem dL_law_607 : decode cL_law 607 = .ok (.iload 4, 2) := by decide +kernel
theorem dL_law_609 : decode cL_law 609 = .ok (.iconst 2, 1) := by decide +kernel
theorem dL_law_610 : decode cL_law 610 = .ok (.iadd, 1) := by decide +kernel
theorem dL_law_611 : decode cL_law 611 = .ok (.iaload, 1) := by decide +kernel
theorem dL_law_612 : decode cL_law 612 = .ok (.aload_n 0, 1) := by decide +kernel
theorem dL_law_613 : decode cL_law 613 = .ok (.iload 4, 2) := by decide +kernel
theorem dL_law_615 : decode cL_law 615 = .ok (.iconst 3, 1) := by decide +kernel
theorem dL_law_616 : decode cL_law 616 = .ok (.iadd, 1) := by decide +kernel
theorem dL_law_617 : decode cL_law 617 = .ok (.iaload, 1) := by decide +kernel
theorem dL_law_618 : decode cL_law 618 = .ok (.invokevirtual 83, 3) := by decide +kernel
theorem dL_law_621 : decode cL_law 621 = .ok (.lstore 6, 2) := by decide +kernel
theorem dL_law_623 : decode cL_law 623 = .ok (.aload_n 2, 1) := by decide +kernel
theorem dL_law_624 : decode cL_law 624 = .ok (.invokevirtual 59, 3) := by decide +kernel
theorem dL_law_627 : decode cL_law 627 = .ok (.iload 5, 2) := by decide +kernel
theorem dL_law_629 : decode cL_law 629 = .ok (.if_icmp .eq 5, 3) := by decide +kernel
theorem dL_law_632 : decode cL_law 632 = .ok (.iconst 0, 1) := by decide +kernel
theorem dL_law_633 : decode cL_law 633 = .ok (.ireturn, 1) := by decide +kernel
theorem dL_law_634 : decode cL_law 634 = .ok (.iload 5, 2) := by decide +kernel
theorem dL_law_636 : decode cL_law 636 = .ok (.ifCond .ne 14, 3) := by decide +kernel
theorem dL_law_639 : decode cL_law 639 = .ok (.aload_n 3, 1) := by decide +kernel
theorem dL_law_640 : decode cL_law 640 = .ok (.iconst 0, 1) := by decide +kernel
theorem dL_law_641 : decode cL_law 641 = .ok (.laload, 1) := by decide +kernel
theorem dL_law_642 : decode cL_law 642 = .ok (.lload 6, 2) := by decide +kernel
theorem dL_law_644 : decode cL_law 644 = .ok (.lcmp, 1) := by decide +kernel
theorem dL_law_645 : decode cL_law 645 = .ok (.ifCond .eq 5, 3) := by decide +kernel
theorem dL_law_648 : decode cL_law 648 = .ok (.iconst 0, 1) := by decide +kernel
theorem dL_law_649 : decode cL_law 649 = .ok (.ireturn, 1) := by decide +kernel
theorem dL_law_650 : decode cL_law 650 = .ok (.goto 328, 3) := by decide +kernel
theorem dL_law_653 : decode cL_law 653 = .ok (.aload_n 1, 1) := by decide +kernel
theorem dL_law_654 : decode cL_law 654 = .ok (.aload_n 0, 1) := by decide +kernel
theorem dL_law_655 : decode cL_law 655 = .ok (.iload 4, 2) := by decide +kernel
theorem dL_law_657 : decode cL_law 657 = .ok (.iconst 1, 1) := by decide +kernel
theorem dL_law_658 : decode cL_law 658 = .ok (.iadd, 1) := by decide +kernel
theorem dL_law_659 : decode cL_law 659 = .ok (.iaload, 1) := by decide +kernel
theorem dL_law_660 : decode cL_law 660 = .ok (.aload_n 0, 1) := by decide +kernel
theorem dL_law_661 : decode cL_law 661 = .ok (.iload 4, 2) := by decide +kernel
theorem dL_law_663 : decode cL_law 663 = .ok (.iconst 2, 1) := by decide +kernel
theorem dL_law_664 : decode cL_law 664 = .ok (.iadd, 1) := by decide +kernel
theorem dL_law_665 : decode cL_law 665 = .ok (.iaload, 1) := by decide +kernel
theorem dL_law_666 : decode cL_law 666 = .ok (.aload_n 3, 1) := by decide +kernel
theorem dL_law_667 : decode cL_law 667 = .ok (.invokestatic 84, 3) := by decide +kernel
theorem dL_law_670 : decode cL_law 670 = .ok (.istore 5, 2) := by decide +kernel
theorem dL_law_672 : decode cL_law 672 = .ok (.aload_n 2, 1) := by decide +kernel
theorem dL_law_673 : decode cL_law 673 = .ok (.aload_n 0, 1) := by decide +kernel
theorem dL_law_674 : decode cL_law 674 = .ok (.iload 4, 2) := by decide +kernel
theorem dL_law_676 : decode cL_law 676 = .ok (.iconst 1, 1) := by decide +kernel
theorem dL_law_677 : decode cL_law 677 = .ok (.iadd, 1) := by decide +kernel
theorem dL_law_678 : decode cL_law 678 = .ok (.iaload, 1) := by decide +kernel
theorem dL_law_679 : decode cL_law 679 = .ok (.aload_n 0, 1) := by decide +kernel
theorem dL_law_680 : decode cL_law 680 = .ok (.iload 4, 2) := by decide +kernel
theorem dL_law_682 : decode cL_law 682 = .ok (.iconst 2, 1) := by decide +kernel
theorem dL_law_683 : decode cL_law 683 = .ok (.iadd, 1) := by decide +kernel
theorem dL_law_684 : decode cL_law 684 = .ok (.iaload, 1) := by decide +kernel
theorem dL_law_685 : decode cL_law 685 = .ok (.invokevirtual 87, 3) := by decide +kernel
theorem dL_law_688 : decode cL_law 688 = .ok (.lstore 6, 2) := by decide +kernel
theorem dL_law_690 : decode cL_law 690 = .ok (.aload_n 2, 1) := by decide +kernel
theorem dL_law_691 : decode cL_law 691 = .ok (.invokevirtual 59, 3) := by decide +kernel
theorem dL_law_694 : decode cL_law 694 = .ok (.iload 5, 2) := by decide +kernel
theorem dL_law_696 : decode cL_law 696 = .ok (.if_icmp .eq 5, 3) := by decide +kernel
theorem dL_law_699 : decode cL_law 699 = .ok (.iconst 0, 1) := by decide +kernel
theorem dL_law_700 : decode cL_law 700 = .ok (.ireturn, 1) := by decide +kernel
theorem dL_law_701 : decode cL_law 701 = .ok (.iload 5, 2) := by decide +kernel
theorem dL_law_703 : decode cL_law 703 = .ok (.ifCond .ne 14, 3) := by decide +kernel
theorem dL_law_706 : decode cL_law 706 = .ok (.aload_n 3, 1) := by decide +kernel
theorem dL_law_707 : decode cL_law 707 = .ok (.iconst 0, 1) := by decide +kernel
theorem dL_law_708 : decode cL_law 708 = .ok (.laload, 1) := by decide +kernel
theorem dL_law_709 : decode cL_law 709 = .ok (.lload 6, 2) := by decide +kernel
theorem dL_law_711 : decode cL_law 711 = .ok (.lcmp, 1) := by decide +kernel
theorem dL_law_712 : decode cL_law 712 = .ok (.ifCond .eq 5, 3) := by decide +kernel
theorem dL_law_715 : decode cL_law 715 = .ok (.iconst 0, 1) := by decide +kernel
theorem dL_law_716 : decode cL_law 716 = .ok (.ireturn, 1) := by decide +kernel
theorem dL_law_717 : decode cL_law 717 = .ok (.goto 261, 3) := by decide +kernel
theorem dL_law_720 : decode cL_law 720 = .ok (.aload_n 1, 1) := by decide +kernel
theorem dL_law_721 : decode cL_law 721 = .ok (.aload_n 0, 1) := by decide +kernel
theorem dL_law_722 : decode cL_law 722 = .ok (.iload 4, 2) := by decide +kernel
theorem dL_law_724 : decode cL_law 724 = .ok (.iconst 1, 1) := by decide +kernel
theorem dL_law_725 : decode cL_law 725 = .ok (.iadd, 1) := by decide +kernel
theorem dL_law_726 : decode cL_law 726 = .ok (.iaload, 1) := by decide +kernel
theorem dL_law_727 : decode cL_law 727 = .ok (.aload_n 0, 1) := by decide +kernel
theorem dL_law_728 : decode cL_law 728 = .ok (.iload 4, 2) := by decide +kernel
theorem dL_law_730 : decode cL_law 730 = .ok (.iconst 2, 1) := by decide +kernel
theorem dL_law_731 : decode cL_law 731 = .ok (.iadd, 1) := by decide +kernel
theorem dL_law_732 : decode cL_law 732 = .ok (.iaload, 1) := by decide +kernel
theorem dL_law_733 : decode cL_law 733 = .ok (.aload_n 3, 1) := by decide +kernel
theorem dL_law_734 : decode cL_law 734 = .ok (.invokestatic 88, 3) := by decide +kernel
theorem dL_law_737 : decode cL_law 737 = .ok (.istore 5, 2) := by decide +kernel
theorem dL_law_739 : decode cL_law 739 = .ok (.aload_n 2, 1) := by decide +kernel
theorem dL_law_740 : decode cL_law 740 = .ok (.aload_n 0, 1) := by decide +kernel
theorem dL_law_741 : decode cL_law 741 = .ok (.iload 4, 2) := by decide +kernel
theorem dL_law_743 : decode cL_law 743 = .ok (.iconst 1, 1) := by decide +kernel
theorem dL_law_744 : decode cL_law 744 = .ok (.iadd, 1) := by decide +kernel
theorem dL_law_745 : decode cL_law 745 = .ok (.iaload, 1) := by decide +kernel
theorem dL_law_746 : decode cL_law 746 = .ok (.aload_n 0, 1) := by decide +kernel
theorem dL_law_747 : decode cL_law 747 = .ok (.iload 4, 2) := by decide +kernel
theorem dL_law_749 : decode cL_law 749 = .ok (.iconst 2, 1) := by decide +kernel
theorem dL_law_750 : decode cL_law 750 = .ok (.iadd, 1) := by decide +kernel
theorem dL_law_751 : decode cL_law 751 = .ok (.iaload, 1) := by decide +kernel
theorem dL_law_752 : decode cL_law 752 = .ok (.invokevirtual 90, 3) := by decide +kernel
theorem dL_law_755 : decode cL_law 755 = .ok (.lstore 6, 2) := by decide +kernel
theorem dL_law_757 : decode cL_law 757 = .ok (.aload_n 2, 1) := by decide +kernel
theorem dL_law_758 : decode cL_law 758 = .ok (.invokevirtual 59, 3) := by decide +kernel
theorem dL_law_761 : decode cL_law 761 = .ok (.iload 5, 2) := by decide +kernel
theorem dL_law_763 : decode cL_law 763 = .ok (.if_icmp .eq 5, 3) := by decide +kernel
theorem dL_law_766 : decode cL_law 766 = .ok (.iconst 0, 1) := by decide +kernel
theorem dL_law_767 : decode cL_law 767 = .ok (.ireturn, 1) := by decide +kernel
theorem dL_law_768 : decode cL_law 768 = .ok (.iload 5, 2) := by decide +kernel
theorem dL_law_770 : decode cL_law 770 = .ok (.ifCond .ne 14, 3) := by decide +kernel
theorem dL_law_773 : decode cL_law 773 = .ok (.aload_n 3, 1) := by decide +kernel
theorem dL_law_774 : decode cL_law 774 = .ok (.iconst 0, 1) := by decide +kernel
theorem dL_law_775 : decode cL_law 775 = .ok (.laload, 1) := by decide +kernel
theorem dL_law_776 : decode cL_law 776 = .ok (.lload 6, 2) := by decide +kernel
theorem dL_law_778 : decode cL_law 778 = .ok (.lcmp, 1) := by decide +kernel
theorem dL_law_779 : decode cL_law 779 = .ok (.ifCond .eq 5, 3) := by decide +kernel
theorem dL_law_782 : decode cL_law 782 = .ok (.iconst 0, 1) := by decide +kernel
theorem dL_law_783 : decode cL_law 783 = .ok (.ireturn, 1) := by decide +kernel
theorem dL_law_784 : decode cL_law 784 = .ok (.goto 194, 3) := by decide +kernel
theorem dL_law_787 : decode cL_law 787 = .ok (.aload_n 1, 1) := by decide +kernel
theorem dL_law_788 : decode cL_law 788 = .ok (.aload_n 3, 1) := by decide +kernel
theorem dL_law_789 : decode cL_law 789 = .ok (.invokestatic 91, 3) := by decide +kernel
theorem dL_law_792 : decode cL_law 792 = .ok (.istore 5, 2) := by decide +kernel
theorem dL_law_794 : decode cL_law 794 = .ok (.aload_n 2, 1) := by decide +kernel
theorem dL_law_795 : decode cL_law 795 = .ok (.invokevirtual 94, 3) := by decide +kernel
theorem dL_law_798 : decode cL_law 798 = .ok (.lstore 6, 2) := by decide +kernel
theorem dL_law_800 : decode cL_law 800 = .ok (.aload_n 2, 1) := by decide +kernel
theorem dL_law_801 : decode cL_law 801 = .ok (.invokevirtual 59, 3) := by decide +kernel
theorem dL_law_804 : decode cL_law 804 = .ok (.iload 5, 2) := by decide +kernel
theorem dL_law_806 : decode cL_law 806 = .ok (.if_icmp .eq 5, 3) := by decide +kernel
theorem dL_law_809 : decode cL_law 809 = .ok (.iconst 0, 1) := by decide +kernel
theorem dL_law_810 : decode cL_law 810 = .ok (.ireturn, 1) := by decide +kernel
theorem dL_law_811 : decode cL_law 811 = .ok (.iload 5, 2) := by decide +kernel
theorem dL_law_813 : decode cL_law 813 = .ok (.ifCond .ne 14, 3) := by decide +kernel
theorem dL_law_816 : decode cL_law 816 = .ok (.aload_n 3, 1) := by decide +kernel
theorem dL_law_817 : decode cL_law 817 = .ok (.iconst 0, 1) := by decide +kernel
theorem dL_law_818 : decode cL_law 818 = .ok (.laload, 1) := by decide +kernel
theorem dL_law_819 : decode cL_law 819 = .ok (.lload 6, 2) := by decide +kernel
theorem dL_law_821 : decode cL_law 821 = .ok (.lcmp, 1) := by decide +kernel
theorem dL_law_822 : decode cL_law 822 = .ok (.ifCond .eq 5, 3) := by decide +kernel
theorem dL_law_825 : decode cL_law 825 = .ok (.iconst 0, 1) := by decide +kernel
theorem dL_law_826 : decode cL_law 826 = .ok (.ireturn, 1) := by decide +kernel
theorem dL_law_827 : decode cL_law 827 = .ok (.goto 151, 3) := by decide +kernel
theorem dL_law_830 : decode cL_law 830 = .ok (.aload_n 1, 1) := by decide +kernel
theorem dL_law_831 : decode cL_law 831 = .ok (.invokevirtual 95, 3) := by decide +kernel
theorem dL_law_834 : decode cL_law 834 = .ok (.aload_n 2, 1) := by decide +kernel
theorem dL_law_835 : decode cL_law 835 = .ok (.invokevirtual 98, 3) := by decide +kernel
theorem dL_law_838 : decode cL_law 838 = .ok (.if_icmp .eq 140, 3) := by decide +kernel
theorem dL_law_841 : decode cL_law 841 = .ok (.iconst 0, 1) := by decide +kernel
theorem dL_law_842 : decode cL_law 842 = .ok (.ireturn, 1) := by decide +kernel
theorem dL_law_843 : decode cL_law 843 = .ok (.aload_n 1, 1) := by decide +kernel
theorem dL_law_844 : decode cL_law 844 = .ok (.aload_n 0, 1) := by decide +kernel
theorem dL_law_845 : decode cL_law 845 = .ok (.iload 4, 2) := by decide +kernel
theorem dL_law_847 : decode cL_law 847 = .ok (.iconst 1, 1) := by decide +kernel
theorem dL_law_848 : decode cL_law 848 = .ok (.iadd, 1) := by decide +kernel
theorem dL_law_849 : decode cL_law 849 = .ok (.iaload, 1) := by decide +kernel
theorem dL_law_850 : decode cL_law 850 = .ok (.aload_n 0, 1) := by decide +kernel
theorem dL_law_851 : decode cL_law 851 = .ok (.iload 4, 2) := by decide +kernel
theorem dL_law_853 : decode cL_law 853 = .ok (.iconst 2, 1) := by decide +kernel
theorem dL_law_854 : decode cL_law 854 = .ok (.iadd, 1) := by decide +kernel
theorem dL_law_855 : decode cL_law 855 = .ok (.iaload, 1) := by decide +kernel
theorem dL_law_856 : decode cL_law 856 = .ok (.aload_n 3, 1) := by decide +kernel
theorem dL_law_857 : decode cL_law 857 = .ok (.invokestatic 99, 3) := by decide +kernel
theorem dL_law_860 : decode cL_law 860 = .ok (.istore 5, 2) := by decide +kernel
theorem dL_law_862 : decode cL_law 862 = .ok (.aload_n 2, 1) := by decide +kernel
theorem dL_law_863 : decode cL_law 863 = .ok (.aload_n 0, 1) := by decide +kernel
theorem dL_law_864 : decode cL_law 864 = .ok (.iload 4, 2) := by decide +kernel
theorem dL_law_866 : decode cL_law 866 = .ok (.iconst 1, 1) := by decide +kernel
theorem dL_law_867 : decode cL_law 867 = .ok (.iadd, 1) := by decide +kernel
theorem dL_law_868 : decode cL_law 868 = .ok (.iaload, 1) := by decide +kernel
theorem dL_law_869 : decode cL_law 869 = .ok (.aload_n 0, 1) := by decide +kernel
theorem dL_law_870 : decode cL_law 870 = .ok (.iload 4, 2) := by decide +kernel
theorem dL_law_872 : decode cL_law 872 = .ok (.iconst 2, 1) := by decide +kernel
theorem dL_law_873 : decode cL_law 873 = .ok (.iadd, 1) := by decide +kernel
theorem dL_law_874 : decode cL_law 874 = .ok (.iaload, 1) := by decide +kernel
theorem dL_law_875 : decode cL_law 875 = .ok (.invokevirtual 101, 3) := by decide +kernel
theorem dL_law_878 : decode cL_law 878 = .ok (.lstore 6, 2) := by decide +kernel
theorem dL_law_880 : decode cL_law 880 = .ok (.aload_n 2, 1) := by decide +kernel
theorem dL_law_881 : decode cL_law 881 = .ok (.invokevirtual 59, 3) := by decide +kernel
theorem dL_law_884 : decode cL_law 884 = .ok (.iload 5, 2) := by decide +kernel
theorem dL_law_886 : decode cL_law 886 = .ok (.if_icmp .eq 5, 3) := by decide +kernel
theorem dL_law_889 : decode cL_law 889 = .ok (.iconst 0, 1) := by decide +kernel
theorem dL_law_890 : decode cL_law 890 = .ok (.ireturn, 1) := by decide +kernel
theorem dL_law_891 : decode cL_law 891 = .ok (.iload 5, 2) := by decide +kernel
theorem dL_law_893 : decode cL_law 893 = .ok (.ifCond .ne 14, 3) := by decide +kernel
theorem dL_law_896 : decode cL_law 896 = .ok (.aload_n 3, 1) := by decide +kernel
theorem dL_law_897 : decode cL_law 897 = .ok (.iconst 0, 1) := by decide +kernel
theorem dL_law_898 : decode cL_law 898 = .ok (.laload, 1) := by decide +kernel
theorem dL_law_899 : decode cL_law 899 = .ok (.lload 6, 2) := by decide +kernel
theorem dL_law_901 : decode cL_law 901 = .ok (.lcmp, 1) := by decide +kernel
theorem dL_law_902 : decode cL_law 902 = .ok (.ifCond .eq 5, 3) := by decide +kernel
theorem dL_law_905 : decode cL_law 905 = .ok (.iconst 0, 1) := by decide +kernel
theorem dL_law_906 : decode cL_law 906 = .ok (.ireturn, 1) := by decide +kernel
theorem dL_law_907 : decode cL_law 907 = .ok (.goto 71, 3) := by decide +kernel
theorem dL_law_910 : decode cL_law 910 = .ok (.aload_n 1, 1) := by decide +kernel
theorem dL_law_911 : decode cL_law 911 = .ok (.aload_n 0, 1) := by decide +kernel
theorem dL_law_912 : decode cL_law 912 = .ok (.iload 4, 2) := by decide +kernel
theorem dL_law_914 : decode cL_law 914 = .ok (.iconst 1, 1) := by decide +kernel
theorem dL_law_915 : decode cL_law 915 = .ok (.iadd, 1) := by decide +kernel
theorem dL_law_916 : decode cL_law 916 = .ok (.iaload, 1) := by decide +kernel
theorem dL_law_917 : decode cL_law 917 = .ok (.aload_n 3, 1) := by decide +kernel
theorem dL_law_918 : decode cL_law 918 = .ok (.invokestatic 102, 3) := by decide +kernel
theorem dL_law_921 : decode cL_law 921 = .ok (.istore 5, 2) := by decide +kernel
theorem dL_law_923 : decode cL_law 923 = .ok (.aload_n 2, 1) := by decide +kernel
theorem dL_law_924 : decode cL_law 924 = .ok (.aload_n 0, 1) := by decide +kernel
theorem dL_law_925 : decode cL_law 925 = .ok (.iload 4, 2) := by decide +kernel
theorem dL_law_927 : decode cL_law 927 = .ok (.iconst 1, 1) := by decide +kernel
theorem dL_law_928 : decode cL_law 928 = .ok (.iadd, 1) := by decide +kernel
theorem dL_law_929 : decode cL_law 929 = .ok (.iaload, 1) := by decide +kernel
theorem dL_law_930 : decode cL_law 930 = .ok (.invokevirtual 105, 3) := by decide +kernel
theorem dL_law_933 : decode cL_law 933 = .ok (.lstore 6, 2) := by decide +kernel
theorem dL_law_935 : decode cL_law 935 = .ok (.aload_n 2, 1) := by decide +kernel
theorem dL_law_936 : decode cL_law 936 = .ok (.invokevirtual 59, 3) := by decide +kernel
theorem dL_law_939 : decode cL_law 939 = .ok (.iload 5, 2) := by decide +kernel
theorem dL_law_941 : decode cL_law 941 = .ok (.if_icmp .eq 5, 3) := by decide +kernel
theorem dL_law_944 : decode cL_law 944 = .ok (.iconst 0, 1) := by decide +kernel
theorem dL_law_945 : decode cL_law 945 = .ok (.ireturn, 1) := by decide +kernel
theorem dL_law_946 : decode cL_law 946 = .ok (.iload 5, 2) := by decide +kernel
theorem dL_law_948 : decode cL_law 948 = .ok (.ifCond .ne 14, 3) := by decide +kernel
theorem dL_law_951 : decode cL_law 951 = .ok (.aload_n 3, 1) := by decide +kernel
theorem dL_law_952 : decode cL_law 952 = .ok (.iconst 0, 1) := by decide +kernel
theorem dL_law_953 : decode cL_law 953 = .ok (.laload, 1) := by decide +kernel
theorem dL_law_954 : decode cL_law 954 = .ok (.lload 6, 2) := by decide +kernel
theorem dL_law_956 : decode cL_law 956 = .ok (.lcmp, 1) := by decide +kernel
theorem dL_law_957 : decode cL_law 957 = .ok (.ifCond .eq 5, 3) := by decide +kernel
theorem dL_law_960 : decode cL_law 960 = .ok (.iconst 0, 1) := by decide +kernel
theorem dL_law_961 : decode cL_law 961 = .ok (.ireturn, 1) := by decide +kernel
theorem dL_law_962 : decode cL_law 962 = .ok (.goto 16, 3) := by decide +kernel
theorem dL_law_965 : decode cL_law 965 = .ok (.aload_n 1, 1) := by decide +kernel
theorem dL_law_966 : decode cL_law 966 = .ok (.invokevirtual 106, 3) := by decide +kernel
theorem dL_law_969 : decode cL_law 969 = .ok (.aload_n 2, 1) := by decide +kernel
theorem dL_law_970 : decode cL_law 970 = .ok (.invokevirtual 109, 3) := by decide +kernel
theorem dL_law_973 : decode cL_law 973 = .ok (.if_icmp .eq 5, 3) := by decide +kernel
theorem dL_law_976 : decode cL_law 976 = .ok (.iconst 0, 1) := by decide +kernel
theorem dL_law_977 : decode cL_law 977 = .ok (.ireturn, 1) := by decide +kernel
theorem dL_law_978 : decode cL_law 978 = .ok (.iinc 4 9, 3) := by decide +kernel
theorem dL_law_981 : decode cL_law 981 = .ok (.goto (-958), 3) := by decide +kernel
theorem dL_law_984 : decode cL_law 984 = .ok (.iconst 1, 1) := by decide +kernel
theorem dL_law_985 : decode cL_law 985 = .ok (.ireturn, 1) := by decide +kernel
abbrev vwCl : List vw_C := [(RX0, TX0, 15), (RX1, TX1, 5), (RX2, TX2, 11), (RX3, TX3, 6), (RX4, TX4, 7), (RX5, TX5, 37)]
end
section
theorem zz_test : (1 : Nat) = 1 := rfl
end

theorem nc_up {jc ju : Int} {m : MR} (h : NC jc ju m) : NC (jc + 1) ju m := by
  obtain ⟨⟨n1, n2⟩, ⟨n3, n4⟩, ⟨n5, n6⟩, ⟨n7, n8⟩, ⟨n9, n10⟩⟩ := h
  exact ⟨⟨n1, by omega⟩, ⟨n3, n4⟩, ⟨n5, n6⟩, ⟨n7, n8⟩, ⟨n9, n10⟩⟩
theorem gD_1 (c : MR) (T : TR) (p pl mm : Int32) : ∃ T1, T_st T1 = T_st T ∧ (gD c T p pl mm).1 = m_X5_writeOff c T1 p mm := by
  unfold gD
  by_cases h : pl = 0
  · rw [if_pos h]; exact ⟨T, rfl, rfl⟩
  · rw [if_neg h]; exact ⟨_, T_st_bf .., rfl⟩
theorem gA_n {m : MR} {T : TR} {p mm : Int32} (h : ¬ mm = T_fi T (Int32.toNatClampNeg p)) : gA m T p mm = m := by
  unfold gA
  rw [if_neg h]
theorem gC_1 {c : MR} {T : TR} {p e mm sk : Int32} (h : ¬ sk = 0) : gC c T p e mm sk = c := by
  unfold gC
  rw [if_neg h]
/-- the charge of month k, both sides; g is the state behind the event -/
theorem MW {ev : Int32} {T : TR} {a fm : Nat} {pt : PR} {us : Nat → Int32} {es : Nat → Option Nat} {evf : Nat → ER} (hD : DR ev T a fm pt us es evf) {k : Nat} (hk : k < 36) {c : CR} {t : SR} {g : MR} {jc ju : Int} (h : RS (P_me pt) (P_ra pt) c t g) (n : NC jc ju g) (s : NS (P_me pt) ju g) (hj : jc ≤ 36) (hu0 : 0 ≤ ju) (hu : ju ≤ 35) (pl : Int32) : RS (P_me pt) (P_ra pt) (m_X0_chargeMonth c t (us k)).1 (m_X0_chargeMonth c t (us k)).2 (gD g T (nI a) pl (nI k)).1 ∧ NC jc (ju + 1) (gD g T (nI a) pl (nI k)).1 ∧ NS (P_me pt) (ju + 1) (gD g T (nI a) pl (nI k)).1 := by
  obtain ⟨T1, hT1, e1⟩ := gD_1 g T (nI a) pl (nI k)
  have hD1 := DR_cg hT1 hD
  obtain ⟨⟨d1, d2, d3⟩, ⟨d4, d5, d6, d7, d8, d9⟩, ⟨-, -, -, d10, d11⟩, d12, -⟩ := hD1
  obtain ⟨d13, d14⟩ := d12 k hk
  have hpa : Int32.toNatClampNeg (nI a) = a := nI_clamp (by omega)
  have hix : Int32.toNatClampNeg (36 * nI a + nI k) = 36 * a + k := by
    rw [show (36 : Int32) = nI 36 from rfl, pk_mul, nI_add]
    exact nI_clamp (by omega)
  rw [e1]
  exact W_step h n s hj hu0 hu (by rw [hpa]; exact d8.symm) (by rw [hpa]; exact d9.symm) d11 d10 (by rw [hix]; exact d13.symm) d14
def OKB (es : Nat → Option Nat) (evf : Nat → ER) (B : Nat → CR × SR) (T : TR) (i : Nat) : Prop := C_br (B i).1 = 0 ∧ ((es i = none ∨ ∃ e, es i = some e ∧ (E_ki (evf e) = 3 ∨ E_ki (evf e) = 4)) → T_bf T i = m_X0_book (B i).1 (B i).2) ∧ T_bh T i = m_X0_book (B (i + 1)).1 (B (i + 1)).2 ∧ C_br (B (i + 1)).1 = 0
theorem gD_bf (c : MR) (T : TR) (p : Int32) {k : Nat} (hk : k < 36) (i : Nat) : T_bf (gD c T p 1 (nI k)).2 i = (if i = k then m_X5_book c T else T_bf T i) ∧ T_bh (gD c T p 1 (nI k)).2 i = (if i = k then m_X5_book (gD c T p 1 (nI k)).1 T else T_bh T i) := by
  unfold gD
  rw [if_neg (show ¬ (1 : Int32) = 0 by decide), nI_clamp (show k < 2 ^ 31 by omega)]
  exact ⟨rfl, rfl⟩
theorem bk_RC {me ra : Int32} {c : CR} {t : SR} {m : MR} {T : TR} (h : RC me ra c m) : m_X5_book m T = m_X0_book c t := by
  unfold m_X5_book m_X0_book
  rw [h.1.1, h.1.2.1]
theorem go_1 {p un pl : Int32} {n : Nat} {m : MR} {T : TR} {mm : Int32} (h : un < mm) : m_X5_go_l p un pl (n + 1) m T mm = (36, m, T) := by
  rw [m_X5_go_l_s, if_pos h]
theorem go_2 {p un pl : Int32} {n : Nat} {m : MR} {T : TR} {mm : Int32} (h : ¬ un < mm) (h1 : gB (gA m T p mm) T p pl mm = 0) (h2 : (m_X5_happens (gA m T p mm) T (m_X5_eventIn (gA m T p mm) T p mm) mm).1 = 0) : (m_X5_go_l p un pl (n + 1) m T mm).1 = mm ∧ (m_X5_go_l p un pl (n + 1) m T mm).2.2 = T := by
  rw [m_X5_go_l_s, if_neg h, if_pos ⟨h1, h2⟩]
  exact ⟨rfl, rfl⟩
theorem go_3 {p un pl : Int32} {n : Nat} {m : MR} {T : TR} {mm : Int32} (h : ¬ un < mm) (h1 : ¬ (gB (gA m T p mm) T p pl mm = 0 ∧ (m_X5_happens (gA m T p mm) T (m_X5_eventIn (gA m T p mm) T p mm) mm).1 = 0)) : m_X5_go_l p un pl (n + 1) m T mm = m_X5_go_l p un pl n (gD (gC (gA m T p mm) T p (m_X5_eventIn (gA m T p mm) T p mm) mm (gB (gA m T p mm) T p pl mm)) T p pl mm).1 (gD (gC (gA m T p mm) T p (m_X5_eventIn (gA m T p mm) T p mm) mm (gB (gA m T p mm) T p pl mm)) T p pl mm).2 (mm + 1) := by
  rw [m_X5_go_l_s, if_neg h, if_neg h1]
/-- the next month's state is not touched by gA -/
theorem gA_next {ev : Int32} {T : TR} {a fm : Nat} {pt : PR} {us : Nat → Int32} {es : Nat → Option Nat} {evf : Nat → ER} (hD : DR ev T a fm pt us es evf) {k : Nat} (hk : fm ≤ k) (hk2 : k < 36) (m : MR) : gA m T (nI a) (nI (k + 1)) = m := by
  obtain ⟨⟨d1, d2, d3⟩, ⟨-, -, d6, -⟩, -⟩ := hD
  refine gA_n ?_
  rw [nI_clamp (by omega), ← d6, d3, nI_eq (by omega) (by omega)]
  omega
set_option maxHeartbeats 2000000 in
/-- the plain walk and the bare course -/
theorem PL {ev : Int32} {T0 : TR} {a fm : Nat} {pt : PR} {us : Nat → Int32} {es : Nat → Option Nat} {evf : Nat → ER} (hD0 : DR ev T0 a fm pt us es evf) {B : Nat → CR × SR} (hB : ∀ i, fm ≤ i → i < 36 → B (i + 1) = B_s us es evf i (B i)) {U : Nat} (hU : U ≤ 35) : ∀ (n k : Nat) (m : MR) (T : TR), fm ≤ k → k ≤ U + 1 → U + 1 < n + k → T_st T = T_st T0 → M_ev m = ev → RS (P_me pt) (P_ra pt) (B k).1 (B k).2 (gA m T (nI a) (nI k)) → NC ((k : Int) - fm) ((k : Int) - fm) (gA m T (nI a) (nI k)) → NS (P_me pt) ((k : Int) - fm) (gA m T (nI a) (nI k)) → (∀ i, i < k → T_bf (m_X5_go_l (nI a) (nI U) 1 n m T (nI k)).2.2 i = T_bf T i ∧ T_bh (m_X5_go_l (nI a) (nI U) 1 n m T (nI k)).2.2 i = T_bh T i) ∧ (((m_X5_go_l (nI a) (nI U) 1 n m T (nI k)).1 = 36 ∧ ∀ i, k ≤ i → i ≤ U → OKB es evf B (m_X5_go_l (nI a) (nI U) 1 n m T (nI k)).2.2 i) ∨ ∃ b, (m_X5_go_l (nI a) (nI U) 1 n m T (nI k)).1 = nI b ∧ k ≤ b ∧ b ≤ U ∧ (∀ i, k ≤ i → i < b → OKB es evf B (m_X5_go_l (nI a) (nI U) 1 n m T (nI k)).2.2 i) ∧ C_br (B (b + 1)).1 = 1 ∧ ∃ e, es b = some e ∧ ¬ E_ki (evf e) = 3 ∧ ¬ E_ki (evf e) = 4) := by
  intro n
  induction n with
  | zero => intro k m T h1 h2 h3; exact absurd h3 (by omega)
  | succ n ih =>
    intro k m T h1 h2 h3 hst hev hR hN hS
    by_cases hlast : k = U + 1
    · rw [go_1 (by rw [hlast]; exact nI_lt (by omega) (by omega))]
      exact ⟨fun i _ => ⟨rfl, rfl⟩, Or.inl ⟨rfl, fun i q1 q2 => absurd q2 (by omega)⟩⟩
    · have hkU : k ≤ U := by omega
      have hk36 : k < 36 := by omega
      have hnl : ¬ nI U < nI k := nI_nlt hkU (by omega)
      have hD := DR_cg hst hD0
      have hevG : M_ev (gA m T (nI a) (nI k)) = ev := (fr_ev (gA_fr ..)).trans hev
      have hbr0 : C_br (B k).1 = 0 := hR.1.2.2.2.1.1
      have hBk := hB k h1 hk36
      have hd5 := hD.2.2.2.2 k hk36
      have hra := hD.2.2.1.2.2.2.2
      have hpa : Int32.toNatClampNeg (nI a) = a := nI_clamp (by have := hD.1.1; omega)
      have hTra : T_ra T (Int32.toNatClampNeg (nI a)) = P_ra pt := by rw [hpa]; exact hD.2.1.2.2.2.2.2.symm
      -- what follows when the month goes on with g, and the bare course with x
      have step : ∀ (g : MR) (x : CR × SR), M_ev g = ev → gC (gA m T (nI a) (nI k)) T (nI a) (m_X5_eventIn (gA m T (nI a) (nI k)) T (nI a) (nI k)) (nI k) (gB (gA m T (nI a) (nI k)) T (nI a) 1 (nI k)) = g → ¬ (gB (gA m T (nI a) (nI k)) T (nI a) 1 (nI k) = 0 ∧ (m_X5_happens (gA m T (nI a) (nI k)) T (m_X5_eventIn (gA m T (nI a) (nI k)) T (nI a) (nI k)) (nI k)).1 = 0) → RS (P_me pt) (P_ra pt) x.1 x.2 g → NC ((k : Int) - fm + 1) ((k : Int) - fm) g → NS (P_me pt) ((k : Int) - fm) g → B (k + 1) = m_X0_chargeMonth x.1 x.2 (us k) → ((es k = none ∨ ∃ e, es k = some e ∧ (E_ki (evf e) = 3 ∨ E_ki (evf e) = 4)) → x = B k) → (∀ i, i < k → T_bf (m_X5_go_l (nI a) (nI U) 1 (n + 1) m T (nI k)).2.2 i = T_bf T i ∧ T_bh (m_X5_go_l (nI a) (nI U) 1 (n + 1) m T (nI k)).2.2 i = T_bh T i) ∧ (((m_X5_go_l (nI a) (nI U) 1 (n + 1) m T (nI k)).1 = 36 ∧ ∀ i, k ≤ i → i ≤ U → OKB es evf B (m_X5_go_l (nI a) (nI U) 1 (n + 1) m T (nI k)).2.2 i) ∨ ∃ b, (m_X5_go_l (nI a) (nI U) 1 (n + 1) m T (nI k)).1 = nI b ∧ k ≤ b ∧ b ≤ U ∧ (∀ i, k ≤ i → i < b → OKB es evf B (m_X5_go_l (nI a) (nI U) 1 (n + 1) m T (nI k)).2.2 i) ∧ C_br (B (b + 1)).1 = 1 ∧ ∃ e, es b = some e ∧ ¬ E_ki (evf e) = 3 ∧ ¬ E_ki (evf e) = 4) := by
        intro g x hevg hg hno hRg hNg hSg hBx hxB
        rw [go_3 hnl hno, hg, nI_1]
        obtain ⟨w1, w2, w3⟩ := MW hD hk36 hRg hNg hSg (by omega) (by omega) (by omega) 1
        have hbf := gD_bf g T (nI a) hk36
        have hst2 : T_st (gD g T (nI a) 1 (nI k)).2 = T_st T := gD_st ..
        have hev2 : M_ev (gD g T (nI a) 1 (nI k)).1 = ev := (fr_ev (gD_fr ..)).trans hevg
        have hgA := gA_next (DR_cg hst2 hD) h1 hk36 (gD g T (nI a) 1 (nI k)).1
        have hbook : m_X5_book (gD g T (nI a) 1 (nI k)).1 T = m_X0_book (B (k + 1)).1 (B (k + 1)).2 := by
          rw [hBx]
          exact bk_RC w1.1
        have hbrn : C_br (B (k + 1)).1 = 0 := by rw [hBx]; exact w1.1.2.2.2.1.1
        have hbg : m_X5_book g T = m_X0_book x.1 x.2 := bk_RC hRg.1
        rw [← hBx] at w1
        obtain ⟨i1, i2⟩ := ih (k + 1) (gD g T (nI a) 1 (nI k)).1 (gD g T (nI a) 1 (nI k)).2 (by omega) (by omega) (by omega) (hst2.trans hst) hev2 (by rw [hgA]; exact w1) (by rw [hgA, show ((k + 1 : Nat) : Int) - fm = (k : Int) - fm + 1 by omega]; exact w2) (by rw [hgA, show ((k + 1 : Nat) : Int) - fm = (k : Int) - fm + 1 by omega]; exact w3)
        generalize m_X5_go_l (nI a) (nI U) 1 n (gD g T (nI a) 1 (nI k)).1 (gD g T (nI a) 1 (nI k)).2 (nI (k + 1)) = R at *
        have okk : OKB es evf B R.2.2 k := by
          refine ⟨hbr0, fun q => ?_, ?_, hbrn⟩
          · rw [(i1 k (by omega)).1, (hbf k).1, if_pos rfl, hbg, hxB q]
          · rw [(i1 k (by omega)).2, (hbf k).2, if_pos rfl, hbook]
        refine ⟨fun i hi => ?_, ?_⟩
        · obtain ⟨j1, j2⟩ := i1 i (by omega)
          obtain ⟨l1, l2⟩ := hbf i
          rw [j1, j2, l1, l2, if_neg (by omega), if_neg (by omega)]
          exact ⟨rfl, rfl⟩
        · rcases i2 with ⟨i3, i4⟩ | ⟨b, i3, i4, i5, i6, i7, i8⟩
          · refine Or.inl ⟨i3, fun i q1 q2 => ?_⟩
            rcases Nat.lt_or_ge k i with q | q
            · exact i4 i (by omega) q2
            · rw [show i = k by omega]; exact okk
          · refine Or.inr ⟨b, i3, by omega, i5, fun i q1 q2 => ?_, i7, i8⟩
            rcases Nat.lt_or_ge k i with q | q
            · exact i6 i (by omega) q2
            · rw [show i = k by omega]; exact okk
      rcases hd5 with ⟨e1, e2⟩ | ⟨e, i, e1, e2, e3, e4, e5⟩
      · have hneg := e2 _ hevG
        have hgb : gB (gA m T (nI a) (nI k)) T (nI a) 1 (nI k) = 1 := by unfold gB; rw [if_pos hneg]
        exact step (gA m T (nI a) (nI k)) (B k) hevG (gC_1 (by rw [hgb]; decide)) (fun q => absurd q.1 (by rw [hgb]; decide)) hR (nc_up hN) hS (by rw [hBk, B_none e1]) (fun _ => rfl)
      · have heq := e3 _ hevG
        have hnn : ¬ m_X5_eventIn (gA m T (nI a) (nI k)) T (nI a) (nI k) < 0 := by rw [heq]; exact nI_pos (by omega)
        have hci : Int32.toNatClampNeg (m_X5_eventIn (gA m T (nI a) (nI k)) T (nI a) (nI k)) = i := by rw [heq]; exact nI_clamp (by omega)
        by_cases g34 : E_ki (evf e) = 3 ∨ E_ki (evf e) = 4
        · have hgb : gB (gA m T (nI a) (nI k)) T (nI a) 1 (nI k) = 1 := by
            unfold gB
            rw [if_neg hnn, if_neg (show ¬ (1 : Int32) = 0 by decide), hci, ← e4.1]
            by_cases g3 : E_ki (evf e) = 3
            · rw [if_pos g3]
            · rw [if_neg g3, if_pos (by rcases g34 with z | z; exact absurd z g3; exact z)]
          exact step (gA m T (nI a) (nI k)) (B k) hevG (gC_1 (by rw [hgb]; decide)) (fun q => absurd q.1 (by rw [hgb]; decide)) hR (nc_up hN) hS (by rw [hBk, B_34 e1 g34]) (fun _ => rfl)
        · have g3 : ¬ E_ki (evf e) = 3 := fun z => g34 (Or.inl z)
          have g4 : ¬ E_ki (evf e) = 4 := fun z => g34 (Or.inr z)
          have hgb : gB (gA m T (nI a) (nI k)) T (nI a) 1 (nI k) = 0 := by
            unfold gB
            rw [if_neg hnn, if_neg (show ¬ (1 : Int32) = 0 by decide), hci, ← e4.1, if_neg g3, if_neg g4]
          have hE := E_step (p := nI a) (e := m_X5_eventIn (gA m T (nI a) (nI k)) T (nI a) (nI k)) (mm := nI k) (ev := evf e) (mr := -1) (T := T) hR hN hS (by omega) (by omega) (by omega) hTra hra (by rw [hci]; exact e4.1) (by rw [hci]; exact e4.2.1) (by rw [hci]; exact e4.2.2) (by rw [hci]; exact e5) (fun z => absurd z g4)
          rcases hE with ⟨q1, q2⟩ | ⟨q1, q2, q3, q4⟩
          · obtain ⟨r1, r2⟩ := go_2 (n := n) hnl hgb q1
            refine ⟨fun i _ => ?_, Or.inr ⟨k, r1, Nat.le_refl _, hkU, fun i q3 q4 => absurd q4 (by omega), ?_, e, e1, g3, g4⟩⟩
            · rw [r2]; exact ⟨rfl, rfl⟩
            · rw [hBk, B_some e1 g3 g4, br_charge]; exact q2
          · refine step _ (m_X0_meet (B k).1 (B k).2 (evf e) (-1)) ?_ (by rw [hgb]) (fun q => q1 q.2) q2 q3 q4 (by rw [hBk, B_some e1 g3 g4]) ?_
            · exact (fr_ev (gC_fr ..)).trans hevG
            · intro q
              rcases q with q | ⟨e', q, q5⟩
              · rw [e1] at q; exact absurd q (by simp)
              · rw [e1] at q
                have : e = e' := Option.some.inj q
                subst this
                exact absurd q5 g34

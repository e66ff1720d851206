theorem gD_0 (c : MR) (T : TR) (p mm : Int32) : (gD c T p 0 mm).2 = T := by
  unfold gD
  rw [if_pos rfl]
theorem br_FF {us : Nat → Int32} {es : Nat → Option Nat} {evf : Nat → ER} {fm : Nat} {F : Nat → CR × SR} {mr : Nat → Int64} (hF : ∀ i, fm ≤ i → i < 36 → F (i + 1) = F_s us es evf i (mr i) (F i)) {k : Nat} (hk : fm ≤ k) (h : C_br (F k).1 = 1) : ∀ d, k + d ≤ 36 → C_br (F (k + d)).1 = 1 := by
  intro d
  induction d with
  | zero => intro _; exact h
  | succ d ih =>
    intro hd
    rw [show k + (d + 1) = k + d + 1 by omega, hF (k + d) (by omega) (by omega)]
    exact br_F (ih (by omega))
theorem br_BB {us : Nat → Int32} {es : Nat → Option Nat} {evf : Nat → ER} {fm : Nat} {B : Nat → CR × SR} (hB : ∀ i, fm ≤ i → i < 36 → B (i + 1) = B_s us es evf i (B i)) {k : Nat} (hk : fm ≤ k) (h : C_br (B k).1 = 1) : ∀ d, k + d ≤ 36 → C_br (B (k + d)).1 = 1 := by
  intro d
  induction d with
  | zero => intro _; exact h
  | succ d ih =>
    intro hd
    rw [show k + (d + 1) = k + d + 1 by omega, hB (k + d) (by omega) (by omega)]
    exact br_B (ih (by omega))
set_option maxHeartbeats 2000000 in
/-- the walk with all events and the full course -/
theorem FU {ev bd : Int32} {T : TR} {a fm : Nat} {pt : PR} {us : Nat → Int32} {es : Nat → Option Nat} {evf : Nat → ER} (hD : DR ev T a fm pt us es evf) {F : Nat → CR × SR} {mr : Nat → Int64} (hF : ∀ i, fm ≤ i → i < 36 → F (i + 1) = F_s us es evf i (mr i) (F i)) (h4 : ∀ i e, fm ≤ i → i < 36 → es i = some e → E_ki (evf e) = 4 → (bd ≤ nI i ∧ mr i = -1) ∨ (¬ bd ≤ nI i ∧ mr i = T_bf T i)) {U : Nat} (hU : U ≤ 35) (hfU : fm ≤ U) : ∀ (n k : Nat) (m : MR), fm ≤ k → k ≤ U + 1 → U + 1 < n + k → M_ev m = ev → M_bd m = bd → RS (P_me pt) (P_ra pt) (F k).1 (F k).2 (gA m T (nI a) (nI k)) → NC ((k : Int) - fm) ((k : Int) - fm) (gA m T (nI a) (nI k)) → NS (P_me pt) ((k : Int) - fm) (gA m T (nI a) (nI k)) → ((m_X5_go_l (nI a) (nI U) 0 n m T (nI k)).1 = 36 ∧ RC (P_me pt) (P_ra pt) (F (U + 1)).1 (m_X5_go_l (nI a) (nI U) 0 n m T (nI k)).2.1 ∧ NC 36 36 (m_X5_go_l (nI a) (nI U) 0 n m T (nI k)).2.1) ∨ (¬ (m_X5_go_l (nI a) (nI U) 0 n m T (nI k)).1 = 36 ∧ C_br (F (U + 1)).1 = 1) := by
  intro n
  induction n with
  | zero => intro k m h1 h2 h3; exact absurd h3 (by omega)
  | succ n ih =>
    intro k m h1 h2 h3 hev hbd hR hN hS
    by_cases hlast : k = U + 1
    · rw [go_1 (by rw [hlast]; exact nI_lt (by omega) (by omega))]
      have hgA : gA m T (nI a) (nI k) = m := by
        rw [hlast]
        exact gA_next hD hfU (by omega) m
      rw [hgA] at hR hN
      rw [hlast] at hR hN
      refine Or.inl ⟨rfl, hR.1, ?_⟩
      show NC 36 36 m
      obtain ⟨⟨n1, n2⟩, ⟨n3, n4⟩, ⟨n5, n6⟩, ⟨n7, n8⟩, ⟨n9, n10⟩⟩ := hN
      exact ⟨⟨n1, by omega⟩, ⟨n3, n4⟩, ⟨n5, n6⟩, ⟨n7, n8⟩, ⟨n9, by omega⟩⟩
    · have hkU : k ≤ U := by omega
      have hk36 : k < 36 := by omega
      have hnl : ¬ nI U < nI k := nI_nlt hkU (by omega)
      have hevG : M_ev (gA m T (nI a) (nI k)) = ev := (fr_ev (gA_fr ..)).trans hev
      have hbdG : M_bd (gA m T (nI a) (nI k)) = bd := (fr_bd (gA_fr ..)).trans hbd
      have hFk := hF k h1 hk36
      have hd5 := hD.2.2.2.2 k hk36
      have hra := hD.2.2.1.2.2.2.2
      have hpa : Int32.toNatClampNeg (nI a) = a := nI_clamp (by have := hD.1.1; omega)
      have hck : Int32.toNatClampNeg (nI k) = k := nI_clamp (by omega)
      have hTra : T_ra T (Int32.toNatClampNeg (nI a)) = P_ra pt := by rw [hpa]; exact hD.2.1.2.2.2.2.2.symm
      have step : ∀ (g : MR) (x : CR × SR), M_ev g = ev → M_bd g = bd → gC (gA m T (nI a) (nI k)) T (nI a) (m_X5_eventIn (gA m T (nI a) (nI k)) T (nI a) (nI k)) (nI k) (gB (gA m T (nI a) (nI k)) T (nI a) 0 (nI k)) = g → ¬ (gB (gA m T (nI a) (nI k)) T (nI a) 0 (nI k) = 0 ∧ (m_X5_happens (gA m T (nI a) (nI k)) T (m_X5_eventIn (gA m T (nI a) (nI k)) T (nI a) (nI k)) (nI k)).1 = 0) → RS (P_me pt) (P_ra pt) x.1 x.2 g → NC ((k : Int) - fm + 1) ((k : Int) - fm) g → NS (P_me pt) ((k : Int) - fm) g → F (k + 1) = m_X0_chargeMonth x.1 x.2 (us k) → ((m_X5_go_l (nI a) (nI U) 0 (n + 1) m T (nI k)).1 = 36 ∧ RC (P_me pt) (P_ra pt) (F (U + 1)).1 (m_X5_go_l (nI a) (nI U) 0 (n + 1) m T (nI k)).2.1 ∧ NC 36 36 (m_X5_go_l (nI a) (nI U) 0 (n + 1) m T (nI k)).2.1) ∨ (¬ (m_X5_go_l (nI a) (nI U) 0 (n + 1) m T (nI k)).1 = 36 ∧ C_br (F (U + 1)).1 = 1) := by
        intro g x hevg hbdg hg hno hRg hNg hSg hFx
        rw [go_3 hnl hno, hg, nI_1, gD_0]
        obtain ⟨w1, w2, w3⟩ := MW hD hk36 hRg hNg hSg (by omega) (by omega) (by omega) 0
        have hev2 : M_ev (gD g T (nI a) 0 (nI k)).1 = ev := (fr_ev (gD_fr ..)).trans hevg
        have hbd2 : M_bd (gD g T (nI a) 0 (nI k)).1 = bd := (fr_bd (gD_fr ..)).trans hbdg
        have hgA := gA_next hD h1 hk36 (gD g T (nI a) 0 (nI k)).1
        rw [← hFx] at w1
        exact ih (k + 1) (gD g T (nI a) 0 (nI k)).1 (by omega) (by omega) (by omega) hev2 hbd2 (by rw [hgA]; exact w1) (by rw [hgA, show ((k + 1 : Nat) : Int) - fm = (k : Int) - fm + 1 by omega]; exact w2) (by rw [hgA, show ((k + 1 : Nat) : Int) - fm = (k : Int) - fm + 1 by omega]; exact w3)
      rcases hd5 with ⟨e1, e2⟩ | ⟨e, i, e1, e2, e3, e4, e5⟩
      · have hneg := e2 _ hevG
        have hgb : gB (gA m T (nI a) (nI k)) T (nI a) 0 (nI k) = 1 := by unfold gB; rw [if_pos hneg]
        exact step (gA m T (nI a) (nI k)) (F k) hevG hbdG (gC_1 (by rw [hgb]; decide)) (fun q => absurd q.1 (by rw [hgb]; decide)) hR (nc_up hN) hS (by rw [hFk, F_none e1])
      · have heq := e3 _ hevG
        have hnn : ¬ m_X5_eventIn (gA m T (nI a) (nI k)) T (nI a) (nI k) < 0 := by rw [heq]; exact nI_pos (by omega)
        have hci : Int32.toNatClampNeg (m_X5_eventIn (gA m T (nI a) (nI k)) T (nI a) (nI k)) = i := by rw [heq]; exact nI_clamp (by omega)
        have hgb : gB (gA m T (nI a) (nI k)) T (nI a) 0 (nI k) = 0 := by
          unfold gB
          rw [if_neg hnn, if_pos rfl]
        have hE := E_step (p := nI a) (e := m_X5_eventIn (gA m T (nI a) (nI k)) T (nI a) (nI k)) (mm := nI k) (ev := evf e) (mr := mr k) (T := T) hR hN hS (by omega) (by omega) (by omega) hTra hra (by rw [hci]; exact e4.1) (by rw [hci]; exact e4.2.1) (by rw [hci]; exact e4.2.2) (by rw [hci]; exact e5) (fun z => by rw [hbdG, hck]; exact h4 k e h1 hk36 e1 z)
        rcases hE with ⟨q1, q2⟩ | ⟨q1, q2, q3, q4⟩
        · obtain ⟨r1, r2⟩ := go_2 (n := n) hnl hgb q1
          refine Or.inr ⟨?_, ?_⟩
          · rw [r1, show (36 : Int32) = nI 36 from rfl, nI_eq (by omega) (by omega)]; omega
          · have hb1 : C_br (F (k + 1)).1 = 1 := by rw [hFk, F_some e1, br_charge]; exact q2
            have := br_FF hF (k := k + 1) (by omega) hb1 (U - k) (by omega)
            rw [show k + 1 + (U - k) = U + 1 by omega] at this
            exact this
        · refine step _ (m_X0_meet (F k).1 (F k).2 (evf e) (mr k)) ?_ ?_ (by rw [hgb]) (fun q => q1 q.2) q2 q3 q4 (by rw [hFk, F_some e1])
          · exact (fr_ev (gC_fr ..)).trans hevG
          · exact (fr_bd (gC_fr ..)).trans hbdG

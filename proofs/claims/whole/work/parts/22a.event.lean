/-- a call that makes something: refused (q tells how), or a thing is made at a fresh place b, and then as res tells -/
def oxM (q : Int32) (X0 : va_W) (L : List Nat) (F : Nat → va_E) (made : pw_OX) : pw_OX := fun r X' L' F' => (q = 1 ∧ r = .inr nIAE ∧ X' = X0 ∧ L' = L ∧ F' = F) ∨ (q = 2 ∧ r = .inr nISE ∧ X' = X0 ∧ L' = L ∧ F' = F) ∨ (q = 0 ∧ made r X' L' F')
def m_X4_event_0 (ar : AR) (pr : (Nat → Option Nat)) (er : (Nat → Option Nat)) (cf : CR) (tf : SR) (cb : CR) (tb : SR) (F : (Nat → va_E)) (G : pw_G) (p : Nat) (u : Nat) (w : Nat) (q : Nat) (b : Nat) (pt : PR) (us : Nat → Int32) (es : Nat → Option Nat) (evf : Nat → ER) (i : Int32) (mm : Int32) (ki : Int32) (v : Int64) (n : Int32) : Int32 × Int32 × AR × (Nat → Option Nat) × CR × SR × CR × SR × (Nat → va_E) :=
  if ((m_X4_hasBreach ar pr er cf tf cb tb pt us (va_up es (Int32.toNatClampNeg mm) (some b)) evf).1) = 0 then (0, (((A_ec ar) + 1) - 1), (A_mk (A_pc ar) ((A_ec ar) + 1) (A_mc ar)), (va_up er (Int32.toNatClampNeg (A_ec ar)) (some b)), ((m_X4_hasBreach ar pr er cf tf cb tb pt us (va_up es (Int32.toNatClampNeg mm) (some b)) evf).2.1), ((m_X4_hasBreach ar pr er cf tf cb tb pt us (va_up es (Int32.toNatClampNeg mm) (some b)) evf).2.2.1), ((m_X4_hasBreach ar pr er cf tf cb tb pt us (va_up es (Int32.toNatClampNeg mm) (some b)) evf).2.2.2.1), ((m_X4_hasBreach ar pr er cf tf cb tb pt us (va_up es (Int32.toNatClampNeg mm) (some b)) evf).2.2.2.2), (va_up (va_up F w (.inl (G.2.2.2.1, 36, .inr (.inr (.inr (.inr (va_up es (Int32.toNatClampNeg mm) (some b)))))))) p (cP u w q (P_mk (P_co pt) (P_rs pt) (P_fi pt) (P_li pt) (P_me pt) (P_ra pt) ((P_ec pt) + 1) (P_pa pt))))) else (2, 0, ar, er, ((m_X4_hasBreach ar pr er cf tf cb tb pt us (va_up es (Int32.toNatClampNeg mm) (some b)) evf).2.1), ((m_X4_hasBreach ar pr er cf tf cb tb pt us (va_up es (Int32.toNatClampNeg mm) (some b)) evf).2.2.1), ((m_X4_hasBreach ar pr er cf tf cb tb pt us (va_up es (Int32.toNatClampNeg mm) (some b)) evf).2.2.2.1), ((m_X4_hasBreach ar pr er cf tf cb tb pt us (va_up es (Int32.toNatClampNeg mm) (some b)) evf).2.2.2.2), (va_up (va_up F w (.inl (G.2.2.2.1, 36, .inr (.inr (.inr (.inr (va_up es (Int32.toNatClampNeg mm) (some b)))))))) w (.inl (G.2.2.2.1, 36, .inr (.inr (.inr (.inr (va_up (va_up es (Int32.toNatClampNeg mm) (some b)) (Int32.toNatClampNeg mm) none))))))))
def m_X4_event (ar : AR) (pr : (Nat → Option Nat)) (er : (Nat → Option Nat)) (cf : CR) (tf : SR) (cb : CR) (tb : SR) (F : (Nat → va_E)) (G : pw_G) (p : Nat) (u : Nat) (w : Nat) (q : Nat) (b : Nat) (pt : PR) (us : Nat → Int32) (es : Nat → Option Nat) (evf : Nat → ER) (i : Int32) (mm : Int32) (ki : Int32) (v : Int64) (n : Int32) : Int32 × Int32 × AR × (Nat → Option Nat) × CR × SR × CR × SR × (Nat → va_E) := m_X4_event_0 ar pr er cf tf cb tb F G p u w q b pt us es evf i mm ki v n
set_option maxRecDepth 100000 in
set_option maxHeartbeats 2000000 in
theorem t0_X4_event {Z : pw_Z} {Q : State → Prop} {L : List Nat}  {x : Nat} {rf : Nat → Nat} {ps : Nat → Int64} {fm_ : Nat} {ar : AR} {pr : (Nat → Option Nat)} {er : (Nat → Option Nat)} {cf : CR} {tf : SR} {cb : CR} {tb : SR} {F : (Nat → va_E)} {p : Nat} {u : Nat} {w : Nat} {q : Nat} {b : Nat} {pt : PR} {us : Nat → Int32} {es : Nat → Option Nat} {evf : Nat → ER} {i : Int32} {mm : Int32} {ki : Int32} {v : Int64} {n : Int32} (C : pw_C Z cX4_event 9 RX4 wsX4_event ⟨7, 2, 11, 150⟩ (some .int)) (hX : pw_CX Z) {X9 : va_W} {L9 : List Nat} {F9 : Nat → va_E} {o : pw_OX} {R : Int32 × Int32 × AR × (Nat → Option Nat) × CR × SR × CR × SR × (Nat → va_E)} (hE : pw_EndX Z Q X9 L9 F9 o 2 11) (ho : ∀ r X' L' F', (ox_d (R.1) (some (.int (R.2.1))) (aX (zG Z) x rf (R.2.2.1) pr (R.2.2.2.1) (R.2.2.2.2.1) (R.2.2.2.2.2.1) (R.2.2.2.2.2.2.1) (R.2.2.2.2.2.2.2.1)) L (R.2.2.2.2.2.2.2.2)) r X' L' F' → o r X' L' F') (hp : pA (zG Z) L F p u w q pt us es ps evf) (heb : b ∈ L ∧ F b = cE (evf b)) (hfm_ : fm_ ≤ 35) (hfi_ : P_fi pt = nI fm_) (hm36 : vp_in mm 36) (he40 : vp_in (A_ec ar) 40) (hR : m_X4_event_0 ar pr er cf tf cb tb F (zG Z) p u w q b pt us es evf i mm ki v n = R) : PW Z (aX (zG Z) x rf ar pr er cf tf cb tb) L F 1 5 Q 102 [(0, .ref x), (1, .int i), (2, .int mm), (3, .int ki), (4, .long v), (6, .int n), (7, .ref p)] [.ref b] := by
  have i2_ : ∀ w ∈ wsX20, w ∈ wsX4_event := by decide +kernel
  have i4_ : ∀ w ∈ wsX40, w ∈ wsX4_event := by decide +kernel
  have w0_ : Cond.fieldLink RX4 93 "AgedAssets$Part" "eventIn" "[LAgedAssets$Event;" ∈ wsX4_event := by decide +kernel
  have w1_ : Cond.fieldLink RX4 96 "AgedAssets$Part" "eventCount" "I" ∈ wsX4_event := by decide +kernel
  have w2_ : Cond.fieldLink RX4 17 "AgedAssets" "eventRow" "[LAgedAssets$Event;" ∈ wsX4_event := by decide +kernel
  have w3_ : Cond.fieldLink RX4 99 "AgedAssets" "eventCount" "I" ∈ wsX4_event := by decide +kernel
  have w4_ : Cond.classLink RX4 58 nISE ∈ wsX4_event := by decide +kernel
  have w5_ : Cond.initialized nISE ∈ wsX4_event := by decide +kernel
  refine pk_astore (lv' := [(8, .ref b), (0, .ref x), (1, .int i), (2, .int mm), (3, .int ki), (4, .long v), (6, .int n), (7, .ref p)]) C dX4_event_102 (by decide) rfl (pc2 := 104) rfl ?_
  refine pk_aload C 7 dX4_event_104 rfl (pc2 := 106) rfl ?_
  refine pk_get (v := .ref w) C i2_ (pw_atP hp.1.1 hp.1.2) (ci := 2) rfl 7 (by decide) w0_ rfl rfl dX4_event_106 (pc2 := 109) rfl ?_
  refine pk_iload_n C 3 dX4_event_109 rfl rfl (pc2 := 110) rfl ?_
  refine pk_aload C 0 dX4_event_110 rfl (pc2 := 112) rfl ?_
  refine pk_astEP C hp.2.2.1.1 hp.2.2.1.2 (pw_atP heb.1 heb.2) hm36 dX4_event_112 (pc2 := 113) rfl ?_
  have he6_ := pE_w (x := (.inl ((zG Z).2.2.2.1, 36, .inr (.inr (.inr (.inr (va_up es (Int32.toNatClampNeg mm) (some b)))))))) heb hp.2.2.1.2
  have hw6_ := pA_es hp (va_up es (Int32.toNatClampNeg mm) (some b)) (es_some hp.2.2.2.2 heb)
  generalize en1_ : (va_up F w (.inl ((zG Z).2.2.2.1, 36, .inr (.inr (.inr (.inr (va_up es (Int32.toNatClampNeg mm) (some b)))))))) = n1_ at hw6_ he6_ ⊢
  refine pk_aload_n C 1 dX4_event_113 rfl rfl (pc2 := 114) rfl ?_
  refine pk_aload C 7 dX4_event_114 rfl (pc2 := 116) rfl ?_
  refine pk_dV (cx := (aX (zG Z) x rf ar pr er cf tf cb tb)) (wr := []) (X2 := (aX (zG Z) x rf ar pr er ((m_X4_hasBreach ar pr er cf tf cb tb pt us (va_up es (Int32.toNatClampNeg mm) (some b)) evf).2.1) ((m_X4_hasBreach ar pr er cf tf cb tb pt us (va_up es (Int32.toNatClampNeg mm) (some b)) evf).2.2.1) ((m_X4_hasBreach ar pr er cf tf cb tb pt us (va_up es (Int32.toNatClampNeg mm) (some b)) evf).2.2.2.1) ((m_X4_hasBreach ar pr er cf tf cb tb pt us (va_up es (Int32.toNatClampNeg mm) (some b)) evf).2.2.2.2))) (st := []) (st2 := [.int ((m_X4_hasBreach ar pr er cf tf cb tb pt us (va_up es (Int32.toNatClampNeg mm) (some b)) evf).1)]) (As := [.ref p]) C (c_X4_hasBreach (zl Z) (zG Z) L n1_ x rf ar pr er cf tf cb tb p u w q pt us (va_up es (Int32.toNatClampNeg mm) (some b)) ps evf hw6_ fm_ hfm_ hfi_) gX4_event_X4_hasBreach rfl rfl rfl 1 (by decide +kernel) ⟨Nat.le_of_ble_eq_true rfl, Nat.le_of_ble_eq_true rfl⟩ (pw_atX 0 rfl) rfl rfl rfl (Nat.le_of_ble_eq_true rfl) ⟨Nat.le_of_ble_eq_true rfl, Nat.le_of_ble_eq_true rfl⟩ [0, 1, 2, 3, 4, 5, 6] [] [0, 1, 2, 3, 4, 5, 6] rfl rfl rfl rfl (by decide) rfl rfl dX4_event_116 (pc2 := 119) rfl rfl ?_
  generalize en2_ : ((m_X4_hasBreach ar pr er cf tf cb tb pt us (va_up es (Int32.toNatClampNeg mm) (some b)) evf).2.1) = n2_
  generalize en3_ : ((m_X4_hasBreach ar pr er cf tf cb tb pt us (va_up es (Int32.toNatClampNeg mm) (some b)) evf).2.2.1) = n3_
  generalize en4_ : ((m_X4_hasBreach ar pr er cf tf cb tb pt us (va_up es (Int32.toNatClampNeg mm) (some b)) evf).2.2.2.1) = n4_
  generalize en5_ : ((m_X4_hasBreach ar pr er cf tf cb tb pt us (va_up es (Int32.toNatClampNeg mm) (some b)) evf).2.2.2.2) = n5_
  refine pk_topi (fun n6_ en6_ => ?_)
  refine pk_if_eq (tgt := 140) C dX4_event_119 (by decide) (pc2 := 122) rfl (fun h1_ => ?_) (fun h1_ => ?_)
  ·
    refine pk_aload C 7 dX4_event_140 rfl (pc2 := 142) rfl ?_
    refine pk_dup C dX4_event_142 rfl (pc2 := 143) rfl ?_
    refine pk_get (v := .int (P_ec pt)) C i2_ (pw_atP hw6_.1.1 hw6_.1.2) (ci := 2) rfl 9 (by decide) w1_ rfl rfl dX4_event_143 (pc2 := 146) rfl ?_
    refine pk_iconst (v := 1) C dX4_event_146 (by decide) (pc2 := 147) rfl ?_
    refine pk_iadd C dX4_event_147 (pc2 := 148) rfl ?_
    refine pk_topi (fun n7_ en7_ => ?_)
    refine pk_putP (e := cP u w q (P_mk (P_co pt) (P_rs pt) (P_fi pt) (P_li pt) (P_me pt) (P_ra pt) n7_ (P_pa pt))) C i2_ tyX2_ok nmX2 hw6_.1.1 hw6_.1.2 (ci := 2) rfl 9 (by decide) w1_ rfl rfl rfl rfl rfl (Nat.le_of_ble_eq_true rfl) rfl dX4_event_148 (pc2 := 151) rfl ?_
    have he7_ := pE_p (x := (cP u w q (P_mk (P_co pt) (P_rs pt) (P_fi pt) (P_li pt) (P_me pt) (P_ra pt) n7_ (P_pa pt)))) he6_ hw6_.1.2
    have hw7_ := pA_pt hw6_ (P_mk (P_co pt) (P_rs pt) (P_fi pt) (P_li pt) (P_me pt) (P_ra pt) n7_ (P_pa pt))
    generalize en8_ : (va_up n1_ p (cP u w q (P_mk (P_co pt) (P_rs pt) (P_fi pt) (P_li pt) (P_me pt) (P_ra pt) n7_ (P_pa pt)))) = n8_ at hw7_ he7_ ⊢
    refine pk_aload_n C 1 dX4_event_151 rfl rfl (pc2 := 152) rfl ?_
    refine pk_get (v := .ref (rf 1)) C i4_ (pw_atX 0 rfl) (ci := 4) rfl 1 (by decide) w2_ rfl rfl dX4_event_152 (pc2 := 155) rfl ?_
    refine pk_aload_n C 1 dX4_event_155 rfl rfl (pc2 := 156) rfl ?_
    refine pk_get (v := .int (A_ec ar)) C i4_ (pw_atX 0 rfl) (ci := 4) rfl 5 (by decide) w3_ rfl rfl dX4_event_156 (pc2 := 159) rfl ?_
    refine pk_aload C 0 dX4_event_159 rfl (pc2 := 161) rfl ?_
    refine pk_astEX (X' := (aX (zG Z) x rf ar pr (va_up er (Int32.toNatClampNeg (A_ec ar)) (some b)) n2_ n3_ n4_ n5_)) C 2 rfl (pw_atP he7_.1 he7_.2) he40 rfl dX4_event_161 (pc2 := 162) rfl ?_
    refine pk_aload_n C 1 dX4_event_162 rfl rfl (pc2 := 163) rfl ?_
    refine pk_dup C dX4_event_163 rfl (pc2 := 164) rfl ?_
    refine pk_get (v := .int (A_ec ar)) C i4_ (pw_atX 0 rfl) (ci := 4) rfl 5 (by decide) w3_ rfl rfl dX4_event_164 (pc2 := 167) rfl ?_
    refine pk_iconst (v := 1) C dX4_event_167 (by decide) (pc2 := 168) rfl ?_
    refine pk_iadd C dX4_event_168 (pc2 := 169) rfl ?_
    refine pk_topi (fun n9_ en9_ => ?_)
    refine pk_putX (X' := [(x, kA rf (A_pc ar) n9_ (A_mc ar)), ((rf 0), .inl ((zG Z).2.2.2.2, 6, .inr (.inr (.inr (.inr pr))))), ((rf 1), .inl ((zG Z).2.2.2.1, 40, .inr (.inr (.inr (.inr (va_up er (Int32.toNatClampNeg (A_ec ar)) (some b))))))), ((rf 2), cC (rf 4) n2_), ((rf 4), cS n3_), ((rf 3), cC (rf 5) n4_), ((rf 5), cS n5_)]) C i4_ tyX4_ok nmX4 0 rfl (ci := 4) rfl 5 (by decide) w3_ rfl rfl rfl rfl rfl (Nat.le_of_ble_eq_true rfl) rfl dX4_event_169 (pc2 := 172) rfl ?_
    refine pk_aload_n C 1 dX4_event_172 rfl rfl (pc2 := 173) rfl ?_
    refine pk_get (v := .int n9_) C i4_ (pw_atX 0 rfl) (ci := 4) rfl 5 (by decide) w3_ rfl rfl dX4_event_173 (pc2 := 176) rfl ?_
    refine pk_iconst (v := 1) C dX4_event_176 (by decide) (pc2 := 177) rfl ?_
    refine pk_isub C dX4_event_177 (pc2 := 178) rfl ?_
    refine pw_conv (X' := (aX (zG Z) x rf (A_mk (A_pc ar) n9_ (A_mc ar)) pr (va_up er (Int32.toNatClampNeg (A_ec ar)) (some b)) n2_ n3_ n4_ n5_)) rfl ?_
    subst en1_ en2_ en3_ en4_ en5_ en6_ en7_ en8_ en9_
    unfold m_X4_event_0 at hR
    try rw [if_pos h1_] at hR
    subst hR
    exact px_ret hE (Nat.le_of_ble_eq_true rfl) (Nat.le_of_ble_eq_true rfl) (fun Q' hE' => pr_int (ty := .int) C hE' rfl rfl (ho _ _ _ _ ⟨⟨rfl, rfl⟩, rfl, rfl, rfl⟩) dX4_event_178)
  ·
    refine pk_aload C 7 dX4_event_122 rfl (pc2 := 124) rfl ?_
    refine pk_get (v := .ref w) C i2_ (pw_atP hw6_.1.1 hw6_.1.2) (ci := 2) rfl 7 (by decide) w0_ rfl rfl dX4_event_124 (pc2 := 127) rfl ?_
    refine pk_iload_n C 3 dX4_event_127 rfl rfl (pc2 := 128) rfl ?_
    refine pk_null C dX4_event_128 (pc2 := 129) rfl ?_
    refine pk_astEPN C hw6_.2.2.1.1 hw6_.2.2.1.2 hm36 dX4_event_129 (pc2 := 130) rfl ?_
    have he8_ := pE_w (x := (.inl ((zG Z).2.2.2.1, 36, .inr (.inr (.inr (.inr (va_up (va_up es (Int32.toNatClampNeg mm) (some b)) (Int32.toNatClampNeg mm) none))))))) he6_ hw6_.2.2.1.2
    have hw8_ := pA_es hw6_ (va_up (va_up es (Int32.toNatClampNeg mm) (some b)) (Int32.toNatClampNeg mm) none) (es_none hw6_.2.2.2.2)
    generalize en10_ : (va_up n1_ w (.inl ((zG Z).2.2.2.1, 36, .inr (.inr (.inr (.inr (va_up (va_up es (Int32.toNatClampNeg mm) (some b)) (Int32.toNatClampNeg mm) none))))))) = n10_ at hw8_ he8_ ⊢
    subst en1_ en2_ en3_ en4_ en5_ en6_ en10_
    unfold m_X4_event_0 at hR
    try rw [if_neg h1_] at hR
    subst hR
    exact px_throw (E := nISE) C hX hE rfl (is := 105) (text := "it or a later one would be a breach") (by decide) (Or.inr rfl) w4_ w5_ (fun w h => by first | exact List.mem_cons_of_mem _ (List.mem_append_right _ h) | exact List.mem_cons_of_mem _ (List.mem_append_left _ (List.mem_append_right _ h))) xt_62 xg_62 (by decide +kernel) (by decide +kernel) dX4_event_130 dX4_event_133 dX4_event_134 dX4_event_136 dX4_event_139 (Nat.le_of_ble_eq_true rfl) (Nat.le_of_ble_eq_true rfl) (Nat.le_of_ble_eq_true rfl) (Nat.le_of_ble_eq_true rfl) (Nat.le_of_ble_eq_true rfl) (Nat.le_of_ble_eq_true rfl) (ho _ _ _ _ ⟨Or.inr ⟨rfl, rfl⟩, rfl, rfl, rfl⟩)
/-- a part, with a new event made elsewhere -/
theorem pA_new {G : pw_G} {L : List Nat} {F : Nat → va_E} {p u w q b : Nat} {pt : PR} {us : Nat → Int32} {es : Nat → Option Nat} {ps : Nat → Int64} {evf : Nat → ER} {e : va_E} {ev : ER} (hb : b ∉ L) (h : pA G L F p u w q pt us es ps evf) : pA G (L ++ [b]) (va_up F b e) p u w q pt us es ps (va_up evf b ev) := by
  have ne : ∀ {a}, a ∈ L → a ≠ b := fun ha e => hb (by rw [← e]; exact ha)
  obtain ⟨⟨a1, a2⟩, ⟨b1, b2⟩, ⟨c1, c2⟩, ⟨d1, d2⟩, he⟩ := h
  refine ⟨⟨List.mem_append_left _ a1, ?_⟩, ⟨List.mem_append_left _ b1, ?_⟩, ⟨List.mem_append_left _ c1, ?_⟩, ⟨List.mem_append_left _ d1, ?_⟩, fun i hi a ha => ?_⟩
  · rw [va_up_ne _ _ (ne a1)]; exact a2
  · rw [va_up_ne _ _ (ne b1)]; exact b2
  · rw [va_up_ne _ _ (ne c1)]; exact c2
  · rw [va_up_ne _ _ (ne d1)]; exact d2
  · obtain ⟨e1, e2⟩ := he i hi a ha
    exact ⟨List.mem_append_left _ e1, by rw [va_up_ne _ _ (ne e1), va_up_ne _ _ (ne e1)]; exact e2⟩
set_option maxRecDepth 100000 in
set_option maxHeartbeats 2000000 in
theorem t1_X4_event {Z : pw_Z} {Q : State → Prop} {L : List Nat} {F : Nat → va_E} {x : Nat} {rf : Nat → Nat} {ar : AR} {pr : (Nat → Option Nat)} {er : (Nat → Option Nat)} {cf : CR} {tf : SR} {cb : CR} {tb : SR} {p u w q : Nat} {ps : Nat → Int64} {fm_ : Nat} {pt : PR} {us : Nat → Int32} {es : Nat → Option Nat} {evf : Nat → ER} {i mm ki : Int32} {v : Int64} {n : Int32} (C : pw_C Z cX4_event 9 RX4 wsX4_event ⟨7, 2, 11, 150⟩ (some .int)) (hX : pw_CX Z) {X9 : va_W} {L9 : List Nat} {F9 : Nat → va_E} {o : pw_OX} (hE : pw_EndX Z Q X9 L9 F9 o 2 11) (ho : ∀ r X' L' F', (fun r X' L' F' => ∃ b : Nat, b ∉ L ∧ ox_d (m_X4_event_0 ar pr er cf tf cb tb (va_up F b (cE (E_mk i mm ki v n))) (zG Z) p u w q b pt us es (va_up evf b (E_mk i mm ki v n)) i mm ki v n).1 (some (.int (m_X4_event_0 ar pr er cf tf cb tb (va_up F b (cE (E_mk i mm ki v n))) (zG Z) p u w q b pt us es (va_up evf b (E_mk i mm ki v n)) i mm ki v n).2.1)) (aX (zG Z) x rf ((m_X4_event_0 ar pr er cf tf cb tb (va_up F b (cE (E_mk i mm ki v n))) (zG Z) p u w q b pt us es (va_up evf b (E_mk i mm ki v n)) i mm ki v n).2.2.1) pr ((m_X4_event_0 ar pr er cf tf cb tb (va_up F b (cE (E_mk i mm ki v n))) (zG Z) p u w q b pt us es (va_up evf b (E_mk i mm ki v n)) i mm ki v n).2.2.2.1) ((m_X4_event_0 ar pr er cf tf cb tb (va_up F b (cE (E_mk i mm ki v n))) (zG Z) p u w q b pt us es (va_up evf b (E_mk i mm ki v n)) i mm ki v n).2.2.2.2.1) ((m_X4_event_0 ar pr er cf tf cb tb (va_up F b (cE (E_mk i mm ki v n))) (zG Z) p u w q b pt us es (va_up evf b (E_mk i mm ki v n)) i mm ki v n).2.2.2.2.2.1) ((m_X4_event_0 ar pr er cf tf cb tb (va_up F b (cE (E_mk i mm ki v n))) (zG Z) p u w q b pt us es (va_up evf b (E_mk i mm ki v n)) i mm ki v n).2.2.2.2.2.2.1) ((m_X4_event_0 ar pr er cf tf cb tb (va_up F b (cE (E_mk i mm ki v n))) (zG Z) p u w q b pt us es (va_up evf b (E_mk i mm ki v n)) i mm ki v n).2.2.2.2.2.2.2.1)) (L ++ [b]) ((m_X4_event_0 ar pr er cf tf cb tb (va_up F b (cE (E_mk i mm ki v n))) (zG Z) p u w q b pt us es (va_up evf b (E_mk i mm ki v n)) i mm ki v n).2.2.2.2.2.2.2.2) r X' L' F') r X' L' F' → o r X' L' F') (hp : pA (zG Z) L F p u w q pt us es ps evf) (hfm_ : fm_ ≤ 35) (hfi_ : P_fi pt = nI fm_) (hm36 : vp_in mm 36) (he40 : vp_in (A_ec ar) 40) : PW Z (aX (zG Z) x rf ar pr er cf tf cb tb) L F 0 0 Q 88 [(0, .ref x), (1, .int i), (2, .int mm), (3, .int ki), (4, .long v), (6, .int n), (7, .ref p)] [] := by
  have i1_ : ∀ w ∈ wsX10, w ∈ wsX4_event := by decide +kernel
  have w0_ : Cond.classLink RX4 15 RX1 ∈ wsX4_event := by decide +kernel
  have w1_ : Cond.instantiable RX1 5 ∈ wsX4_event := by decide +kernel
  have w2_ : Cond.initialized RX1 ∈ wsX4_event := by decide +kernel
  have w3_ : Cond.methodLink RX4 102 yX1_init ∈ wsX4_event := by decide +kernel
  have w4_ : Cond.instanceMethod yX1_init ∈ wsX4_event := by decide +kernel
  refine pk_newP (ci := 1) (fs := [.int 0, .int 0, .int 0, .long 0, .int 0]) C tyX1 i1_ tyX1_ok w0_ w1_ w2_ rfl (fun j hj => by rcases (show j = 0 ∨ j = 1 ∨ j = 2 ∨ j = 3 ∨ j = 4 by omega) with rfl | rfl | rfl | rfl | rfl <;> rfl) (Nat.le_of_ble_eq_true rfl) (Nat.le_of_ble_eq_true rfl) dX4_event_88 (pc2 := 91) rfl (fun b hb => ?_)
  refine pk_dup C dX4_event_91 rfl (pc2 := 92) rfl ?_
  refine pk_iload_n C 1 dX4_event_92 rfl rfl (pc2 := 93) rfl ?_
  refine pk_iload_n C 2 dX4_event_93 rfl rfl (pc2 := 94) rfl ?_
  refine pk_iload_n C 3 dX4_event_94 rfl rfl (pc2 := 95) rfl ?_
  refine pk_lload C 4 dX4_event_95 rfl (pc2 := 97) rfl ?_
  refine pk_iload C 5 dX4_event_97 rfl (pc2 := 99) rfl ?_
  refine pk_callI (X := (aX (zG Z) x rf ar pr er cf tf cb tb)) (L := L ++ [b]) (cx := []) (wr := (aX (zG Z) x rf ar pr er cf tf cb tb)) (As := [.int i, .int mm, .int ki, .long v, .int n]) (st := [.ref b]) C (c_X1_init (zl Z) (zG Z) (L ++ [b]) _ b i mm ki v n (List.mem_append_right _ List.mem_cons_self) (va_up_self ..)) gX4_event_X1_init rfl w3_ w4_ w2_ rfl rfl rfl 5 (by decide +kernel) ⟨(Nat.le_of_ble_eq_true rfl), (Nat.le_of_ble_eq_true rfl)⟩ rfl rfl (Nat.le_of_ble_eq_true rfl) ⟨(Nat.le_of_ble_eq_true rfl), (Nat.le_of_ble_eq_true rfl)⟩ [] [0, 1, 2, 3, 4, 5, 6] rfl rfl rfl rfl (by decide) dX4_event_99 (pc2 := 102) rfl (fun v' X' L' F' ho9 => ?_)
  obtain ⟨rfl, rfl, rfl, rfl⟩ := ho9
  rw [va_up_up, List.append_nil]
  have hev : b ∈ L ++ [b] ∧ va_up F b (cE (E_mk i mm ki v n)) b = cE (va_up evf b (E_mk i mm ki v n) b) := ⟨(List.mem_append_right _ List.mem_cons_self), by rw [va_up_self, va_up_self]⟩
  exact t0_X4_event C hX hE (fun r X' L' F' h => ho r X' L' F' ⟨b, hb, h⟩) (pA_new hb hp) hev hfm_ hfi_ hm36 he40 rfl
def q_X4_event (ar : AR) (pr : (Nat → Option Nat)) (er : (Nat → Option Nat)) (cf : CR) (tf : SR) (cb : CR) (tb : SR) (pt : PR) (es : Nat → Option Nat) (i : Int32) (mm : Int32) (ki : Int32) (v : Int64) (n : Int32) : Int32 :=
  (match (m_X4_partOf ar pr er cf tf cb tb i) with | none => 1 | some p1_ => if (m_X4_isMonth mm) = 0 then 1 else if mm < (P_fi pt) then 1 else if (m_X4_isEvent ki v n) = 0 then 1 else (match (es (Int32.toNatClampNeg mm)) with | none => if 8 ≤ (P_ec pt) then 2 else if (A_ec ar) < 40 then 0 else 2 | some e5_ => 2))
set_option maxRecDepth 100000 in
set_option maxHeartbeats 2000000 in
theorem c_X4_event (l : Launch) (hst : l.stackTraces = false) (G : pw_G) (L : List Nat) (F : Nat → va_E) (x : Nat) (rf : Nat → Nat) (ar : AR) (pr : (Nat → Option Nat)) (er : (Nat → Option Nat)) (cf : CR) (tf : SR) (cb : CR) (tb : SR) (p u w q : Nat) (ps : Nat → Int64) (pt : PR) (us : Nat → Int32) (es : Nat → Option Nat) (evf : Nat → ER) (i mm ki : Int32) (v : Int64) (n : Int32) (hpc : (A_pc ar).toInt ≤ 6) (hec : (A_ec ar) < 40 → vp_in (A_ec ar) 40) (hpp : ∀ a, m_X4_partOf ar pr er cf tf cb tb i = some a → a = p ∧ (pA G L F a u w q pt us es ps evf) ∧ ∃ fm, fm ≤ 35 ∧ P_fi pt = nI fm) : XM l yX4_event wsX4_event ⟨7, 2, 11, 150⟩ G [.ref x, .int i, .int mm, .int ki, .long v, .int n] (aX G x rf ar pr er cf tf cb tb) L F 2 11 (oxM (q_X4_event ar pr er cf tf cb tb pt es i mm ki v n) (aX G x rf ar pr er cf tf cb tb) L F (fun r X' L' F' => ∃ b : Nat, b ∉ L ∧ ox_d (m_X4_event_0 ar pr er cf tf cb tb (va_up F b (cE (E_mk i mm ki v n))) G p u w q b pt us es (va_up evf b (E_mk i mm ki v n)) i mm ki v n).1 (some (.int (m_X4_event_0 ar pr er cf tf cb tb (va_up F b (cE (E_mk i mm ki v n))) G p u w q b pt us es (va_up evf b (E_mk i mm ki v n)) i mm ki v n).2.1)) (aX G x rf ((m_X4_event_0 ar pr er cf tf cb tb (va_up F b (cE (E_mk i mm ki v n))) G p u w q b pt us es (va_up evf b (E_mk i mm ki v n)) i mm ki v n).2.2.1) pr ((m_X4_event_0 ar pr er cf tf cb tb (va_up F b (cE (E_mk i mm ki v n))) G p u w q b pt us es (va_up evf b (E_mk i mm ki v n)) i mm ki v n).2.2.2.1) ((m_X4_event_0 ar pr er cf tf cb tb (va_up F b (cE (E_mk i mm ki v n))) G p u w q b pt us es (va_up evf b (E_mk i mm ki v n)) i mm ki v n).2.2.2.2.1) ((m_X4_event_0 ar pr er cf tf cb tb (va_up F b (cE (E_mk i mm ki v n))) G p u w q b pt us es (va_up evf b (E_mk i mm ki v n)) i mm ki v n).2.2.2.2.2.1) ((m_X4_event_0 ar pr er cf tf cb tb (va_up F b (cE (E_mk i mm ki v n))) G p u w q b pt us es (va_up evf b (E_mk i mm ki v n)) i mm ki v n).2.2.2.2.2.2.1) ((m_X4_event_0 ar pr er cf tf cb tb (va_up F b (cE (E_mk i mm ki v n))) G p u w q b pt us es (va_up evf b (E_mk i mm ki v n)) i mm ki v n).2.2.2.2.2.2.2.1)) (L ++ [b]) ((m_X4_event_0 ar pr er cf tf cb tb (va_up F b (cE (E_mk i mm ki v n))) G p u w q b pt us es (va_up evf b (E_mk i mm ki v n)) i mm ki v n).2.2.2.2.2.2.2.2) r X' L' F')) := by
  refine xm_entry hst (by decide) rfl rfl (Nat.le_of_ble_eq_true rfl) ?_
  intro Z Q C hl0 hG0 hX hE
  subst hl0
  subst hG0
  have i2_ : ∀ w ∈ wsX20, w ∈ wsX4_event := by decide +kernel
  have i4_ : ∀ w ∈ wsX40, w ∈ wsX4_event := by decide +kernel
  have w0_ : Cond.classLink RX4 47 nIAE ∈ wsX4_event := by decide +kernel
  have w1_ : Cond.initialized nIAE ∈ wsX4_event := by decide +kernel
  have w2_ : Cond.fieldLink RX4 84 "AgedAssets$Part" "firstMonth" "I" ∈ wsX4_event := by decide +kernel
  have w3_ : Cond.fieldLink RX4 93 "AgedAssets$Part" "eventIn" "[LAgedAssets$Event;" ∈ wsX4_event := by decide +kernel
  have w4_ : Cond.fieldLink RX4 96 "AgedAssets$Part" "eventCount" "I" ∈ wsX4_event := by decide +kernel
  have w5_ : Cond.classLink RX4 58 nISE ∈ wsX4_event := by decide +kernel
  have w6_ : Cond.initialized nISE ∈ wsX4_event := by decide +kernel
  have w7_ : Cond.fieldLink RX4 99 "AgedAssets" "eventCount" "I" ∈ wsX4_event := by decide +kernel
  show PW Z (aX (zG Z) x rf ar pr er cf tf cb tb) L F 0 0 Q 0 [(0, .ref x), (1, .int i), (2, .int mm), (3, .int ki), (4, .long v), (6, .int n)] []
  refine pk_aload_n C 0 dX4_event_0 rfl rfl (pc2 := 1) rfl ?_
  refine pk_iload_n C 1 dX4_event_1 rfl rfl (pc2 := 2) rfl ?_
  refine pk_dV (cx := (aX (zG Z) x rf ar pr er cf tf cb tb)) (wr := []) (X2 := (aX (zG Z) x rf ar pr er cf tf cb tb)) (st := []) (st2 := [(va_rf (m_X4_partOf ar pr er cf tf cb tb i))]) (As := [.int i]) C (c_X4_partOf (zl Z) (zG Z) L F x rf ar pr er cf tf cb tb i hpc) gX4_event_X4_partOf rfl rfl rfl 1 (by decide +kernel) ⟨Nat.le_of_ble_eq_true rfl, Nat.le_of_ble_eq_true rfl⟩ (pw_atX 0 rfl) rfl rfl rfl (Nat.le_of_ble_eq_true rfl) ⟨Nat.le_of_ble_eq_true rfl, Nat.le_of_ble_eq_true rfl⟩ [0, 1, 2, 3, 4, 5, 6] [] [0, 1, 2, 3, 4, 5, 6] rfl rfl rfl rfl (by decide) rfl rfl dX4_event_2 (pc2 := 5) rfl rfl ?_
  rcases h1_ : (m_X4_partOf ar pr er cf tf cb tb i) with _ | p1_
  ·
    refine pk_astoreN (lv' := [(7, .null), (0, .ref x), (1, .int i), (2, .int mm), (3, .int ki), (4, .long v), (6, .int n)]) C dX4_event_5 (by decide) rfl (pc2 := 7) rfl ?_
    refine pk_aloadN C 0 dX4_event_7 rfl (pc2 := 9) rfl ?_
    refine pk_ifnull_n (tgt := 39) C dX4_event_9 (by decide) ?_
    have hq : q_X4_event ar pr er cf tf cb tb pt es i mm ki v n = q_X4_event ar pr er cf tf cb tb pt es i mm ki v n := rfl
    conv at hq => rhs; unfold q_X4_event
    try simp only [h1_] at hq
    exact px_throw (E := nIAE) C hX hE rfl (is := 91) (text := "these are not the terms of an event") (by decide) (Or.inl rfl) w0_ w1_ (fun w h => by first | exact List.mem_cons_of_mem _ (List.mem_append_right _ h) | exact List.mem_cons_of_mem _ (List.mem_append_left _ (List.mem_append_right _ h))) xt_51 xg_51 (by decide +kernel) (by decide +kernel) dX4_event_39 dX4_event_42 dX4_event_43 dX4_event_45 dX4_event_48 (Nat.le_of_ble_eq_true rfl) (Nat.le_of_ble_eq_true rfl) (Nat.le_of_ble_eq_true rfl) (Nat.le_of_ble_eq_true rfl) (Nat.le_of_ble_eq_true rfl) (Nat.le_of_ble_eq_true rfl) (Or.inl ⟨hq, rfl, rfl, rfl, rfl⟩)
  ·
    obtain ⟨hpe, hp1_, fm_, hfm_, hfi_⟩ := hpp _ h1_
    subst hpe
    refine pk_astore (lv' := [(7, .ref p1_), (0, .ref x), (1, .int i), (2, .int mm), (3, .int ki), (4, .long v), (6, .int n)]) C dX4_event_5 (by decide) rfl (pc2 := 7) rfl ?_
    refine pk_aload C 0 dX4_event_7 rfl (pc2 := 9) rfl ?_
    refine pk_ifnull_r C dX4_event_9 (pc2 := 12) rfl ?_
    refine pk_iload_n C 3 dX4_event_12 rfl rfl (pc2 := 13) rfl ?_
    refine pk_dS (cx := []) (wr := (aX (zG Z) x rf ar pr er cf tf cb tb)) (X2 := (aX (zG Z) x rf ar pr er cf tf cb tb)) (st := []) (st2 := [.int (m_X4_isMonth mm)]) (As := [.int mm]) C (c_X4_isMonth (zl Z) (zG Z) L F mm) gX4_event_X4_isMonth rfl rfl rfl 1 (by decide +kernel) ⟨Nat.le_of_ble_eq_true rfl, Nat.le_of_ble_eq_true rfl⟩ rfl rfl (Nat.le_of_ble_eq_true rfl) ⟨Nat.le_of_ble_eq_true rfl, Nat.le_of_ble_eq_true rfl⟩ [] [0, 1, 2, 3, 4, 5, 6] [0, 1, 2, 3, 4, 5, 6] rfl rfl rfl rfl (by decide) rfl rfl dX4_event_13 (pc2 := 16) rfl rfl ?_
    refine pk_topi (fun n1_ en1_ => ?_)
    refine pk_if_eq (tgt := 39) C dX4_event_16 (by decide) (pc2 := 19) rfl (fun h2_ => ?_) (fun h2_ => ?_)
    ·
      subst en1_
      have hq : q_X4_event ar pr er cf tf cb tb pt es i mm ki v n = q_X4_event ar pr er cf tf cb tb pt es i mm ki v n := rfl
      conv at hq => rhs; unfold q_X4_event
      try simp only [h1_] at hq
      try rw [if_pos h2_] at hq
      exact px_throw (E := nIAE) C hX hE rfl (is := 91) (text := "these are not the terms of an event") (by decide) (Or.inl rfl) w0_ w1_ (fun w h => by first | exact List.mem_cons_of_mem _ (List.mem_append_right _ h) | exact List.mem_cons_of_mem _ (List.mem_append_left _ (List.mem_append_right _ h))) xt_51 xg_51 (by decide +kernel) (by decide +kernel) dX4_event_39 dX4_event_42 dX4_event_43 dX4_event_45 dX4_event_48 (Nat.le_of_ble_eq_true rfl) (Nat.le_of_ble_eq_true rfl) (Nat.le_of_ble_eq_true rfl) (Nat.le_of_ble_eq_true rfl) (Nat.le_of_ble_eq_true rfl) (Nat.le_of_ble_eq_true rfl) (Or.inl ⟨hq, rfl, rfl, rfl, rfl⟩)
    ·
      have hmm_ := isMonth4_in (p := mm) (by rw [← en1_]; exact h2_)
      refine pk_iload_n C 3 dX4_event_19 rfl rfl (pc2 := 20) rfl ?_
      refine pk_aload C 0 dX4_event_20 rfl (pc2 := 22) rfl ?_
      refine pk_get (v := .int (P_fi pt)) C i2_ (pw_atP hp1_.1.1 hp1_.1.2) (ci := 2) rfl 2 (by decide) w2_ rfl rfl dX4_event_22 (pc2 := 25) rfl ?_
      refine pk_icmp_lt (tgt := 39) C dX4_event_25 (by decide) (pc2 := 28) rfl (fun h3_ => ?_) (fun h3_ => ?_)
      ·
        subst en1_
        have hq : q_X4_event ar pr er cf tf cb tb pt es i mm ki v n = q_X4_event ar pr er cf tf cb tb pt es i mm ki v n := rfl
        conv at hq => rhs; unfold q_X4_event
        try simp only [h1_] at hq
        try rw [if_neg h2_] at hq
        try rw [if_pos h3_] at hq
        exact px_throw (E := nIAE) C hX hE rfl (is := 91) (text := "these are not the terms of an event") (by decide) (Or.inl rfl) w0_ w1_ (fun w h => by first | exact List.mem_cons_of_mem _ (List.mem_append_right _ h) | exact List.mem_cons_of_mem _ (List.mem_append_left _ (List.mem_append_right _ h))) xt_51 xg_51 (by decide +kernel) (by decide +kernel) dX4_event_39 dX4_event_42 dX4_event_43 dX4_event_45 dX4_event_48 (Nat.le_of_ble_eq_true rfl) (Nat.le_of_ble_eq_true rfl) (Nat.le_of_ble_eq_true rfl) (Nat.le_of_ble_eq_true rfl) (Nat.le_of_ble_eq_true rfl) (Nat.le_of_ble_eq_true rfl) (Or.inl ⟨hq, rfl, rfl, rfl, rfl⟩)
      ·
        refine pk_iload_n C 4 dX4_event_28 rfl rfl (pc2 := 29) rfl ?_
        refine pk_lload C 5 dX4_event_29 rfl (pc2 := 31) rfl ?_
        refine pk_iload C 6 dX4_event_31 rfl (pc2 := 33) rfl ?_
        refine pk_dS (cx := []) (wr := (aX (zG Z) x rf ar pr er cf tf cb tb)) (X2 := (aX (zG Z) x rf ar pr er cf tf cb tb)) (st := []) (st2 := [.int (m_X4_isEvent ki v n)]) (As := [.int ki, .long v, .int n]) C (c_X4_isEvent (zl Z) (zG Z) L F ki v n) gX4_event_X4_isEvent rfl rfl rfl 3 (by decide +kernel) ⟨Nat.le_of_ble_eq_true rfl, Nat.le_of_ble_eq_true rfl⟩ rfl rfl (Nat.le_of_ble_eq_true rfl) ⟨Nat.le_of_ble_eq_true rfl, Nat.le_of_ble_eq_true rfl⟩ [] [0, 1, 2, 3, 4, 5, 6] [0, 1, 2, 3, 4, 5, 6] rfl rfl rfl rfl (by decide) rfl rfl dX4_event_33 (pc2 := 36) rfl rfl ?_
        refine pk_topi (fun n2_ en2_ => ?_)
        refine pk_if_ne (tgt := 49) C dX4_event_36 (by decide) (pc2 := 39) rfl (fun h4_ => ?_) (fun h4_ => ?_)
        ·
          have hm36_ := mi_36 hmm_
          refine pk_aload C 0 dX4_event_49 rfl (pc2 := 51) rfl ?_
          refine pk_get (v := .ref w) C i2_ (pw_atP hp1_.1.1 hp1_.1.2) (ci := 2) rfl 7 (by decide) w3_ rfl rfl dX4_event_51 (pc2 := 54) rfl ?_
          refine pk_iload_n C 3 dX4_event_54 rfl rfl (pc2 := 55) rfl ?_
          refine pk_aldE (r := (es (Int32.toNatClampNeg mm))) C (pw_atP hp1_.2.2.1.1 hp1_.2.2.1.2) hm36_ rfl dX4_event_55 (pc2 := 56) rfl ?_
          rcases h5_ : (es (Int32.toNatClampNeg mm)) with _ | e5_
          ·
            refine pk_ifnonnull_n C dX4_event_56 (pc2 := 59) rfl ?_
            refine pk_aload C 0 dX4_event_59 rfl (pc2 := 61) rfl ?_
            refine pk_get (v := .int (P_ec pt)) C i2_ (pw_atP hp1_.1.1 hp1_.1.2) (ci := 2) rfl 9 (by decide) w4_ rfl rfl dX4_event_61 (pc2 := 64) rfl ?_
            refine pk_bipush (v := 8) C dX4_event_64 (by decide) (pc2 := 66) rfl ?_
            refine pk_icmp_ge (tgt := 78) C dX4_event_66 (by decide) (pc2 := 69) rfl (fun h6_ => ?_) (fun h6_ => ?_)
            ·
              subst en1_ en2_
              have hq : q_X4_event ar pr er cf tf cb tb pt es i mm ki v n = q_X4_event ar pr er cf tf cb tb pt es i mm ki v n := rfl
              conv at hq => rhs; unfold q_X4_event
              try simp only [h1_] at hq
              try rw [if_neg h2_] at hq
              try rw [if_neg h3_] at hq
              try rw [if_neg h4_] at hq
              try simp only [h5_] at hq
              try rw [if_pos h6_] at hq
              exact px_throw (E := nISE) C hX hE rfl (is := 100) (text := "no room for the event") (by decide) (Or.inr rfl) w5_ w6_ (fun w h => by first | exact List.mem_cons_of_mem _ (List.mem_append_right _ h) | exact List.mem_cons_of_mem _ (List.mem_append_left _ (List.mem_append_right _ h))) xt_62 xg_62 (by decide +kernel) (by decide +kernel) dX4_event_78 dX4_event_81 dX4_event_82 dX4_event_84 dX4_event_87 (Nat.le_of_ble_eq_true rfl) (Nat.le_of_ble_eq_true rfl) (Nat.le_of_ble_eq_true rfl) (Nat.le_of_ble_eq_true rfl) (Nat.le_of_ble_eq_true rfl) (Nat.le_of_ble_eq_true rfl) (Or.inr (Or.inl ⟨hq, rfl, rfl, rfl, rfl⟩))
            ·
              refine pk_aload_n C 1 dX4_event_69 rfl rfl (pc2 := 70) rfl ?_
              refine pk_get (v := .int (A_ec ar)) C i4_ (pw_atX 0 rfl) (ci := 4) rfl 5 (by decide) w7_ rfl rfl dX4_event_70 (pc2 := 73) rfl ?_
              refine pk_bipush (v := 40) C dX4_event_73 (by decide) (pc2 := 75) rfl ?_
              refine pk_icmp_lt (tgt := 88) C dX4_event_75 (by decide) (pc2 := 78) rfl (fun h7_ => ?_) (fun h7_ => ?_)
              ·
                refine pw_lv [1, 2, 3, 4, 5, 6, 0] (lv' := [(0, .ref x), (1, .int i), (2, .int mm), (3, .int ki), (4, .long v), (6, .int n), (7, .ref p1_)]) rfl ?_
                have he40 := hec h7_
                have hm36 := mi_36 hmm_
                subst en1_ en2_
                have hq : q_X4_event ar pr er cf tf cb tb pt es i mm ki v n = q_X4_event ar pr er cf tf cb tb pt es i mm ki v n := rfl
                conv at hq => rhs; unfold q_X4_event
                try simp only [h1_] at hq
                try rw [if_neg h2_] at hq
                try rw [if_neg h3_] at hq
                try rw [if_neg h4_] at hq
                try simp only [h5_] at hq
                try rw [if_neg h6_] at hq
                try rw [if_pos h7_] at hq
                exact t1_X4_event C hX hE (fun r X' L' F' h => Or.inr (Or.inr ⟨hq, h⟩)) hp1_ hfm_ hfi_ hm36 he40
              ·
                subst en1_ en2_
                have hq : q_X4_event ar pr er cf tf cb tb pt es i mm ki v n = q_X4_event ar pr er cf tf cb tb pt es i mm ki v n := rfl
                conv at hq => rhs; unfold q_X4_event
                try simp only [h1_] at hq
                try rw [if_neg h2_] at hq
                try rw [if_neg h3_] at hq
                try rw [if_neg h4_] at hq
                try simp only [h5_] at hq
                try rw [if_neg h6_] at hq
                try rw [if_neg h7_] at hq
                exact px_throw (E := nISE) C hX hE rfl (is := 100) (text := "no room for the event") (by decide) (Or.inr rfl) w5_ w6_ (fun w h => by first | exact List.mem_cons_of_mem _ (List.mem_append_right _ h) | exact List.mem_cons_of_mem _ (List.mem_append_left _ (List.mem_append_right _ h))) xt_62 xg_62 (by decide +kernel) (by decide +kernel) dX4_event_78 dX4_event_81 dX4_event_82 dX4_event_84 dX4_event_87 (Nat.le_of_ble_eq_true rfl) (Nat.le_of_ble_eq_true rfl) (Nat.le_of_ble_eq_true rfl) (Nat.le_of_ble_eq_true rfl) (Nat.le_of_ble_eq_true rfl) (Nat.le_of_ble_eq_true rfl) (Or.inr (Or.inl ⟨hq, rfl, rfl, rfl, rfl⟩))
          ·
            refine pk_ifnonnull_r (tgt := 78) C dX4_event_56 (by decide) ?_
            subst en1_ en2_
            have hq : q_X4_event ar pr er cf tf cb tb pt es i mm ki v n = q_X4_event ar pr er cf tf cb tb pt es i mm ki v n := rfl
            conv at hq => rhs; unfold q_X4_event
            try simp only [h1_] at hq
            try rw [if_neg h2_] at hq
            try rw [if_neg h3_] at hq
            try rw [if_neg h4_] at hq
            try simp only [h5_] at hq
            exact px_throw (E := nISE) C hX hE rfl (is := 100) (text := "no room for the event") (by decide) (Or.inr rfl) w5_ w6_ (fun w h => by first | exact List.mem_cons_of_mem _ (List.mem_append_right _ h) | exact List.mem_cons_of_mem _ (List.mem_append_left _ (List.mem_append_right _ h))) xt_62 xg_62 (by decide +kernel) (by decide +kernel) dX4_event_78 dX4_event_81 dX4_event_82 dX4_event_84 dX4_event_87 (Nat.le_of_ble_eq_true rfl) (Nat.le_of_ble_eq_true rfl) (Nat.le_of_ble_eq_true rfl) (Nat.le_of_ble_eq_true rfl) (Nat.le_of_ble_eq_true rfl) (Nat.le_of_ble_eq_true rfl) (Or.inr (Or.inl ⟨hq, rfl, rfl, rfl, rfl⟩))
        ·
          subst en1_ en2_
          have hq : q_X4_event ar pr er cf tf cb tb pt es i mm ki v n = q_X4_event ar pr er cf tf cb tb pt es i mm ki v n := rfl
          conv at hq => rhs; unfold q_X4_event
          try simp only [h1_] at hq
          try rw [if_neg h2_] at hq
          try rw [if_neg h3_] at hq
          try rw [if_pos h4_] at hq
          exact px_throw (E := nIAE) C hX hE rfl (is := 91) (text := "these are not the terms of an event") (by decide) (Or.inl rfl) w0_ w1_ (fun w h => by first | exact List.mem_cons_of_mem _ (List.mem_append_right _ h) | exact List.mem_cons_of_mem _ (List.mem_append_left _ (List.mem_append_right _ h))) xt_51 xg_51 (by decide +kernel) (by decide +kernel) dX4_event_39 dX4_event_42 dX4_event_43 dX4_event_45 dX4_event_48 (Nat.le_of_ble_eq_true rfl) (Nat.le_of_ble_eq_true rfl) (Nat.le_of_ble_eq_true rfl) (Nat.le_of_ble_eq_true rfl) (Nat.le_of_ble_eq_true rfl) (Nat.le_of_ble_eq_true rfl) (Or.inl ⟨hq, rfl, rfl, rfl, rfl⟩)

theorem part_T {c : MR} {T : TR} {NP : Nat} (hpt : M_pt c = nI NP) (hN : NP ≤ 6) {co rs : Int64} {mm li me ra : Int32} : (f0_X5_part c T co rs mm li me ra = 0 → (m_X5_part c T co rs mm li me ra).2.1 = (M_mk 1 (M_pt c) (M_mn c) (M_ev c) (M_co c) (M_al c) (M_re c) (M_lo c) (M_rs c) (M_li c) (M_he c) (M_go c) (M_sp c) (M_ba c) (M_le c) (M_lf c) (M_mo c) (M_un c) (M_ch c) (M_lc c) (M_ac c) (M_bd c)) ∧ (m_X5_part c T co rs mm li me ra).2.2 = T) ∧ (¬ f0_X5_part c T co rs mm li me ra = 0 → NP = 6 → (m_X5_part c T co rs mm li me ra).2.1 = (M_mk 2 (M_pt c) (M_mn c) (M_ev c) (M_co c) (M_al c) (M_re c) (M_lo c) (M_rs c) (M_li c) (M_he c) (M_go c) (M_sp c) (M_ba c) (M_le c) (M_lf c) (M_mo c) (M_un c) (M_ch c) (M_lc c) (M_ac c) (M_bd c)) ∧ (m_X5_part c T co rs mm li me ra).2.2 = T) ∧ (¬ f0_X5_part c T co rs mm li me ra = 0 → ¬ NP = 6 → (m_X5_part c T co rs mm li me ra) = (nI NP + 1 - 1, (M_mk 0 (nI NP + 1) (M_mn c) (M_ev c) (M_co c) (M_al c) (M_re c) (M_lo c) (M_rs c) (M_li c) (M_he c) (M_go c) (M_sp c) (M_ba c) (M_le c) (M_lf c) (M_mo c) (M_un c) (M_ch c) (M_lc c) (M_ac c) (M_bd c)), (T_s_ra (T_s_me (T_s_li (T_s_fi (T_s_rs (T_s_cs T (vp_updL (T_cs T) NP co)) (vp_updL (T_rs T) NP rs)) (upd (T_fi T) NP mm)) (upd (T_li T) NP li)) (upd (T_me T) NP me)) (upd (T_ra T) NP ra)))) := by
  have n6 : (nI NP = 6) ↔ NP = 6 := by rw [show (6 : Int32) = nI 6 from rfl]; exact nI_eq (by omega) (by omega)
  unfold m_X5_part m_X5_part_0 m_X5_part_1 f1_X5_part
  generalize f0_X5_part c T co rs mm li me ra = g
  refine ⟨fun h => ?_, fun h h6 => ?_, fun h h6 => ?_⟩
  · rw [if_pos h]
    unfold m_X5_part_2
    rw [if_neg (show ¬ M_cd (M_mk 1 (M_pt c) (M_mn c) (M_ev c) (M_co c) (M_al c) (M_re c) (M_lo c) (M_rs c) (M_li c) (M_he c) (M_go c) (M_sp c) (M_ba c) (M_le c) (M_lf c) (M_mo c) (M_un c) (M_ch c) (M_lc c) (M_ac c) (M_bd c)) ≤ 0 by rw [M_cd_mk]; decide)]
    exact ⟨rfl, rfl⟩
  · rw [if_neg h, hpt, if_pos (n6.mpr h6), ← hpt]
    unfold m_X5_part_2
    rw [if_neg (show ¬ M_cd (M_mk 2 (M_pt c) (M_mn c) (M_ev c) (M_co c) (M_al c) (M_re c) (M_lo c) (M_rs c) (M_li c) (M_he c) (M_go c) (M_sp c) (M_ba c) (M_le c) (M_lf c) (M_mo c) (M_un c) (M_ch c) (M_lc c) (M_ac c) (M_bd c)) ≤ 0 by rw [M_cd_mk]; decide)]
    exact ⟨rfl, rfl⟩
  · rw [if_neg h, hpt, if_neg (fun z => h6 (n6.mp z)), ← hpt]
    unfold m_X5_part_2
    rw [if_pos (show M_cd (M_mk 0 (M_pt c) (M_mn c) (M_ev c) (M_co c) (M_al c) (M_re c) (M_lo c) (M_rs c) (M_li c) (M_he c) (M_go c) (M_sp c) (M_ba c) (M_le c) (M_lf c) (M_mo c) (M_un c) (M_ch c) (M_lc c) (M_ac c) (M_bd c)) ≤ 0 by rw [M_cd_mk]; decide)]
    simp only [M_cd_mk, M_pt_mk, M_mn_mk, M_ev_mk, M_co_mk, M_al_mk, M_re_mk, M_lo_mk, M_rs_mk, M_li_mk, M_he_mk, M_go_mk, M_sp_mk, M_ba_mk, M_le_mk, M_lf_mk, M_mo_mk, M_un_mk, M_ch_mk, M_lc_mk, M_ac_mk, M_bd_mk, T_cs_s_cs, T_rs_s_cs, T_fi_s_cs, T_li_s_cs, T_me_s_cs, T_ra_s_cs, T_us_s_cs, T_po_s_cs, T_of_s_cs, T_wh_s_cs, T_ki_s_cs, T_am_s_cs, T_nu_s_cs, T_cs_s_rs, T_rs_s_rs, T_fi_s_rs, T_li_s_rs, T_me_s_rs, T_ra_s_rs, T_us_s_rs, T_po_s_rs, T_of_s_rs, T_wh_s_rs, T_ki_s_rs, T_am_s_rs, T_nu_s_rs, T_cs_s_fi, T_rs_s_fi, T_fi_s_fi, T_li_s_fi, T_me_s_fi, T_ra_s_fi, T_us_s_fi, T_po_s_fi, T_of_s_fi, T_wh_s_fi, T_ki_s_fi, T_am_s_fi, T_nu_s_fi, T_cs_s_li, T_rs_s_li, T_fi_s_li, T_li_s_li, T_me_s_li, T_ra_s_li, T_us_s_li, T_po_s_li, T_of_s_li, T_wh_s_li, T_ki_s_li, T_am_s_li, T_nu_s_li, T_cs_s_me, T_rs_s_me, T_fi_s_me, T_li_s_me, T_me_s_me, T_ra_s_me, T_us_s_me, T_po_s_me, T_of_s_me, T_wh_s_me, T_ki_s_me, T_am_s_me, T_nu_s_me, T_cs_s_ra, T_rs_s_ra, T_fi_s_ra, T_li_s_ra, T_me_s_ra, T_ra_s_ra, T_us_s_ra, T_po_s_ra, T_of_s_ra, T_wh_s_ra, T_ki_s_ra, T_am_s_ra, T_nu_s_ra]
    rw [hpt, nI_clamp (by omega)]
set_option maxHeartbeats 2000000 in
theorem LI_new {G : pw_G} {L : List Nat} {F : Nat → va_E} {ar : AR} {pr er : Nat → Option Nat} {D : pw_D} {evf : Nat → ER} {c : MR} {T : TR} {NP NE NM : Nat} (h : LI G L F ar pr er D evf c T NP NE NM) (hNP : NP < 6) {co rs : Int64} {mm li me ra : Int32} (hv : ¬ f0_X5_part c T co rs mm li me ra = 0) {b u w q : Nat} {L2 : List Nat} {F2 : Nat → va_E} (hb : b ∉ L) (hn : pnP G (L ++ [b]) L2 (va_up F b (.inr (2, [.long 0, .long 0, .int 0, .int 0, .int 0, .int 0, .null, .null, .null, .int 0, .long 0]))) F2 b u w q (P_mk co rs mm li me ra 0 0)) : LI G L2 F2 (A_mk (A_pc ar + 1) (A_ec ar) (A_mc ar)) (va_up pr NP (some b)) er ((va_up D.1 NP b, va_up D.2.1 NP u, va_up D.2.2.1 NP w, va_up D.2.2.2.1 NP q, va_up D.2.2.2.2.1 NP (P_mk co rs mm li me ra 0 0), va_up D.2.2.2.2.2.1 NP (fun _ => 0), va_up D.2.2.2.2.2.2.1 NP (fun _ => none), va_up D.2.2.2.2.2.2.2 NP (fun _ => 0)) : pw_D) evf (M_mk 0 (nI NP + 1) (M_mn c) (M_ev c) (M_co c) (M_al c) (M_re c) (M_lo c) (M_rs c) (M_li c) (M_he c) (M_go c) (M_sp c) (M_ba c) (M_le c) (M_lf c) (M_mo c) (M_un c) (M_ch c) (M_lc c) (M_ac c) (M_bd c)) (T_s_ra (T_s_me (T_s_li (T_s_fi (T_s_rs (T_s_cs T (vp_updL (T_cs T) NP co)) (vp_updL (T_rs T) NP rs)) (upd (T_fi T) NP mm)) (upd (T_li T) NP li)) (upd (T_me T) NP me)) (upd (T_ra T) NP ra)) (NP + 1) NE NM := by
  obtain ⟨h1, h2, h3, h4, h5, h6, h7, h8, h9, h10, h11, h12, h13⟩ := h
  obtain ⟨⟨hL, hu, hw, hq⟩, nb, nu, nw, nq, nold⟩ := hn
  obtain ⟨⟨r1, r2⟩, r3, r4, r5, r6⟩ := h1
  obtain ⟨v1, v2, ⟨fm, v3, v4⟩, v5, v6, v7⟩ := part_v hv
  have inL : ∀ x, x ∈ L → x ∈ L2 := fun x hx => by rw [hL]; simp [hx]
  have bL : b ∈ L2 := by rw [hL]; simp
  have uL : u ∈ L2 := by rw [hL]; simp
  have wL : w ∈ L2 := by rw [hL]; simp
  have qL : q ∈ L2 := by rw [hL]; simp
  have old : ∀ x, x ∈ L → F2 x = F x := fun x hx => by
    have hxb : x ≠ b := fun z => hb (z ▸ hx)
    rw [nold x (List.mem_append_left _ hx) hxb, va_up_ne _ _ hxb]
  have oE : ∀ x (ev : ER), (x ∈ L ∧ F x = cE ev) → x ∈ L2 ∧ F2 x = cE ev := fun x ev hx => ⟨inL x hx.1, by rw [old x hx.1]; exact hx.2⟩
  have un : u ∉ L := fun z => hu (List.mem_append_left _ z)
  have wn : w ∉ L := fun z => hw (List.mem_append_left _ (List.mem_append_left _ z))
  have qn : q ∉ L := fun z => hq (List.mem_append_left _ (List.mem_append_left _ (List.mem_append_left _ z)))
  refine ⟨?_, ?_, ?_, ?_, ?_, ?_, ?_, ?_, h9, ?_, ?_, ?_, ?_⟩
  · refine ⟨⟨by omega, by rw [M_pt_mk, nI_1]⟩, ⟨r3.1, by rw [M_ev_mk]; exact r3.2⟩, ⟨r4.1, by rw [M_mn_mk]; exact r4.2⟩, fun a ha => ?_, fun k hk => ?_⟩
    · simp only [T_cs_s_cs, T_rs_s_cs, T_fi_s_cs, T_li_s_cs, T_me_s_cs, T_ra_s_cs, T_us_s_cs, T_po_s_cs, T_of_s_cs, T_wh_s_cs, T_ki_s_cs, T_am_s_cs, T_nu_s_cs, T_cs_s_rs, T_rs_s_rs, T_fi_s_rs, T_li_s_rs, T_me_s_rs, T_ra_s_rs, T_us_s_rs, T_po_s_rs, T_of_s_rs, T_wh_s_rs, T_ki_s_rs, T_am_s_rs, T_nu_s_rs, T_cs_s_fi, T_rs_s_fi, T_fi_s_fi, T_li_s_fi, T_me_s_fi, T_ra_s_fi, T_us_s_fi, T_po_s_fi, T_of_s_fi, T_wh_s_fi, T_ki_s_fi, T_am_s_fi, T_nu_s_fi, T_cs_s_li, T_rs_s_li, T_fi_s_li, T_li_s_li, T_me_s_li, T_ra_s_li, T_us_s_li, T_po_s_li, T_of_s_li, T_wh_s_li, T_ki_s_li, T_am_s_li, T_nu_s_li, T_cs_s_me, T_rs_s_me, T_fi_s_me, T_li_s_me, T_me_s_me, T_ra_s_me, T_us_s_me, T_po_s_me, T_of_s_me, T_wh_s_me, T_ki_s_me, T_am_s_me, T_nu_s_me, T_cs_s_ra, T_rs_s_ra, T_fi_s_ra, T_li_s_ra, T_me_s_ra, T_ra_s_ra, T_us_s_ra, T_po_s_ra, T_of_s_ra, T_wh_s_ra, T_ki_s_ra, T_am_s_ra, T_nu_s_ra]
      by_cases e : a = NP
      · subst e
        rw [pk_us, pk_us]
        exact ⟨⟨fm, by omega, v4⟩, v5⟩
      · rw [pk_un e, pk_un e]
        exact r5 a (by omega)
    · simp only [T_cs_s_cs, T_rs_s_cs, T_fi_s_cs, T_li_s_cs, T_me_s_cs, T_ra_s_cs, T_us_s_cs, T_po_s_cs, T_of_s_cs, T_wh_s_cs, T_ki_s_cs, T_am_s_cs, T_nu_s_cs, T_cs_s_rs, T_rs_s_rs, T_fi_s_rs, T_li_s_rs, T_me_s_rs, T_ra_s_rs, T_us_s_rs, T_po_s_rs, T_of_s_rs, T_wh_s_rs, T_ki_s_rs, T_am_s_rs, T_nu_s_rs, T_cs_s_fi, T_rs_s_fi, T_fi_s_fi, T_li_s_fi, T_me_s_fi, T_ra_s_fi, T_us_s_fi, T_po_s_fi, T_of_s_fi, T_wh_s_fi, T_ki_s_fi, T_am_s_fi, T_nu_s_fi, T_cs_s_li, T_rs_s_li, T_fi_s_li, T_li_s_li, T_me_s_li, T_ra_s_li, T_us_s_li, T_po_s_li, T_of_s_li, T_wh_s_li, T_ki_s_li, T_am_s_li, T_nu_s_li, T_cs_s_me, T_rs_s_me, T_fi_s_me, T_li_s_me, T_me_s_me, T_ra_s_me, T_us_s_me, T_po_s_me, T_of_s_me, T_wh_s_me, T_ki_s_me, T_am_s_me, T_nu_s_me, T_cs_s_ra, T_rs_s_ra, T_fi_s_ra, T_li_s_ra, T_me_s_ra, T_ra_s_ra, T_us_s_ra, T_po_s_ra, T_of_s_ra, T_wh_s_ra, T_ki_s_ra, T_am_s_ra, T_nu_s_ra]
      obtain ⟨x1, x2⟩ := r6 k hk
      refine ⟨x1, ?_⟩
      rcases x2 with x2 | ⟨a, x2, x3⟩
      · exact Or.inl x2
      · exact Or.inr ⟨a, by omega, x3⟩
  · refine ⟨?_, h2.2.1, h2.2.2⟩
    show A_pc ar + 1 = nI (NP + 1)
    rw [h2.1, nI_1]
  · intro a ha
    by_cases e : a = NP
    · subst e
      refine ⟨by rw [va_up_self]; show some b = some (va_up D.1 a b a); rw [va_up_self], ?_⟩
      show pA G L2 F2 (va_up D.1 a b a) (va_up D.2.1 a u a) (va_up D.2.2.1 a w a) (va_up D.2.2.2.1 a q a) (va_up D.2.2.2.2.1 a (P_mk co rs mm li me ra 0 0) a) (va_up D.2.2.2.2.2.1 a (fun _ => 0) a) (va_up D.2.2.2.2.2.2.1 a (fun _ => none) a) (va_up D.2.2.2.2.2.2.2 a (fun _ => 0) a) evf
      rw [va_up_self, va_up_self, va_up_self, va_up_self, va_up_self, va_up_self, va_up_self, va_up_self]
      exact ⟨⟨bL, nb⟩, ⟨uL, nu⟩, ⟨wL, nw⟩, ⟨qL, nq⟩, fun i _ x hx => nomatch hx⟩
    · obtain ⟨p1, ⟨a1, a2⟩, ⟨b1, b2⟩, ⟨c1, c2⟩, ⟨d1, d2⟩, he⟩ := h3 a (by omega)
      refine ⟨by rw [va_up_ne _ _ e]; show pr a = some (va_up D.1 NP b a); rw [va_up_ne _ _ e]; exact p1, ?_⟩
      show pA G L2 F2 (va_up D.1 NP b a) (va_up D.2.1 NP u a) (va_up D.2.2.1 NP w a) (va_up D.2.2.2.1 NP q a) (va_up D.2.2.2.2.1 NP (P_mk co rs mm li me ra 0 0) a) (va_up D.2.2.2.2.2.1 NP (fun _ => 0) a) (va_up D.2.2.2.2.2.2.1 NP (fun _ => none) a) (va_up D.2.2.2.2.2.2.2 NP (fun _ => 0) a) evf
      rw [va_up_ne _ _ e, va_up_ne _ _ e, va_up_ne _ _ e, va_up_ne _ _ e, va_up_ne _ _ e, va_up_ne _ _ e, va_up_ne _ _ e, va_up_ne _ _ e]
      exact ⟨⟨inL _ a1, by rw [old _ a1]; exact a2⟩, ⟨inL _ b1, by rw [old _ b1]; exact b2⟩, ⟨inL _ c1, by rw [old _ c1]; exact c2⟩, ⟨inL _ d1, by rw [old _ d1]; exact d2⟩, fun i hi x hx => oE x _ (he i hi x hx)⟩
  · have key : ∀ (g : Nat → Nat) (x : Nat), x ∉ L → (∀ a, a < NP → g a ∈ L) → (∀ a b, a < NP → b < NP → a ≠ b → g a ≠ g b) → ∀ a b, a < NP + 1 → b < NP + 1 → a ≠ b → va_up g NP x a ≠ va_up g NP x b := by
      intro g x hx hg hd a b' ha hb' hab
      by_cases e : a = NP
      · have e2 : b' ≠ NP := fun z => hab (e.trans z.symm)
        rw [e, va_up_self, va_up_ne _ _ e2]
        exact fun z => hx (z ▸ hg b' (by omega))
      · rw [va_up_ne _ _ e]
        by_cases e2 : b' = NP
        · rw [e2, va_up_self]
          exact fun z => hx (z ▸ hg a (by omega))
        · rw [va_up_ne _ _ e2]
          exact hd a b' (by omega) (by omega) hab
    intro a b' ha hb' hab
    exact ⟨key D.1 b hb (fun a ha => (h3 a ha).2.1.1) (fun x y hx hy hxy => (h4 x y hx hy hxy).1) a b' ha hb' hab, key D.2.1 u un (fun a ha => (h3 a ha).2.2.1.1) (fun x y hx hy hxy => (h4 x y hx hy hxy).2.1) a b' ha hb' hab, key D.2.2.1 w wn (fun a ha => (h3 a ha).2.2.2.1.1) (fun x y hx hy hxy => (h4 x y hx hy hxy).2.2.1) a b' ha hb' hab, key D.2.2.2.1 q qn (fun a ha => (h3 a ha).2.2.2.2.1.1) (fun x y hx hy hxy => (h4 x y hx hy hxy).2.2.2) a b' ha hb' hab⟩
  · intro a ha
    show PRM (T_s_ra (T_s_me (T_s_li (T_s_fi (T_s_rs (T_s_cs T (vp_updL (T_cs T) NP co)) (vp_updL (T_rs T) NP rs)) (upd (T_fi T) NP mm)) (upd (T_li T) NP li)) (upd (T_me T) NP me)) (upd (T_ra T) NP ra)) a (va_up D.2.2.2.2.1 NP (P_mk co rs mm li me ra 0 0) a) (va_up D.2.2.2.2.2.1 NP (fun _ => 0) a)
    unfold PRM
    simp only [T_cs_s_cs, T_rs_s_cs, T_fi_s_cs, T_li_s_cs, T_me_s_cs, T_ra_s_cs, T_us_s_cs, T_po_s_cs, T_of_s_cs, T_wh_s_cs, T_ki_s_cs, T_am_s_cs, T_nu_s_cs, T_cs_s_rs, T_rs_s_rs, T_fi_s_rs, T_li_s_rs, T_me_s_rs, T_ra_s_rs, T_us_s_rs, T_po_s_rs, T_of_s_rs, T_wh_s_rs, T_ki_s_rs, T_am_s_rs, T_nu_s_rs, T_cs_s_fi, T_rs_s_fi, T_fi_s_fi, T_li_s_fi, T_me_s_fi, T_ra_s_fi, T_us_s_fi, T_po_s_fi, T_of_s_fi, T_wh_s_fi, T_ki_s_fi, T_am_s_fi, T_nu_s_fi, T_cs_s_li, T_rs_s_li, T_fi_s_li, T_li_s_li, T_me_s_li, T_ra_s_li, T_us_s_li, T_po_s_li, T_of_s_li, T_wh_s_li, T_ki_s_li, T_am_s_li, T_nu_s_li, T_cs_s_me, T_rs_s_me, T_fi_s_me, T_li_s_me, T_me_s_me, T_ra_s_me, T_us_s_me, T_po_s_me, T_of_s_me, T_wh_s_me, T_ki_s_me, T_am_s_me, T_nu_s_me, T_cs_s_ra, T_rs_s_ra, T_fi_s_ra, T_li_s_ra, T_me_s_ra, T_ra_s_ra, T_us_s_ra, T_po_s_ra, T_of_s_ra, T_wh_s_ra, T_ki_s_ra, T_am_s_ra, T_nu_s_ra]
    by_cases e : a = NP
    · subst e
      rw [va_up_self, va_up_self, vpl_s, vpl_s, pk_us, pk_us, pk_us, pk_us, P_me_mk, P_ra_mk, P_co_mk, P_rs_mk, P_li_mk, P_fi_mk]
      refine ⟨⟨fm, by omega, v4⟩, ⟨rfl, rfl, rfl, rfl, rfl, rfl⟩, ⟨v1, v2, v5, v6, v7⟩, fun k hk => ?_⟩
      rw [(h13 a k (Nat.le_refl _) hNP hk).1]
      exact ⟨rfl, by decide, by decide⟩
    · rw [va_up_ne _ _ e, va_up_ne _ _ e, vpl_n e, vpl_n e, pk_un e, pk_un e, pk_un e, pk_un e]
      exact h5 a (by omega)
  · intro a ha cf tf cb tb
    show C_br (m_X4_follow (va_up D.2.2.2.2.1 NP (P_mk co rs mm li me ra 0 0) a) (va_up D.2.2.2.2.2.1 NP (fun _ => 0) a) (va_up D.2.2.2.2.2.2.1 NP (fun _ => none) a) evf cf tf cb tb (nI 35)).1 = 0
    by_cases e : a = NP
    · subst e
      rw [va_up_self, va_up_self, va_up_self]
      unfold m_X4_follow
      rw [nb_none]
      unfold m_X0_open
      exact C_br_mk ..
    · rw [va_up_ne _ _ e, va_up_ne _ _ e, va_up_ne _ _ e]
      exact h6 a (by omega) cf tf cb tb
  · intro i hi
    obtain ⟨x1, x2⟩ := h7 i hi
    unfold ERW
    simp only [T_cs_s_cs, T_rs_s_cs, T_fi_s_cs, T_li_s_cs, T_me_s_cs, T_ra_s_cs, T_us_s_cs, T_po_s_cs, T_of_s_cs, T_wh_s_cs, T_ki_s_cs, T_am_s_cs, T_nu_s_cs, T_cs_s_rs, T_rs_s_rs, T_fi_s_rs, T_li_s_rs, T_me_s_rs, T_ra_s_rs, T_us_s_rs, T_po_s_rs, T_of_s_rs, T_wh_s_rs, T_ki_s_rs, T_am_s_rs, T_nu_s_rs, T_cs_s_fi, T_rs_s_fi, T_fi_s_fi, T_li_s_fi, T_me_s_fi, T_ra_s_fi, T_us_s_fi, T_po_s_fi, T_of_s_fi, T_wh_s_fi, T_ki_s_fi, T_am_s_fi, T_nu_s_fi, T_cs_s_li, T_rs_s_li, T_fi_s_li, T_li_s_li, T_me_s_li, T_ra_s_li, T_us_s_li, T_po_s_li, T_of_s_li, T_wh_s_li, T_ki_s_li, T_am_s_li, T_nu_s_li, T_cs_s_me, T_rs_s_me, T_fi_s_me, T_li_s_me, T_me_s_me, T_ra_s_me, T_us_s_me, T_po_s_me, T_of_s_me, T_wh_s_me, T_ki_s_me, T_am_s_me, T_nu_s_me, T_cs_s_ra, T_rs_s_ra, T_fi_s_ra, T_li_s_ra, T_me_s_ra, T_ra_s_ra, T_us_s_ra, T_po_s_ra, T_of_s_ra, T_wh_s_ra, T_ki_s_ra, T_am_s_ra, T_nu_s_ra]
    refine ⟨x1, ?_⟩
    rcases x2 with x2 | ⟨e, a', j', g1, g2, g3, g4, g5, g6, g7, g8⟩
    · exact Or.inl x2
    · refine Or.inr ⟨e, a', j', g1, oE e _ g2, by omega, g4, g5, g6, ?_, g8⟩
      show va_up D.2.2.2.2.2.2.1 NP (fun _ => none) a' j' = some e
      rw [va_up_ne _ _ (by omega)]
      exact g7
  · intro a k ha hk e hx
    have hx' : va_up D.2.2.2.2.2.2.1 NP (fun _ => none) a k = some e := hx
    by_cases y : a = NP
    · rw [y, va_up_self] at hx'
      cases hx'
    · rw [va_up_ne _ _ y] at hx'
      simp only [T_cs_s_cs, T_rs_s_cs, T_fi_s_cs, T_li_s_cs, T_me_s_cs, T_ra_s_cs, T_us_s_cs, T_po_s_cs, T_of_s_cs, T_wh_s_cs, T_ki_s_cs, T_am_s_cs, T_nu_s_cs, T_cs_s_rs, T_rs_s_rs, T_fi_s_rs, T_li_s_rs, T_me_s_rs, T_ra_s_rs, T_us_s_rs, T_po_s_rs, T_of_s_rs, T_wh_s_rs, T_ki_s_rs, T_am_s_rs, T_nu_s_rs, T_cs_s_fi, T_rs_s_fi, T_fi_s_fi, T_li_s_fi, T_me_s_fi, T_ra_s_fi, T_us_s_fi, T_po_s_fi, T_of_s_fi, T_wh_s_fi, T_ki_s_fi, T_am_s_fi, T_nu_s_fi, T_cs_s_li, T_rs_s_li, T_fi_s_li, T_li_s_li, T_me_s_li, T_ra_s_li, T_us_s_li, T_po_s_li, T_of_s_li, T_wh_s_li, T_ki_s_li, T_am_s_li, T_nu_s_li, T_cs_s_me, T_rs_s_me, T_fi_s_me, T_li_s_me, T_me_s_me, T_ra_s_me, T_us_s_me, T_po_s_me, T_of_s_me, T_wh_s_me, T_ki_s_me, T_am_s_me, T_nu_s_me, T_cs_s_ra, T_rs_s_ra, T_fi_s_ra, T_li_s_ra, T_me_s_ra, T_ra_s_ra, T_us_s_ra, T_po_s_ra, T_of_s_ra, T_wh_s_ra, T_ki_s_ra, T_am_s_ra, T_nu_s_ra]
      exact h8 a k (by omega) hk e hx'
  · intro a ha
    simp only [T_cs_s_cs, T_rs_s_cs, T_fi_s_cs, T_li_s_cs, T_me_s_cs, T_ra_s_cs, T_us_s_cs, T_po_s_cs, T_of_s_cs, T_wh_s_cs, T_ki_s_cs, T_am_s_cs, T_nu_s_cs, T_cs_s_rs, T_rs_s_rs, T_fi_s_rs, T_li_s_rs, T_me_s_rs, T_ra_s_rs, T_us_s_rs, T_po_s_rs, T_of_s_rs, T_wh_s_rs, T_ki_s_rs, T_am_s_rs, T_nu_s_rs, T_cs_s_fi, T_rs_s_fi, T_fi_s_fi, T_li_s_fi, T_me_s_fi, T_ra_s_fi, T_us_s_fi, T_po_s_fi, T_of_s_fi, T_wh_s_fi, T_ki_s_fi, T_am_s_fi, T_nu_s_fi, T_cs_s_li, T_rs_s_li, T_fi_s_li, T_li_s_li, T_me_s_li, T_ra_s_li, T_us_s_li, T_po_s_li, T_of_s_li, T_wh_s_li, T_ki_s_li, T_am_s_li, T_nu_s_li, T_cs_s_me, T_rs_s_me, T_fi_s_me, T_li_s_me, T_me_s_me, T_ra_s_me, T_us_s_me, T_po_s_me, T_of_s_me, T_wh_s_me, T_ki_s_me, T_am_s_me, T_nu_s_me, T_cs_s_ra, T_rs_s_ra, T_fi_s_ra, T_li_s_ra, T_me_s_ra, T_ra_s_ra, T_us_s_ra, T_po_s_ra, T_of_s_ra, T_wh_s_ra, T_ki_s_ra, T_am_s_ra, T_nu_s_ra]
    show P_ec (va_up D.2.2.2.2.1 NP (P_mk co rs mm li me ra 0 0) a) = _ ∧ _
    by_cases e : a = NP
    · subst e
      rw [va_up_self, P_ec_mk, cnt_zero (T_of T) a NE (fun i hi z => ?_)]
      · exact ⟨rfl, by omega⟩
      · rcases (r6 i hi).2 with y | ⟨a', y1, y2⟩
        · rw [y] at z
          exact nI_ne0 (by omega) (by omega) z.symm
        · rw [y2] at z
          have := (nI_eq (by omega) (by omega)).mp z
          omega
    · rw [va_up_ne _ _ e]
      exact h10 a (by omega)
  · intro a ha
    simp only [T_cs_s_cs, T_rs_s_cs, T_fi_s_cs, T_li_s_cs, T_me_s_cs, T_ra_s_cs, T_us_s_cs, T_po_s_cs, T_of_s_cs, T_wh_s_cs, T_ki_s_cs, T_am_s_cs, T_nu_s_cs, T_cs_s_rs, T_rs_s_rs, T_fi_s_rs, T_li_s_rs, T_me_s_rs, T_ra_s_rs, T_us_s_rs, T_po_s_rs, T_of_s_rs, T_wh_s_rs, T_ki_s_rs, T_am_s_rs, T_nu_s_rs, T_cs_s_fi, T_rs_s_fi, T_fi_s_fi, T_li_s_fi, T_me_s_fi, T_ra_s_fi, T_us_s_fi, T_po_s_fi, T_of_s_fi, T_wh_s_fi, T_ki_s_fi, T_am_s_fi, T_nu_s_fi, T_cs_s_li, T_rs_s_li, T_fi_s_li, T_li_s_li, T_me_s_li, T_ra_s_li, T_us_s_li, T_po_s_li, T_of_s_li, T_wh_s_li, T_ki_s_li, T_am_s_li, T_nu_s_li, T_cs_s_me, T_rs_s_me, T_fi_s_me, T_li_s_me, T_me_s_me, T_ra_s_me, T_us_s_me, T_po_s_me, T_of_s_me, T_wh_s_me, T_ki_s_me, T_am_s_me, T_nu_s_me, T_cs_s_ra, T_rs_s_ra, T_fi_s_ra, T_li_s_ra, T_me_s_ra, T_ra_s_ra, T_us_s_ra, T_po_s_ra, T_of_s_ra, T_wh_s_ra, T_ki_s_ra, T_am_s_ra, T_nu_s_ra]
    show P_pa (va_up D.2.2.2.2.1 NP (P_mk co rs mm li me ra 0 0) a) = _ ∧ ∀ j, j < 36 → va_up D.2.2.2.2.2.2.2 NP (fun _ => 0) a j = _
    by_cases e : a = NP
    · subst e
      rw [va_up_self, va_up_self, P_pa_mk, tot_zero (T_po T) a NM (fun i hi => (h13 a i (Nat.le_refl _) hNP (by have := r4.1; omega)).2)]
      exact ⟨rfl, fun j hj => (h13 a j (Nat.le_refl _) hNP hj).2.symm⟩
    · rw [va_up_ne _ _ e, va_up_ne _ _ e]
      exact h11 a (by omega)
  · intro a k ha hk1 hk2
    simp only [T_cs_s_cs, T_rs_s_cs, T_fi_s_cs, T_li_s_cs, T_me_s_cs, T_ra_s_cs, T_us_s_cs, T_po_s_cs, T_of_s_cs, T_wh_s_cs, T_ki_s_cs, T_am_s_cs, T_nu_s_cs, T_cs_s_rs, T_rs_s_rs, T_fi_s_rs, T_li_s_rs, T_me_s_rs, T_ra_s_rs, T_us_s_rs, T_po_s_rs, T_of_s_rs, T_wh_s_rs, T_ki_s_rs, T_am_s_rs, T_nu_s_rs, T_cs_s_fi, T_rs_s_fi, T_fi_s_fi, T_li_s_fi, T_me_s_fi, T_ra_s_fi, T_us_s_fi, T_po_s_fi, T_of_s_fi, T_wh_s_fi, T_ki_s_fi, T_am_s_fi, T_nu_s_fi, T_cs_s_li, T_rs_s_li, T_fi_s_li, T_li_s_li, T_me_s_li, T_ra_s_li, T_us_s_li, T_po_s_li, T_of_s_li, T_wh_s_li, T_ki_s_li, T_am_s_li, T_nu_s_li, T_cs_s_me, T_rs_s_me, T_fi_s_me, T_li_s_me, T_me_s_me, T_ra_s_me, T_us_s_me, T_po_s_me, T_of_s_me, T_wh_s_me, T_ki_s_me, T_am_s_me, T_nu_s_me, T_cs_s_ra, T_rs_s_ra, T_fi_s_ra, T_li_s_ra, T_me_s_ra, T_ra_s_ra, T_us_s_ra, T_po_s_ra, T_of_s_ra, T_wh_s_ra, T_ki_s_ra, T_am_s_ra, T_nu_s_ra]
    by_cases e : a = NP
    · subst e
      exact (h13 a k (Nat.le_refl _) hNP hk2).2
    · exact h12 a k (by omega) hk1 hk2
  · intro a k ha1 ha2 hk
    simp only [T_cs_s_cs, T_rs_s_cs, T_fi_s_cs, T_li_s_cs, T_me_s_cs, T_ra_s_cs, T_us_s_cs, T_po_s_cs, T_of_s_cs, T_wh_s_cs, T_ki_s_cs, T_am_s_cs, T_nu_s_cs, T_cs_s_rs, T_rs_s_rs, T_fi_s_rs, T_li_s_rs, T_me_s_rs, T_ra_s_rs, T_us_s_rs, T_po_s_rs, T_of_s_rs, T_wh_s_rs, T_ki_s_rs, T_am_s_rs, T_nu_s_rs, T_cs_s_fi, T_rs_s_fi, T_fi_s_fi, T_li_s_fi, T_me_s_fi, T_ra_s_fi, T_us_s_fi, T_po_s_fi, T_of_s_fi, T_wh_s_fi, T_ki_s_fi, T_am_s_fi, T_nu_s_fi, T_cs_s_li, T_rs_s_li, T_fi_s_li, T_li_s_li, T_me_s_li, T_ra_s_li, T_us_s_li, T_po_s_li, T_of_s_li, T_wh_s_li, T_ki_s_li, T_am_s_li, T_nu_s_li, T_cs_s_me, T_rs_s_me, T_fi_s_me, T_li_s_me, T_me_s_me, T_ra_s_me, T_us_s_me, T_po_s_me, T_of_s_me, T_wh_s_me, T_ki_s_me, T_am_s_me, T_nu_s_me, T_cs_s_ra, T_rs_s_ra, T_fi_s_ra, T_li_s_ra, T_me_s_ra, T_ra_s_ra, T_us_s_ra, T_po_s_ra, T_of_s_ra, T_wh_s_ra, T_ki_s_ra, T_am_s_ra, T_nu_s_ra]
    exact h13 a k (by omega) ha2 hk
/-- part -/
theorem ag_part {G : pw_G} {L : List Nat} {F : Nat → va_E} {ar : AR} {pr er : Nat → Option Nat} {D : pw_D} {evf : Nat → ER} {c : MR} {T : TR} {NP NE NM : Nat} (h : LI G L F ar pr er D evf c T NP NE NM) (cf : CR) (tf : SR) (cb : CR) (tb : SR) (co rs : Int64) (mm li me ra : Int32) : M_cd (m_X5_part c T co rs mm li me ra).2.1 = (q_X4_part ar pr er cf tf cb tb co rs mm li me ra) ∧ ((((q_X4_part ar pr er cf tf cb tb co rs mm li me ra) = 1 ∨ (q_X4_part ar pr er cf tf cb tb co rs mm li me ra) = 2) ∧ LI G L F ar pr er D evf (m_X5_part c T co rs mm li me ra).2.1 (m_X5_part c T co rs mm li me ra).2.2 NP NE NM) ∨ ((q_X4_part ar pr er cf tf cb tb co rs mm li me ra) = 0 ∧ NP < 6 ∧ A_pc ar + 1 - 1 = (m_X5_part c T co rs mm li me ra).1 ∧ ∀ b u w q L2 F2, b ∉ L → pnP G (L ++ [b]) L2 (va_up F b (.inr (2, [.long 0, .long 0, .int 0, .int 0, .int 0, .int 0, .null, .null, .null, .int 0, .long 0]))) F2 b u w q (P_mk co rs mm li me ra 0 0) → ∃ D', LI G L2 F2 (A_mk (A_pc ar + 1) (A_ec ar) (A_mc ar)) (va_up pr (Int32.toNatClampNeg (A_pc ar)) (some b)) er D' evf (m_X5_part c T co rs mm li me ra).2.1 (m_X5_part c T co rs mm li me ra).2.2 (NP + 1) NE NM)) := by
  have hN : NP ≤ 6 := h.1.1.1
  obtain ⟨t1, t2, t3⟩ := part_T (T := T) (co := co) (rs := rs) (mm := mm) (li := li) (me := me) (ra := ra) h.1.1.2 hN
  rw [part_q (c := c) (T := T)]
  by_cases g : f0_X5_part c T co rs mm li me ra = 0
  · rw [if_pos g]
    obtain ⟨u1, u2⟩ := t1 g
    rw [u1, u2]
    exact ⟨M_cd_mk .., Or.inl ⟨Or.inl rfl, LI_mv h rfl rfl⟩⟩
  · rw [if_neg g, h.2.1.1]
    by_cases g6 : NP = 6
    · obtain ⟨u1, u2⟩ := t2 g g6
      rw [if_neg (show ¬ nI NP < 6 by rw [g6]; decide), u1, u2]
      exact ⟨M_cd_mk .., Or.inl ⟨Or.inr rfl, LI_mv h rfl rfl⟩⟩
    · have hlt : NP < 6 := by omega
      rw [t3 g g6, if_pos (show nI NP < 6 from nI_lt hlt (by decide)), nI_clamp (by omega)]
      refine ⟨M_cd_mk .., Or.inr ⟨rfl, hlt, rfl, fun b u w q L2 F2 hb hn => ?_⟩⟩
      have := LI_new h hlt g hb hn
      rw [h.2.1.1] at this
      exact ⟨_, this⟩

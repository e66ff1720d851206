/-! what a wrapper's answer says -/
theorem owI_d {G : pw_G} {oc : Nat} {f : Nat → Int64} {R z : Int32} {X1 X' : va_W} {L L' : List Nat} {F F' : Nat → va_E} {v : Option Value} (h : owI (ox_d R (some (.int z)) X1 L F) G oc f 2 (.inl v) X' L' F') : ∃ f' : Nat → Int64, v = some (.int R) ∧ X' = (oc, .inl (G.2.2.1, 1, .inr (.inl f'))) :: X1 ∧ L' = L ∧ F' = F ∧ (R = 0 → f' 0 = Int32.toInt64 z) := by
  obtain ⟨X2, f', hX, h⟩ := h
  rcases h with ⟨z', ⟨⟨hR, hz⟩, e1, e2, e3⟩, hv, hf⟩ | ⟨⟨hR, e1, e2, e3⟩, hv, hf⟩ | ⟨⟨hR, e1, e2, e3⟩, hv, hf⟩
  · subst e1 e2 e3
    cases hv
    cases hz
    refine ⟨f', by rw [hR], hX, rfl, rfl, fun _ => ?_⟩
    rw [hf]
    exact vpl_s
  · subst e1 e2 e3
    cases hv
    rcases hR with ⟨hR, -⟩ | ⟨-, hE⟩
    · exact ⟨f', by rw [hR], hX, rfl, rfl, fun q => absurd (hR.symm.trans q) (by decide)⟩
    · exact absurd hE (by decide)
  · subst e1 e2 e3
    cases hv
    rcases hR with ⟨-, hE⟩ | ⟨hR, -⟩
    · exact absurd hE (by decide)
    · exact ⟨f', by rw [hR], hX, rfl, rfl, fun q => absurd (hR.symm.trans q) (by decide)⟩
theorem owL_d {G : pw_G} {oc : Nat} {f : Nat → Int64} {R : Int32} {z : Int64} {X1 X' : va_W} {L L' : List Nat} {F F' : Nat → va_E} {v : Option Value} (h : owL (ox_d R (some (.long z)) X1 L F) G oc f 1 (.inl v) X' L' F') : ∃ (f' : Nat → Int64) (K : Int32), v = some (.int K) ∧ X' = (oc, .inl (G.2.2.1, 1, .inr (.inl f'))) :: X1 ∧ L' = L ∧ F' = F ∧ (R = 0 → K = 0 ∧ f' 0 = z) ∧ (R = 1 → K = 1) ∧ (R = 2 → K = 1) := by
  obtain ⟨X2, f', hX, h⟩ := h
  rcases h with ⟨z', ⟨⟨hR, hz⟩, e1, e2, e3⟩, hv, hf⟩ | ⟨⟨hR, e1, e2, e3⟩, hv, hf⟩ | ⟨⟨hR, e1, e2, e3⟩, hv, hf⟩
  · subst e1 e2 e3
    cases hv
    cases hz
    refine ⟨f', 0, rfl, hX, rfl, rfl, fun _ => ⟨rfl, ?_⟩, fun q => absurd (hR.symm.trans q) (by decide), fun q => absurd (hR.symm.trans q) (by decide)⟩
    rw [hf]
    exact vpl_s
  · subst e1 e2 e3
    cases hv
    rcases hR with ⟨hR, -⟩ | ⟨-, hE⟩
    · exact ⟨f', 1, rfl, hX, rfl, rfl, fun q => absurd (hR.symm.trans q) (by decide), fun _ => rfl, fun _ => rfl⟩
    · exact absurd hE (by decide)
  · subst e1 e2 e3
    cases hv
    rcases hR with ⟨-, hE⟩ | ⟨hR, -⟩
    · exact absurd hE (by decide)
    · exact ⟨f', 1, rfl, hX, rfl, rfl, fun q => absurd (hR.symm.trans q) (by decide), fun _ => rfl, fun _ => rfl⟩
theorem owI_m {G : pw_G} {oc : Nat} {f : Nat → Int64} {q : Int32} {X0 X' : va_W} {L L' : List Nat} {F F' : Nat → va_E} {made : pw_OX} {v : Option Value} (h : owI (oxM q X0 L F made) G oc f 2 (.inl v) X' L' F') : ∃ (X1 : va_W) (f' : Nat → Int64), X' = (oc, .inl (G.2.2.1, 1, .inr (.inl f'))) :: X1 ∧ ((q = 1 ∧ v = some (.int 1) ∧ X1 = X0 ∧ L' = L ∧ F' = F) ∨ (q = 2 ∧ v = some (.int 2) ∧ X1 = X0 ∧ L' = L ∧ F' = F) ∨ (q = 0 ∧ ((∃ z : Int32, made (.inl (some (.int z))) X1 L' F' ∧ v = some (.int 0) ∧ f' 0 = Int32.toInt64 z) ∨ (made (.inr nIAE) X1 L' F' ∧ v = some (.int 1)) ∨ (made (.inr nISE) X1 L' F' ∧ v = some (.int 2))))) := by
  obtain ⟨X2, f', hX, h⟩ := h
  refine ⟨X2, f', hX, ?_⟩
  rcases h with ⟨z, ho, hv, hf⟩ | ⟨ho, hv, hf⟩ | ⟨ho, hv, hf⟩
  · rcases ho with ⟨-, e, -⟩ | ⟨-, e, -⟩ | ⟨e, ho⟩
    · cases e
    · cases e
    · cases hv
      refine Or.inr (Or.inr ⟨e, Or.inl ⟨z, ho, rfl, ?_⟩⟩)
      rw [hf]
      exact vpl_s
  · cases hv
    rcases ho with ⟨e, -, e1, e2, e3⟩ | ⟨-, e, -⟩ | ⟨e, ho⟩
    · exact Or.inl ⟨e, rfl, e1, e2, e3⟩
    · exact absurd (Sum.inr.inj e) (by decide)
    · exact Or.inr (Or.inr ⟨e, Or.inr (Or.inl ⟨ho, rfl⟩)⟩)
  · cases hv
    rcases ho with ⟨-, e, -⟩ | ⟨e, -, e1, e2, e3⟩ | ⟨e, ho⟩
    · exact absurd (Sum.inr.inj e) (by decide)
    · exact Or.inr (Or.inl ⟨e, rfl, e1, e2, e3⟩)
    · exact Or.inr (Or.inr ⟨e, Or.inr (Or.inr ⟨ho, rfl⟩)⟩)

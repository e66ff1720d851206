/-! what a wrapper's answer says -/
theorem owI_d {G : pw_G} {oc : Nat} {f : Nat → Int64} {R z : Int32} {X1 X' : va_W} {L L' : List Nat} {F F' : Nat → va_E} {v : Option Value} (h : owI (ox_d R (some (.int z)) X1 L F) G oc f 2 (.inl v) X' L' F') : ∃ f' : Nat → Int64, v = some (.int R) ∧ X' = (oc, .inl (G.2.2.1, 1, .inr (.inl f'))) :: X1 ∧ L' = L ∧ F' = F ∧ (R = 0 → f' 0 = Int32.toInt64 z) := by
  obtain ⟨X2, f', hX, h⟩ := h
  rcases h with ⟨z', ⟨⟨hR, hz⟩, e1, e2, e3⟩, hv, hf⟩ | ⟨⟨hR, e1, e2, e3⟩, hv, hf⟩ | ⟨⟨hR, e1, e2, e3⟩, hv, hf⟩
  · subst e1 e2 e3
    cases hv
    cases hz
    refine ⟨f', by rw [hR], hX, rfl, rfl, fun _ => ?_⟩
    rw [hf]
    exact vpl_s
  · subst e1 e2 e3
    cases hv
    rcases hR with ⟨hR, -⟩ | ⟨-, hE⟩
    · exact ⟨f', by rw [hR], hX, rfl, rfl, fun q => absurd (hR.symm.trans q) (by decide)⟩
    · exact absurd hE (by decide)
  · subst e1 e2 e3
    cases hv
    rcases hR with ⟨-, hE⟩ | ⟨hR, -⟩
    · exact absurd hE (by decide)
    · exact ⟨f', by rw [hR], hX, rfl, rfl, fun q => absurd (hR.symm.trans q) (by decide)⟩
theorem owL_d {G : pw_G} {oc : Nat} {f : Nat → Int64} {R : Int32} {z : Int64} {X1 X' : va_W} {L L' : List Nat} {F F' : Nat → va_E} {v : Option Value} (h : owL (ox_d R (some (.long z)) X1 L F) G oc f 1 (.inl v) X' L' F') : ∃ (f' : Nat → Int64) (K : Int32), v = some (.int K) ∧ X' = (oc, .inl (G.2.2.1, 1, .inr (.inl f'))) :: X1 ∧ L' = L ∧ F' = F ∧ (R = 0 → K = 0 ∧ f' 0 = z) ∧ (R = 1 → K = 1) ∧ (R = 2 → K = 1) := by
  obtain ⟨X2, f', hX, h⟩ := h
  rcases h with ⟨z', ⟨⟨hR, hz⟩, e1, e2, e3⟩, hv, hf⟩ | ⟨⟨hR, e1, e2, e3⟩, hv, hf⟩ | ⟨⟨hR, e1, e2, e3⟩, hv, hf⟩
  · subst e1 e2 e3
    cases hv
    cases hz
    refine ⟨f', 0, rfl, hX, rfl, rfl, fun _ => ⟨rfl, ?_⟩, fun q => absurd (hR.symm.trans q) (by decide), fun q => absurd (hR.symm.trans q) (by decide)⟩
    rw [hf]
    exact vpl_s
  · subst e1 e2 e3
    cases hv
    rcases hR with ⟨hR, -⟩ | ⟨-, hE⟩
    · exact ⟨f', 1, rfl, hX, rfl, rfl, fun q => absurd (hR.symm.trans q) (by decide), fun _ => rfl, fun _ => rfl⟩
    · exact absurd hE (by decide)
  · subst e1 e2 e3
    cases hv
    rcases hR with ⟨-, hE⟩ | ⟨hR, -⟩
    · exact absurd hE (by decide)
    · exact ⟨f', 1, rfl, hX, rfl, rfl, fun q => absurd (hR.symm.trans q) (by decide), fun _ => rfl, fun _ => rfl⟩

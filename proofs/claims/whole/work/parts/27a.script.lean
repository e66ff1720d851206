/-! the law: rows that read the script -/
section SCR
variable {Z : pw_Z} {X : va_W} {L : List Nat} {F : Nat → va_E} {k n : Nat} {Q : State → Prop} {pc pc2 : Nat} {lv : List (Nat × Value)} {st : List Value} {cc : ByteArray} {nL : Nat} {own : String} {Ts : List Cond} {R0 : Room} {ret : Option FieldType}
/-- the script lies outside what the walk writes -/
def pw_SC (Z : pw_Z) (b N : Nat) (xs : Nat → Int32) : Prop := va_X b N xs (zs Z) (zH Z) ∧ b < (zH Z).size ∧ ¬ zA Z b
theorem pk_sld (C : pw_C Z cc nL own Ts R0 ret) {b N : Nat} {xs : Nat → Int32} (hX : pw_SC Z b N xs) {i : Int32} (hin : vp_in i N) (hdg : decode cc pc = .ok (.iaload, 1)) (h2 : pc + 1 = pc2) (kk : PW Z X L F k n Q pc2 lv (.int (xs i.toNatClampNeg) :: st)) : PW Z X L F k n Q pc lv (.int i :: .ref b :: st) := by
  subst h2
  exact fun H locs ls hP hD hS hl => va_sld C.1 C.2.1 hX.1 hX.2.1 hX.2.2 hS hin hdg (kk H locs ls hP hD hS hl)
theorem pk_slen (C : pw_C Z cc nL own Ts R0 ret) {b N : Nat} {xs : Nat → Int32} (hX : pw_SC Z b N xs) (hdg : decode cc pc = .ok (.arraylength, 1)) (h2 : pc + 1 = pc2) (kk : PW Z X L F k n Q pc2 lv (.int (Int32.ofNat N) :: st)) : PW Z X L F k n Q pc lv (.ref b :: st) := by
  subst h2
  exact fun H locs ls hP hD hS hl => va_slen C.1 C.2.1 hX.1 hX.2.1 hX.2.2 hS hdg (kk H locs ls hP hD hS hl)
end SCR

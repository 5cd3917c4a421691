def dlN (ld : Nat → Nat) (t : Nat) : Nat → Nat
  | 0 => 1
  | u + 1 => if dlN ld t u = 0 then 0 else if (ld t >>> u) &&& 1 = 0 then 1 else if (ld u >>> t) &&& 1 = 1 then 1 else 0
theorem dlN_le {ld : Nat → Nat} {t : Nat} : ∀ u, dlN ld t u ≤ 1
  | 0 => Nat.le_refl 1
  | u + 1 => by
    rw [dlN]
    split
    · exact Nat.zero_le _
    · split
      · exact Nat.le_refl 1
      · split
        · exact Nat.le_refl 1
        · exact Nat.zero_le _
def dlB (ld : Nat → Nat) (t : Nat) : Bool := decide (dlN ld t 8 = 1)
theorem dlB_b {ld : Nat → Nat} {t : Nat} : nI (dlN ld t 8) = bI (dlB ld t) := by
  have h := dlN_le (ld := ld) (t := t) 8
  unfold dlB
  rcases (show dlN ld t 8 = 0 ∨ dlN ld t 8 = 1 by omega) with e | e
  · rw [e]; rfl
  · rw [e]; rfl

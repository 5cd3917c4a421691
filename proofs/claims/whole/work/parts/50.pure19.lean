/-! lasting ones, cleared from all or gathered one by one -/
def lbN (d : Nat → Bool) : Nat → Nat
  | 0 => 0
  | t + 1 => lbN d t ||| (if d t then 1 <<< t else 0)
def pcN (d : Nat → Bool) (ld : Nat → Nat) : Nat → Nat
  | 0 => 0
  | t + 1 => pcN d ld t + (if d t && decide (ld t &&& ((1 <<< t) - 1) = 0) then 1 else 0)
def clN (d : Nat → Bool) : Nat → Nat
  | 0 => 255
  | t + 1 => if d t then clN d t else clr (clN d t) t
theorem clr_2 : ∀ k, k < 8 → ∀ a, a < 256 → clr (clr a k) k = clr a k := by decide +kernel
theorem dl_z {ld : Nat → Nat} {t u : Nat} (h : ibt (ld t) u = true) (h2 : ibt (ld u) t = false) : dlN ld t (u + 1) = 0 := by
  rw [dlN]
  have a1 := of_decide_eq_true h
  have a2 : ¬ (ld u >>> t) &&& 1 = 1 := of_decide_eq_false h2
  split
  · rfl
  · rw [if_neg (show ¬ (ld t >>> u) &&& 1 = 0 by omega)]
theorem dl_k {ld : Nat → Nat} {t u : Nat} (h : ibt (ld t) u = false ∨ ibt (ld u) t = true) : dlN ld t (u + 1) = dlN ld t u := by
  have hle := dlN_le (ld := ld) (t := t) u
  have hb : (ld t >>> u) &&& 1 ≤ 1 := Nat.and_le_right
  rw [dlN]
  split
  · omega
  · rcases h with h | h
    · have a1 : ¬ (ld t >>> u) &&& 1 = 1 := of_decide_eq_false h
      rw [if_pos (by omega)]; omega
    · have a1 := of_decide_eq_true h
      split
      · omega
      · first | omega | (rw [if_pos a1]; omega)
theorem lsI_d {ld : Nat → Nat} {f a : Nat} (hf : f < 8) (ha : a < 256) : ∀ k, lsI ld f a k = if dlN ld f k = 0 then clr a f else a
  | 0 => by
    show a = if (1 : Nat) = 0 then clr a f else a
    rw [if_neg (by decide)]
  | k + 1 => by
    have ih := lsI_d (ld := ld) hf ha k
    by_cases h1 : ibt (ld f) k = true
    · cases h2 : ibt (ld k) f with
      | false =>
        rw [← lsI_y h1 h2, ih, dl_z h1 h2, if_pos rfl]
        split
        · exact clr_2 f hf a ha
        · rfl
      | true => rw [← lsI_n (Or.inr h2), ih, dl_k (Or.inr h2)]
    · have h1' : ibt (ld f) k = false := Bool.eq_false_iff.mpr h1
      rw [← lsI_n (Or.inl h1'), ih, dl_k (Or.inl h1')]
theorem lsO_cl {ld : Nat → Nat} : ∀ f, f ≤ 8 → lsO ld f = clN (dlB ld) f
  | 0, _ => rfl
  | f + 1, hf => by
    have hle := dlN_le (ld := ld) (t := f) 8
    rw [lsO, lsI_d (by omega) (lsO_lt f), lsO_cl f (by omega), clN]
    unfold dlB
    by_cases h : dlN ld f 8 = 0
    · rw [if_pos h, if_neg (by simp [h])]
    · rw [if_neg h, if_pos (by simp; omega)]
theorem cl_lb (d : Nat → Bool) : clN d 8 = lbN d 8 := by
  simp only [clN, lbN]
  generalize d 0 = d0
  generalize d 1 = d1
  generalize d 2 = d2
  generalize d 3 = d3
  generalize d 4 = d4
  generalize d 5 = d5
  generalize d 6 = d6
  generalize d 7 = d7
  revert d0 d1 d2 d3 d4 d5 d6 d7
  decide +kernel
theorem lb_bit (d : Nat → Bool) : ∀ k, k < 8 → ibt (lbN d 8) k = d k := by
  simp only [lbN]
  intro k hk
  rcases (show k = 0 ∨ k = 1 ∨ k = 2 ∨ k = 3 ∨ k = 4 ∨ k = 5 ∨ k = 6 ∨ k = 7 by omega) with rfl | rfl | rfl | rfl | rfl | rfl | rfl | rfl <;> (generalize d 0 = d0; generalize d 1 = d1; generalize d 2 = d2; generalize d 3 = d3; generalize d 4 = d4; generalize d 5 = d5; generalize d 6 = d6; generalize d 7 = d7; revert d0 d1 d2 d3 d4 d5 d6 d7; decide +kernel)
theorem cP_pc {ld : Nat → Nat} : ∀ k, k ≤ 8 → cP ld (lsO ld 8) k = pcN (dlB ld) ld k
  | 0, _ => rfl
  | k + 1, hk => by
    rw [cP, pcN, cP_pc k (by omega), lsO_cl 8 (Nat.le_refl 8), cl_lb, lb_bit _ k (by omega)]
    split <;> rfl

theorem kp_y {od w : Nat → Nat} {h t : Nat} (h1 : od (8 * t + t) = lowN w h) : kpO od (wh w h 1) t ||| (1 <<< t) = kpO od (wh w h 1) (t + 1) := kpO_y (by rw [Nat.mul_comm t 8, h1, lowN_wh])
theorem kp_n {od w : Nat → Nat} {h t : Nat} (h1 : ¬ od (8 * t + t) = lowN w h) : kpO od (wh w h 1) t ||| 0 = kpO od (wh w h 1) (t + 1) := by
  rw [Nat.or_zero]
  exact kpO_n (by rw [Nat.mul_comm t 8, ← lowN_wh]; exact h1)

theorem nu_self {g : Nat → Nat} {k : Nat} : nu g k (g k ||| 0) = g := by
  funext j
  by_cases e : j = k
  · subst e; rw [nu_s, Nat.or_zero]
  · rw [nu_n e]
theorem ld_y {od : Nat → Nat} {a t u : Nat} (h : a = (1 <<< t) ||| nxO od t u) (h0 : 0 < od (8 * t + u)) : a ||| (1 <<< u) = (1 <<< t) ||| nxO od t (u + 1) := by
  rw [h, Nat.or_assoc, nxO, if_pos (by rw [Nat.mul_comm t 8]; exact h0)]
theorem ld_n {od : Nat → Nat} {a t u : Nat} (h : a = (1 <<< t) ||| nxO od t u) (h0 : od (8 * t + u) = 0) : a ||| 0 = (1 <<< t) ||| nxO od t (u + 1) := by
  rw [h, Nat.or_zero, nxO, if_neg (by rw [Nat.mul_comm t 8]; omega)]
theorem ld_s {a : Nat → Nat} {od : Nat → Nat} {t : Nat} (h : ∀ j, j < t → a j = r0 od j) (h2 : a t = (1 <<< t) ||| nxO od t 8) : ∀ j, j < t + 1 → a j = r0 od j := fun j hj => by
  rcases Nat.lt_or_ge j t with q | q
  · exact h j q
  · rw [show j = t by omega]; exact h2
theorem rI_y {b k : Nat} {re : Nat → Nat} (h : (rI b re k k >>> b) &&& 1 = 1) : nu (rI b re k) k (rI b re k k ||| rI b re k b) = rI b re (k + 1) := by
  conv => rhs; rw [rI]
  rw [if_pos (show ibt (rI b re k k) b = true from decide_eq_true h)]
theorem rI_n {b k : Nat} {re : Nat → Nat} (h : ¬ (rI b re k k >>> b) &&& 1 = 1) : nu (rI b re k) k (rI b re k k ||| 0) = rI b re (k + 1) := by
  conv => rhs; rw [rI]
  rw [if_neg (show ¬ ibt (rI b re k k) b = true from fun q => h (of_decide_eq_true q)), nu_self]

theorem nxO_y {od : Nat → Nat} {fr k : Nat} (h : 0 < od (fr * 8 + k)) : nxO od fr k ||| (1 <<< k) = nxO od fr (k + 1) := by rw [nxO, if_pos h]
theorem nxO_n {od : Nat → Nat} {fr k : Nat} (h : od (fr * 8 + k) = 0) : nxO od fr k = nxO od fr (k + 1) := by rw [nxO, if_neg (by omega)]
theorem kpO_y {od : Nat → Nat} {W1 k : Nat} (h : od (k * 8 + k) = W1) : kpO od W1 k ||| (1 <<< k) = kpO od W1 (k + 1) := by rw [kpO, if_pos h]
theorem kpO_n {od : Nat → Nat} {W1 k : Nat} (h : ¬ od (k * 8 + k) = W1) : kpO od W1 k = kpO od W1 (k + 1) := by rw [kpO, if_neg h]

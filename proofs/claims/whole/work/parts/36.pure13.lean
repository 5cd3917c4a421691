def mT (w : Nat → Nat) (slip kd : Nat) (num : Nat → Nat) (h bk b R i : Nat) : Nat := Pk (odk w slip bk (i / 8) b) h R * (if chF num slip kd (lotOf h R) = i % 8 then 1 else 0)
def mS (w : Nat → Nat) (slip kd : Nat) (num : Nat → Nat) (h bk b R i : Nat) : Nat := sm R (fun r => mT w slip kd num h bk b r i)
theorem mS_end {w : Nat → Nat} {slip kd : Nat} {num : Nat → Nat} {h bk b i : Nat} (hh : h ≤ 4) : mS w slip kd num h bk b (6 ^ h) i = rwF w slip kd num h bk (i / 8) b (i % 8) := (rwF_sum hh).symm
theorem mS_s {w : Nat → Nat} {slip kd : Nat} {num : Nat → Nat} {h bk b R f p : Nat} {st : Nat → Nat} (hst : ∀ i, i < 64 → st i = mS w slip kd num h bk b R i + (if i / 8 < f then mT w slip kd num h bk b R i else 0)) (hf : f < 8) (hp : p = Pk (odk w slip bk f b) h R) : ∀ i, i < 64 → nu st (8 * f + chF num slip kd (lotOf h R)) (st (8 * f + chF num slip kd (lotOf h R)) + p) i = mS w slip kd num h bk b R i + (if i / 8 < f + 1 then mT w slip kd num h bk b R i else 0) := fun i hi => by
  have hc := chF_lt (num := num) (slip := slip) (kd := kd) (lt := lotOf h R)
  by_cases e : i = 8 * f + chF num slip kd (lotOf h R)
  · have e1 : i / 8 = f := by omega
    have e2 : i % 8 = chF num slip kd (lotOf h R) := by omega
    rw [← e, nu_s, hst i hi, if_neg (by omega), if_pos (by omega), Nat.add_zero, hp]
    unfold mT
    rw [e1, e2, if_pos rfl, Nat.mul_one]
  · rw [nu_n e, hst i hi]
    by_cases q : i / 8 = f
    · rw [if_neg (by omega), if_pos (by omega)]
      unfold mT
      rw [if_neg (by omega), Nat.mul_zero]
    · by_cases q2 : i / 8 < f
      · rw [if_pos q2, if_pos (by omega)]
      · rw [if_neg q2, if_neg (by omega)]
theorem i_dec (x : Int32) : x + (-1) = x - nI 1 := by rw [Int32.sub_eq_add_neg]; rfl
theorem dec_pos {j : Nat} (h : ¬ nI j - nI 1 < 0) : ∃ i, j = i + 1 := by
  cases j with
  | zero => exact absurd (show nI 0 - nI 1 < 0 by decide) h
  | succ i => exact ⟨i, rfl⟩
theorem dec_zero {j : Nat} (h : nI j - nI 1 < 0) (hj : j < 2 ^ 31) : 0 = j := by
  cases j with
  | zero => rfl
  | succ i =>
    rw [show nI (i + 1) - nI 1 = nI i from nI_pred i] at h
    exact absurd h (nI_pos (by omega))
theorem Pd_b {w : Nat → Nat} {slip bk f b i : Nat} {row : Nat → Nat} (h : i < b) : Pd (odk w slip bk f b) row i * odS w slip bk (row i) = Pd (odk w slip bk f b) row (i + 1) := by rw [Pd, odk, if_pos h]
theorem Pd_f {w : Nat → Nat} {slip bk f b i : Nat} {row : Nat → Nat} (h : b ≤ i) : Pd (odk w slip bk f b) row i * odS w slip f (row i) = Pd (odk w slip bk f b) row (i + 1) := by rw [Pd, odk, if_neg (by omega)]
theorem lt6_nu {a : Nat → Nat} {k x : Nat} (h : ∀ j, j < 6 → a j < 6) (hx : x < 6) : ∀ j, j < 6 → nu a k x j < 6 := fun j hj => by
  by_cases e : j = k
  · subst e; rw [nu_s]; exact hx
  · rw [nu_n e]; exact h j hj
theorem dg_s {h R j lf : Nat} {a : Nat → Nat} (hd : ∀ x, x < j + 1 → dig h R x = dig (j + 1) lf x) (hdn : ∀ x, j + 1 ≤ x → x < h → a x = dig h R x) : ∀ x, j ≤ x → x < h → nu a j (lf % 6) x = dig h R x := fun x h1 h2 => by
  by_cases e : x = j
  · subst e; rw [nu_s, hd x (by omega), dig_t]
  · rw [nu_n e]; exact hdn x (by omega) h2
theorem pow6 {h : Nat} (hh : h ≤ 4) : 6 ^ h ≤ 1296 := Nat.pow_le_pow_right (n := 6) (by decide) hh

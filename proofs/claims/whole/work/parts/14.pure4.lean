/-! what is behind a lot -/
theorem tb_LZ : ∀ lt, lt < 210 → LZ lt ≤ 4 := by decide +kernel
theorem tb_sh : ∀ lt, lt < 210 → ∀ t, t < 8 → shw (LC lt) t 3 ≤ LZ lt := by decide +kernel
theorem fT_le : ∀ j, j < 6 → fT j ≤ 210 := by decide +kernel
def chF (num : Nat → Nat) (slip kd lt : Nat) : Nat := tk (lkC num slip (LC lt) (LZ lt)) kd (fun t => decide (shw (LC lt) t 3 = LZ lt))
theorem chF_lt {num : Nat → Nat} {slip kd lt : Nat} : chF num slip kd lt < 8 := tk_lt
/-- choices are as they must be, where they are known -/
def chOk (num : Nat → Nat) (slip kd : Nat) (fch : Nat → Int32) : Prop := ∀ j, j < 210 → fch j = -1 ∨ fch j = nI (chF num slip kd j)
theorem chOk_0 {num : Nat → Nat} {slip kd : Nat} : chOk num slip kd (fun _ => -1) := fun _ _ => Or.inl rfl
theorem chOk_u {num : Nat → Nat} {slip kd lt : Nat} {fch : Nat → Int32} (h : chOk num slip kd fch) : chOk num slip kd (upd fch lt (nI (chF num slip kd lt))) := fun j hj => by
  by_cases e : j = lt
  · subst e; exact Or.inr pk_us
  · rw [pk_un e]; exact h j hj
def szL (lt : Nat) : Nat := fi (fun k => decide (lt < fT (k + 1))) 4 0
theorem szL_le (lt : Nat) : szL lt ≤ 4 := by have := fi_go (p := fun k => decide (lt < fT (k + 1))) 4 0; unfold szL; omega
theorem szL_hit {lt k : Nat} (hk : k < 4) (h : ∀ j, j < k → (fun k => decide (lt < fT (k + 1))) j = false) (h2 : lt < fT (k + 1)) : szL lt = k := fi_hit hk h (decide_eq_true h2)
theorem szL_end {lt k : Nat} (hk : k = 4) (h : ∀ j, j < k → (fun k => decide (lt < fT (k + 1))) j = false) : szL lt = k := by subst hk; exact fi_none h
theorem nh_s {p : Nat → Bool} {k : Nat} (h : ∀ j, j < k → p j = false) (h2 : p k = false) : ∀ j, j < k + 1 → p j = false := fun j hj => by
  rcases Nat.lt_or_ge j k with q | q
  · exact h j q
  · rw [show j = k by omega]; exact h2
def smI (lt : Nat) : Nat → Nat
  | 0 => lt
  | k + 1 => SM (smI lt k)
theorem smI_lt {lt : Nat} (h : lt < 210) : ∀ k, smI lt k < 210
  | 0 => h
  | k + 1 => Nat.lt_trans (tb_SM _ (smI_lt h k)) (by decide)
def tch (num : Nat → Nat) (slip kd t lt : Nat) : Bool := decide (shw (LC lt) t 3 = LZ lt) && decide (chF num slip kd lt = t)
def ftL (num : Nat → Nat) (slip kd t : Nat) : Nat := fi (tch num slip kd t) 209 1
def ftI (num : Nat → Nat) (slip kd t : Nat) : Int32 := if ftL num slip kd t < 210 then nI (ftL num slip kd t) else -6
theorem fi_yes {p : Nat → Bool} {r k : Nat} (h0 : 0 < r) (h : p k = true) : fi p r k = k := by
  rw [show r = (r - 1) + 1 by omega, fi, if_pos h]
theorem fi_no {p : Nat → Bool} {r k : Nat} (h0 : 0 < r) (h : p k = false) : fi p r k = fi p (r - 1) (k + 1) := by
  rw [show r = (r - 1) + 1 by omega, fi, if_neg (by rw [h]; decide), Nat.add_sub_cancel]

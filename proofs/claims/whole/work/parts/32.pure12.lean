theorem ffI_neg {cd : Nat → Nat} {cnt : Nat} (h : ffI cd cnt < 0) (hc : cnt < 2 ^ 31) : ffI cd cnt = -6 := by
  unfold ffI at h ⊢
  by_cases h1 : ffl cd cnt < cnt
  · rw [if_pos h1] at h; exact absurd h (nI_pos (by omega))
  · rw [if_neg h1] at h ⊢
    by_cases h2 : cnt % 6 = 5
    · rw [if_pos h2]
    · rw [if_neg h2] at h; exact absurd h (nI_pos hc)
def uHs (hs : Nat → Nat) (al : Nat) (p0 p1 : Int32) : Nat → Nat := if okH al p0 p1 then nu hs al (2 * tN p0 + tN p1) else hs
theorem alM_b {rw1 : Nat → Nat} {rm t : Nat} : nI (alN rw1 t rm) = bI (alM rw1 rm t) := by
  have h := alN_le (rw' := rw1) (t := t) rm
  unfold alM
  rcases (show alN rw1 t rm = 0 ∨ alN rw1 t rm = 1 by omega) with e | e
  · rw [e]; rfl
  · rw [e]; rfl
theorem tk_step {lk : Nat → Nat} {kd k x : Nat} (h1 : lk (bst lk kd k) < 2 ^ 63) (h2 : lk k < 2 ^ 63) (h : (x = k ∧ (lN (lk (bst lk kd k)) < lN (lk k) ∨ (lN (lk k) = lN (lk (bst lk kd k)) ∧ kd = 2 ∧ on k < on (bst lk kd k)))) ∨ (x = bst lk kd k ∧ ¬ lN (lk (bst lk kd k)) < lN (lk k) ∧ (¬ lN (lk k) = lN (lk (bst lk kd k)) ∨ ¬ kd = 2 ∨ ¬ on k < on (bst lk kd k)))) : x = bst lk kd (k + 1) := by
  rcases h with ⟨rfl, h⟩ | ⟨rfl, h, h'⟩
  · refine bst_y ?_
    rcases h with h | ⟨h, h3⟩
    · exact Or.inl ((pk_lLT h1 h2).mp h)
    · exact Or.inr ⟨(pk_lEQ h2 h1).mp h, h3⟩
  · refine bst_n (fun q => h ((pk_lLT h1 h2).mpr q)) ?_
    rcases h' with h' | h'
    · exact Or.inl (fun q => h' (by rw [q]))
    · exact Or.inr h'
theorem tk_step2 {lk : Nat → Nat} {kd k x : Nat} {y : Nat} (h1 : lk (bst lk kd k) < 2 ^ 63) (h2 : lk k < 2 ^ 63) (h : (y = lk k ∧ (lN (lk (bst lk kd k)) < lN (lk k) ∨ (lN (lk k) = lN (lk (bst lk kd k)) ∧ kd = 2 ∧ on k < on (bst lk kd k)))) ∨ (y = lk (bst lk kd k) ∧ ¬ lN (lk (bst lk kd k)) < lN (lk k) ∧ (¬ lN (lk k) = lN (lk (bst lk kd k)) ∨ ¬ kd = 2 ∨ ¬ on k < on (bst lk kd k)))) : y = lk (bst lk kd (k + 1)) := by
  rcases h with ⟨rfl, h⟩ | ⟨rfl, h⟩
  · rw [← tk_step h1 h2 (Or.inl ⟨rfl, h⟩)]
  · rw [← tk_step h1 h2 (Or.inr ⟨rfl, h⟩)]
def lkR (num : Nat → Nat) (slip : Nat) (rw1 : Nat → Nat) (rm t : Nat) : Nat := lkM num slip rw1 t rm
theorem tkM_eq {num : Nat → Nat} {slip kd : Nat} {rw1 : Nat → Nat} {rm : Nat} : tkM num slip kd rw1 rm = tk (lkR num slip rw1 rm) kd (alM rw1 rm) := rfl

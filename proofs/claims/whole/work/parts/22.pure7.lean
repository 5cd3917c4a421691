theorem sw_out {x : Int32} {N : Nat} (h : ∀ j, j ≤ N → ¬ x = nI j) : x.toInt < 0 ∨ (N : Int) < x.toInt := by
  rcases (show x.toInt < 0 ∨ 0 ≤ x.toInt by omega) with q | q
  · exact Or.inl q
  · rcases (show (N : Int) < x.toInt ∨ x.toInt ≤ N by omega) with q2 | q2
    · exact Or.inr q2
    · exfalso
      have h0 : ¬ x < 0 := by
        rw [Int32.lt_iff_toInt_lt]
        have : (0 : Int32).toInt = 0 := rfl
        omega
      obtain ⟨j, hj, rfl⟩ := nI_of h0
      rw [nI_toInt hj] at q2
      exact h j (by omega) rfl
theorem lk8_lt {lk : Nat → Nat} (h : ∀ t, t < 8 → lk t < 2 ^ 59) : sm 8 lk < 2 ^ 63 := by
  have h0 := h 0 (by decide); have h1 := h 1 (by decide); have h2 := h 2 (by decide); have h3 := h 3 (by decide)
  have h4 := h 4 (by decide); have h5 := h 5 (by decide); have h6 := h 6 (by decide); have h7 := h 7 (by decide)
  show 0 + lk 0 + lk 1 + lk 2 + lk 3 + lk 4 + lk 5 + lk 6 + lk 7 < 2 ^ 63
  omega
theorem lkC_lt2 {num tn : Nat → Nat} {slip al t : Nat} (hn : num t < 10) (hs : slip ≤ 12) (ha : al ≤ 6) (hsh : shw tn t 3 ≤ al) : lkC num slip tn al t < 2 ^ 59 := by
  unfold lkC
  have h1 : pw (12 - slip) (shw tn t 3) ≤ pw 12 (shw tn t 3) := pw_le (by omega) _
  have h2 : pw slip (al - shw tn t 3) ≤ pw 12 (al - shw tn t 3) := pw_le hs _
  have h3 : pw 12 (shw tn t 3) * pw 12 (al - shw tn t 3) ≤ pw 12 6 := by
    rw [← pw_add]; exact pw_mono (by decide) (by omega)
  have h4 : pw (12 - slip) (shw tn t 3) * pw slip (al - shw tn t 3) ≤ pw 12 6 := Nat.le_trans (Nat.mul_le_mul h1 h2) h3
  have h5 : num t * (pw (12 - slip) (shw tn t 3) * pw slip (al - shw tn t 3)) ≤ 9 * pw 12 6 := Nat.mul_le_mul (by omega) h4
  rw [Nat.mul_assoc]
  exact Nat.lt_of_le_of_lt h5 (by decide)
theorem told_o {x : Int32} (h0 : ¬ x = nI 10) (h1 : ¬ x = nI 11) (h2 : ¬ x = nI 12) : ¬ inR x 10 12 = true := fun h => by
  obtain ⟨T, a, b, rfl⟩ := inR_t (by decide) (by decide) h
  rcases (show T = 10 ∨ T = 11 ∨ T = 12 by omega) with rfl | rfl | rfl
  · exact h0 rfl
  · exact h1 rfl
  · exact h2 rfl
section SETS
variable {slip h kd V : Nat} {p1 : Int32} {C : Prop}
theorem set_0 (c : inR (nI V) 0 5 = true) (hV : V < 2 ^ 31) (hc : C) : nI slip = aSet slip h kd (nI 0) (nI V) ∧ V = uSl slip (nI 0) (nI V) ∧ h = uHr h (nI 0) (nI V) ∧ kd = uKd kd (nI 0) (nI V) ∧ C := by
  refine ⟨?_, ?_, ?_, ?_, hc⟩
  · rw [aSet, if_pos rfl, if_pos c]
  · rw [uSl, if_pos ⟨rfl, c⟩, tN_n hV]
  · rw [uHr, if_neg (fun q => absurd q.1 (by decide))]
  · rw [uKd, if_neg (fun q => absurd q.1 (by decide))]
theorem set_0f (c : inR p1 0 5 = false) (hc : C) : -2 = aSet slip h kd (nI 0) p1 ∧ slip = uSl slip (nI 0) p1 ∧ h = uHr h (nI 0) p1 ∧ kd = uKd kd (nI 0) p1 ∧ C := by
  refine ⟨?_, ?_, ?_, ?_, hc⟩
  · rw [aSet, if_pos rfl, c]; rfl
  · rw [uSl, if_neg (fun q => absurd q.2 (by rw [c]; decide))]
  · rw [uHr, if_neg (fun q => absurd q.1 (by decide))]
  · rw [uKd, if_neg (fun q => absurd q.1 (by decide))]
theorem set_1 (c : inR (nI V) 1 4 = true) (hV : V < 2 ^ 31) (hc : C) : nI h = aSet slip h kd (nI 1) (nI V) ∧ slip = uSl slip (nI 1) (nI V) ∧ V = uHr h (nI 1) (nI V) ∧ kd = uKd kd (nI 1) (nI V) ∧ C := by
  refine ⟨?_, ?_, ?_, ?_, hc⟩
  · rw [aSet, if_neg (by decide), if_pos rfl, if_pos c]
  · rw [uSl, if_neg (fun q => absurd q.1 (by decide))]
  · rw [uHr, if_pos ⟨rfl, c⟩, tN_n hV]
  · rw [uKd, if_neg (fun q => absurd q.1 (by decide))]
theorem set_1f (c : inR p1 1 4 = false) (hc : C) : -2 = aSet slip h kd (nI 1) p1 ∧ slip = uSl slip (nI 1) p1 ∧ h = uHr h (nI 1) p1 ∧ kd = uKd kd (nI 1) p1 ∧ C := by
  refine ⟨?_, ?_, ?_, ?_, hc⟩
  · rw [aSet, if_neg (by decide), if_pos rfl, c]; rfl
  · rw [uSl, if_neg (fun q => absurd q.1 (by decide))]
  · rw [uHr, if_neg (fun q => absurd q.2 (by rw [c]; decide))]
  · rw [uKd, if_neg (fun q => absurd q.1 (by decide))]
theorem set_2 (c : inR (nI V) 0 2 = true) (hV : V < 2 ^ 31) (hc : C) : nI kd = aSet slip h kd (nI 2) (nI V) ∧ slip = uSl slip (nI 2) (nI V) ∧ h = uHr h (nI 2) (nI V) ∧ V = uKd kd (nI 2) (nI V) ∧ C := by
  refine ⟨?_, ?_, ?_, ?_, hc⟩
  · rw [aSet, if_neg (by decide), if_neg (by decide), if_pos rfl, if_pos c]
  · rw [uSl, if_neg (fun q => absurd q.1 (by decide))]
  · rw [uHr, if_neg (fun q => absurd q.1 (by decide))]
  · rw [uKd, if_pos ⟨rfl, c⟩, tN_n hV]
theorem set_2f (c : inR p1 0 2 = false) (hc : C) : -2 = aSet slip h kd (nI 2) p1 ∧ slip = uSl slip (nI 2) p1 ∧ h = uHr h (nI 2) p1 ∧ kd = uKd kd (nI 2) p1 ∧ C := by
  refine ⟨?_, ?_, ?_, ?_, hc⟩
  · rw [aSet, if_neg (by decide), if_neg (by decide), if_pos rfl, c]; rfl
  · rw [uSl, if_neg (fun q => absurd q.1 (by decide))]
  · rw [uHr, if_neg (fun q => absurd q.1 (by decide))]
  · rw [uKd, if_neg (fun q => absurd q.2 (by rw [c]; decide))]
theorem set_o {p0 : Int32} (s0 : ¬ p0 = nI 0) (s1 : ¬ p0 = nI 1) (s2 : ¬ p0 = nI 2) (hc : C) : -2 = aSet slip h kd p0 p1 ∧ slip = uSl slip p0 p1 ∧ h = uHr h p0 p1 ∧ kd = uKd kd p0 p1 ∧ C := by
  refine ⟨?_, ?_, ?_, ?_, hc⟩
  · rw [aSet, if_neg s0, if_neg s1, if_neg s2]
  · rw [uSl, if_neg (fun q => s0 q.1)]
  · rw [uHr, if_neg (fun q => s1 q.1)]
  · rw [uKd, if_neg (fun q => s2 q.1)]
end SETS

theorem oF_wh {w : Nat → Nat} {slip kd : Nat} {num : Nat → Nat} {h fr k m f : Nat} (hh : h ≤ 4) (hs : slip ≤ 12) (hf : fr < 8) : oF (fwd (stp w slip kd num h) fr k) m f 8 ≤ wh w h k := by
  refine Nat.le_trans (oF_le 8) ?_
  rw [fwd_tot (stp_row (w := w) (kd := kd) (num := num) hh hs) hf k]
  unfold wh
  rw [Nat.mul_one, pw_pw]
  exact Nat.le_refl _
theorem lv_ch {ls : Array Slot} {nL : Nat} {l1 l2 : List (Nat × Value)} (h : lv_has ls nL l1) (k : Nat) {i : Nat} {v v2 : Value} (hk : l1[k]? = some (i, v)) (e : v = v2) (hl : l1.set k (i, v2) = l2) : lv_has ls nL l2 := by
  subst hl
  subst e
  refine ⟨h.1, h.2.1, fun q hq => ?_⟩
  rcases List.mem_or_eq_of_mem_set hq with h1 | h1
  · exact h.2.2 q h1
  · rw [h1]; exact lv_at h k hk

theorem lowN_wh (w : Nat → Nat) (h : Nat) : lowN w h = wh w h 1 := by unfold lowN wh; rw [Nat.mul_one]
theorem aLv_1 {X : Bool} {v W : Nat} {p : Int32} : aLv (rfo false X) v W p = -1000000000000000001 := by cases X <;> rfl
theorem aLv_2 {v W : Nat} {p : Int32} : aLv (rfo true false) v W p = -1000000000000000002 := rfl
theorem aLv_3 {v W : Nat} {p : Int32} : aLv (-3) v W p = -1000000000000000003 := rfl
theorem aLv_0 {v W : Nat} {p : Int32} : aLv (rfo true true) v W p = lN (lwst v W (tN p)) := rfl
theorem rwF_b0 {w : Nat → Nat} {slip kd : Nat} {num : Nat → Nat} {h bk bk2 fr t : Nat} (hh : h ≤ 4) : rwF w slip kd num h bk fr 0 t = rwF w slip kd num h bk2 fr 0 t := by
  rw [rwF_sum hh, rwF_sum hh]
  have e : odk w slip bk fr 0 = odk w slip bk2 fr 0 := by
    funext k
    unfold odk
    rw [if_neg (Nat.not_lt_zero k), if_neg (Nat.not_lt_zero k)]
  rw [e]
theorem at8 {g : Nat → Nat → Nat} {u t : Nat} (ht : t < 8) : g ((8 * u + t) / 8) ((8 * u + t) % 8) = g u t := by
  rw [show (8 * u + t) / 8 = u by omega, show (8 * u + t) % 8 = t by omega]

theorem rfLv1 {i : Bool} {h : Nat} {p : Int32} : rfL false i h p = -1 := by
  unfold rfL
  rw [if_neg (fun q => absurd (rfo_0.mp q).1 (by decide))]
  rfl
theorem rfLv2 {i : Bool} {h : Nat} {p : Int32} (hx : (i && inR p 1 4) = false) : rfL true i h p = -2 := by
  unfold rfL
  rw [hx, if_neg (by decide)]
  rfl
theorem rfLv3 {i : Bool} {h : Nat} {p : Int32} (hx : (i && inR p 1 4) = true) (h8 : ¬ h * tN p ≤ 8) : rfL true i h p = -3 := by
  unfold rfL
  rw [hx, if_pos (show rfo true true = 0 from rfl), if_neg h8]
theorem rfLv0 {i : Bool} {h : Nat} {p : Int32} (hx : (i && inR p 1 4) = true) (h8 : h * tN p ≤ 8) : rfL true i h p = 0 := by
  unfold rfL
  rw [hx, if_pos (show rfo true true = 0 from rfl), if_pos h8]
theorem gB_max {g : Nat → Nat} : ∀ k, ∀ j, j < k → g j ≤ g (gB g k)
  | 0, j, h => absurd h (Nat.not_lt_zero j)
  | k + 1, j, h => by
    rw [gB]
    rcases Nat.lt_or_ge j k with q | q
    · have := gB_max (g := g) k j q
      split <;> omega
    · have e : j = k := by omega
      subst e
      split <;> omega
theorem sm0_iff {g : Nat → Nat} : sm 8 g = 0 ↔ g (gB g 8) = 0 := by
  constructor
  · intro h
    have := sm_part (f := g) (n := 8) (gB_lt (g := g) 8 (by decide))
    omega
  · intro h
    have hm := gB_max (g := g) 8
    have h0 := hm 0 (by decide); have h1 := hm 1 (by decide); have h2 := hm 2 (by decide); have h3 := hm 3 (by decide)
    have h4 := hm 4 (by decide); have h5 := hm 5 (by decide); have h6 := hm 6 (by decide); have h7 := hm 7 (by decide)
    show 0 + g 0 + g 1 + g 2 + g 3 + g 4 + g 5 + g 6 + g 7 = 0
    omega
theorem nI_nn {V j : Nat} (hV : V < 2 ^ 31) (hj : j < 2 ^ 31) (h : V ≠ j) : ¬ nI V = nI j := fun q => h ((nI_eq hV hj).mp q)

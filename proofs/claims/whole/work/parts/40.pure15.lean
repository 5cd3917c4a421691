theorem rfLf1 {i : Bool} {h : Nat} {p q : Int32} {v W : Nat} : aLv (rfL false i h p) v W q = -1000000000000000001 := by
  unfold rfL
  rw [if_neg (fun q => absurd (rfo_0.mp q).1 (by decide)), aLv_1]
theorem rfLf2 {i : Bool} {h : Nat} {p q : Int32} {v W : Nat} (hx : (i && inR p 1 4) = false) : aLv (rfL true i h p) v W q = -1000000000000000002 := by
  unfold rfL
  rw [hx, if_neg (by decide), aLv_2]
theorem rfLf3 {i : Bool} {h : Nat} {p q : Int32} {v W : Nat} (hx : (i && inR p 1 4) = true) (h8 : ¬ h * tN p ≤ 8) : aLv (rfL true i h p) v W q = -1000000000000000003 := by
  unfold rfL
  rw [hx, if_pos (show rfo true true = 0 from rfl), if_neg h8]
  rfl
theorem rfLok {i : Bool} {h : Nat} {p q : Int32} {v W : Nat} (hx : (i && inR p 1 4) = true) (h8 : h * tN p ≤ 8) : aLv (rfL true i h p) v W q = lN (lwst v W (tN q)) := by
  unfold rfL
  rw [hx, if_pos (show rfo true true = 0 from rfl), if_pos h8]
  rfl
theorem low_wh {w : Nat → Nat} {h k : Nat} : pw (lowN w h) k = wh w h k := by unfold lowN wh; rw [pw_pw]
theorem fwd_m {od : Nat → Nat} {fr i t : Nat} (ht : t < 8) : sm 8 (fun u => fwd od fr i u * od (8 * u + t)) = fwd od fr (i + 1) t := by
  rw [fwd_s ht]
  exact sm_cong (fun u _ => by rw [Nat.mul_comm 8 u])
theorem keep_s {a b : Nat → Nat} {t x : Nat} (h : ∀ j, j < t → a j = b j) : ∀ j, j < t → nu a t x j = b j := fun j hj => by rw [nu_n (by omega)]; exact h j hj
theorem stp_b0 {w : Nat → Nat} {slip kd : Nat} {num : Nat → Nat} {h i : Nat} (hh : h ≤ 4) : rwF w slip kd num h 0 (i / 8) 0 (i % 8) = stp w slip kd num h i := rwF_b0 hh

/-! sums -/
def sm : Nat → (Nat → Nat) → Nat
  | 0, _ => 0
  | n + 1, f => sm n f + f n
theorem sm_cong {f g : Nat → Nat} : ∀ {n : Nat}, (∀ i, i < n → f i = g i) → sm n f = sm n g
  | 0, _ => rfl
  | n + 1, h => by rw [sm, sm, sm_cong (fun i hi => h i (by omega)), h n (by omega)]
theorem sm_add (f g : Nat → Nat) : ∀ n, sm n (fun i => f i + g i) = sm n f + sm n g
  | 0 => rfl
  | n + 1 => by rw [sm, sm, sm, sm_add f g n]; omega
theorem sm_mul (c : Nat) (f : Nat → Nat) : ∀ n, sm n (fun i => c * f i) = c * sm n f
  | 0 => rfl
  | n + 1 => by rw [sm, sm, sm_mul c f n, Nat.mul_add]
theorem sm_mulr (c : Nat) (f : Nat → Nat) (n : Nat) : sm n (fun i => f i * c) = sm n f * c := by
  rw [sm_cong (g := fun i => c * f i) (fun i _ => Nat.mul_comm _ _), sm_mul, Nat.mul_comm]
theorem sm_0 : ∀ n, sm n (fun _ => 0) = 0
  | 0 => rfl
  | n + 1 => by rw [sm, sm_0 n]
theorem sm_le {f g : Nat → Nat} : ∀ {n : Nat}, (∀ i, i < n → f i ≤ g i) → sm n f ≤ sm n g
  | 0, _ => Nat.le_refl _
  | n + 1, h => Nat.add_le_add (sm_le (fun i hi => h i (by omega))) (h n (by omega))
theorem sm_part {f : Nat → Nat} : ∀ {n k : Nat}, k < n → f k ≤ sm n f
  | 0, _, h => absurd h (Nat.not_lt_zero _)
  | n + 1, k, h => by
    rw [sm]
    rcases Nat.lt_or_ge k n with q | q
    · have := sm_part (f := f) q; omega
    · rw [show k = n by omega]; omega
theorem sm_swap (f : Nat → Nat → Nat) (m : Nat) : ∀ n, sm n (fun i => sm m (f i)) = sm m (fun j => sm n (fun i => f i j))
  | 0 => (sm_0 m).symm
  | n + 1 => by
    rw [sm, sm_swap f m n, ← sm_add]
    rfl
theorem sm_app (f : Nat → Nat) (m : Nat) : ∀ n, sm (m + n) f = sm m f + sm n (fun i => f (m + i))
  | 0 => rfl
  | n + 1 => by rw [← Nat.add_assoc, sm, sm_app f m n, sm, Nat.add_assoc]
theorem sm_6 (f : Nat → Nat) : ∀ n, sm (n * 6) f = sm n (fun q => sm 6 (fun s => f (q * 6 + s)))
  | 0 => by rw [Nat.zero_mul]; rfl
  | n + 1 => by rw [Nat.succ_mul, sm_app, sm_6 f n]; rfl
theorem sm_8 (f : Nat → Nat) : ∀ n, sm (n * 8) f = sm n (fun q => sm 8 (fun s => f (q * 8 + s)))
  | 0 => by rw [Nat.zero_mul]; rfl
  | n + 1 => by rw [Nat.succ_mul, sm_app, sm_8 f n]; rfl
theorem sm_one {f : Nat → Nat} {k : Nat} : ∀ {n : Nat}, k < n → sm n (fun i => if i = k then f i else 0) = f k
  | 0, h => absurd h (Nat.not_lt_zero _)
  | n + 1, h => by
    rw [sm]
    rcases Nat.lt_or_ge k n with q | q
    · rw [sm_one q, if_neg (by omega), Nat.add_zero]
    · have e : k = n := by omega
      subst e
      rw [if_pos rfl, sm_cong (g := fun _ => 0) (fun i hi => if_neg (by omega)), sm_0, Nat.zero_add]
/-- one place of a row grows by d -/
theorem sm_nu {Y g : Nat → Nat} {E n j d : Nat} (h1 : E ≤ j) (h2 : j < E + n) : sm n (fun i => nu Y j (Y j + d) (E + i) * g (E + i)) = sm n (fun i => Y (E + i) * g (E + i)) + d * g j := by
  have e : ∀ i, i < n → nu Y j (Y j + d) (E + i) * g (E + i) = Y (E + i) * g (E + i) + (if i = j - E then d * g (E + i) else 0) := by
    intro i hi
    by_cases q : i = j - E
    · rw [if_pos q, show E + i = j by omega, nu_s, Nat.add_mul]
    · rw [if_neg q, nu_n (by omega), Nat.add_zero]
  rw [sm_cong e, sm_add, sm_one (f := fun i => d * g (E + i)) (k := j - E) (by omega), show E + (j - E) = j by omega]
/-! lots -/
theorem tb_rng : ∀ zz, zz < 4 → ∀ lt, lt < 84 → (fT zz ≤ lt ∧ lt < fT (zz + 1)) → ∀ s, s < 6 → fT (zz + 1) ≤ GR (lt * 6 + s) ∧ GR (lt * 6 + s) < fT (zz + 2) := by decide +kernel
theorem hI_out {od : Nat → Nat} {lt : Nat} {X : Nat → Nat} {j : Nat} : ∀ s, (∀ s', s' < s → GR (lt * 6 + s') ≠ j) → hI od lt X s j = X j
  | 0, _ => rfl
  | s + 1, h => by
    show nu _ _ _ j = X j
    rw [nu_n (fun q => h s (by omega) q.symm)]
    exact hI_out s (fun s' hs => h s' (by omega))
theorem hO_out {od : Nat → Nat} {X : Nat → Nat} {zz j : Nat} (hz : zz < 4) (hj : j < fT (zz + 1) ∨ fT (zz + 2) ≤ j) : ∀ k, k ≤ fT (zz + 1) - fT zz → hO od (fT zz) X k j = X j
  | 0, _ => rfl
  | k + 1, hk => by
    have hN := tb_NXi zz hz
    show hI od (fT zz + k) (hO od (fT zz) X k) 6 j = X j
    rw [hI_out 6 (fun s hs q => by
      have := tb_rng zz hz (fT zz + k) (by omega) (by omega) s hs
      omega)]
    exact hO_out hz hj k (by omega)
def TE (zz : Nat) (Y g : Nat → Nat) : Nat := sm (fT (zz + 1) - fT zz) (fun i => Y (fT zz + i) * g (fT zz + i))
theorem hI_T {od X g : Nat → Nat} {zz lt : Nat} (hz : zz < 4) (hl : lt < 84) (hr : fT zz ≤ lt ∧ lt < fT (zz + 1)) : ∀ s, s ≤ 6 → TE (zz + 1) (hI od lt X s) g = TE (zz + 1) X g + X lt * sm s (fun s => od s * g (GR (lt * 6 + s)))
  | 0, _ => by rw [sm, Nat.mul_zero]; rfl
  | s + 1, hs => by
    have h1 := tb_rng zz hz lt hl hr s (by omega)
    have e : TE (zz + 1) (hI od lt X (s + 1)) g = TE (zz + 1) (hI od lt X s) g + (hI od lt X s lt * od s) * g (GR (lt * 6 + s)) := by
      unfold TE
      exact sm_nu h1.1 (by have := tb_le zz hz; have e2 : fT (zz + 1 + 1) = fT (zz + 2) := rfl; omega)
    rw [e, hI_T hz hl hr s (by omega), hI_self hl s (by omega), sm, Nat.mul_add, Nat.mul_assoc]
    omega
theorem hO_T {od X g : Nat → Nat} {zz : Nat} (hz : zz < 4) : ∀ k, k ≤ fT (zz + 1) - fT zz → TE (zz + 1) (hO od (fT zz) X k) g = TE (zz + 1) X g + sm k (fun k => X (fT zz + k) * sm 6 (fun s => od s * g (GR ((fT zz + k) * 6 + s))))
  | 0, _ => rfl
  | k + 1, hk => by
    have hN := tb_NXi zz hz
    show TE (zz + 1) (hI od (fT zz + k) (hO od (fT zz) X k) 6) g = _
    rw [hI_T hz (by omega) (by omega) 6 (by decide), hO_T hz k (by omega), hO_out hz (Or.inl (by omega)) k (by omega), Nat.add_assoc]
    rfl
theorem LK_hi {w : Nat → Nat} {slip bk fr b : Nat} : ∀ k, k ≤ 4 → ∀ j, fT (k + 1) ≤ j → LKf w slip bk fr b k j = 0
  | 0, _, j, hj => by
    show (if j = 0 then 1 else 0) = 0
    rw [if_neg (by have : fT 1 = 1 := rfl; have hj' : fT 1 ≤ j := hj; omega)]
  | k + 1, hk, j, hj => by
    have hN := tb_NXi k (by omega)
    have := tb_le k (by omega)
    show hO _ (fT k) (LKf w slip bk fr b k) _ j = 0
    rw [hO_out (by omega) (Or.inr hj) _ (Nat.le_refl _)]
    have e2 : fT (k + 1 + 1) = fT (k + 2) := rfl
    exact LK_hi k (by omega) j (by omega)
def odk (w : Nat → Nat) (slip bk fr b k : Nat) : Nat → Nat := odS w slip (if k < b then bk else fr)
def lotOf : Nat → Nat → Nat
  | 0, _ => 0
  | k + 1, r => GR (lotOf k (r / 6) * 6 + r % 6)
def Pk (od : Nat → Nat → Nat) : Nat → Nat → Nat
  | 0, _ => 1
  | k + 1, r => Pk od k (r / 6) * od k (r % 6)
theorem lotOf_lt : ∀ k, k ≤ 4 → ∀ r, fT k ≤ lotOf k r ∧ lotOf k r < fT (k + 1)
  | 0, _, r => by
    show fT 0 ≤ 0 ∧ 0 < fT 1
    decide
  | k + 1, hk, r => by
    have h := lotOf_lt k (by omega) (r / 6)
    have hN := tb_NXi k (by omega)
    exact tb_rng k (by omega) (lotOf k (r / 6)) (by omega) h (r % 6) (by omega)
theorem TE_sum {w : Nat → Nat} {slip bk fr b : Nat} : ∀ k, k ≤ 4 → ∀ g : Nat → Nat, TE k (LKf w slip bk fr b k) g = sm (6 ^ k) (fun r => Pk (odk w slip bk fr b) k r * g (lotOf k r))
  | 0, _, g => by
    show sm (fT 1 - fT 0) _ = sm 1 _
    show 0 + (if fT 0 + 0 = 0 then 1 else 0) * g (fT 0 + 0) = 0 + 1 * g 0
    rfl
  | k + 1, hk, g => by
    have e1 : TE (k + 1) (LKf w slip bk fr b k) g = 0 := by
      unfold TE
      rw [sm_cong (g := fun _ => 0) (fun i _ => by rw [LK_hi k (by omega) _ (by omega), Nat.zero_mul]), sm_0]
    show TE (k + 1) (hO (odk w slip bk fr b k) (fT k) (LKf w slip bk fr b k) (fT (k + 1) - fT k)) g = _
    rw [hO_T (by omega) _ (Nat.le_refl _), e1, Nat.zero_add]
    have e2 := TE_sum (w := w) (slip := slip) (bk := bk) (fr := fr) (b := b) k (by omega) (fun lt => sm 6 (fun s => odk w slip bk fr b k s * g (GR (lt * 6 + s))))
    unfold TE at e2
    rw [e2, Nat.pow_succ, sm_6]
    refine sm_cong (fun q _ => ?_)
    rw [← sm_mul]
    refine sm_cong (fun s hs => ?_)
    rw [Pk, lotOf, show (q * 6 + s) / 6 = q by omega, show (q * 6 + s) % 6 = s by omega, Nat.mul_assoc]
theorem rW_T {ch L : Nat → Nat} {B t : Nat} (h8 : ∀ j, ch j < 8) : ∀ k, rW ch L B k t = sm k (fun i => L (B + i) * (if ch (B + i) = t then 1 else 0))
  | 0 => rfl
  | k + 1 => by
    show nu (rW ch L B k) (ch (B + k)) (rW ch L B k (ch (B + k)) + L (B + k)) t = _
    rw [sm]
    by_cases e : ch (B + k) = t
    · rw [← e, nu_s, e, rW_T h8 k, if_pos rfl, Nat.mul_one]
    · rw [nu_n (fun q => e q.symm), rW_T h8 k, if_neg e, Nat.mul_zero, Nat.add_zero]
/-- the row of odds as a sum over all rows of sayings -/
theorem rwF_sum {w : Nat → Nat} {slip kd : Nat} {num : Nat → Nat} {h bk fr b t : Nat} (hh : h ≤ 4) : rwF w slip kd num h bk fr b t = sm (6 ^ h) (fun r => Pk (odk w slip bk fr b) h r * (if chF num slip kd (lotOf h r) = t then 1 else 0)) := by
  unfold rwF
  rw [rW_T (fun j => chF_lt)]
  exact TE_sum h hh (fun lt => if chF num slip kd lt = t then 1 else 0)
theorem sm6_od {w : Nat → Nat} {slip t : Nat} (hs : slip ≤ 12) : sm 6 (odS w slip t) = 12 * (w 0 + w 1 + w 2) := by
  have key : ∀ m, w m * (if fo t m = 0 then 12 - slip else slip) + w m * (if fo t m = 1 then 12 - slip else slip) = 12 * w m := by
    intro m
    have h1 := fo_le t m
    rcases (show fo t m = 0 ∨ fo t m = 1 by omega) with e | e
    · rw [e, if_pos rfl, if_neg (by decide), ← Nat.mul_add, show 12 - slip + slip = 12 by omega, Nat.mul_comm]
    · rw [e, if_neg (by decide), if_pos rfl, ← Nat.mul_add, show slip + (12 - slip) = 12 by omega, Nat.mul_comm]
  have k0 := key 0
  have k1 := key 1
  have k2 := key 2
  show 0 + odS w slip t 0 + odS w slip t 1 + odS w slip t 2 + odS w slip t 3 + odS w slip t 4 + odS w slip t 5 = _
  simp only [odS, show 0 / 2 = 0 from rfl, show 1 / 2 = 0 from rfl, show 2 / 2 = 1 from rfl, show 3 / 2 = 1 from rfl, show 4 / 2 = 2 from rfl, show 5 / 2 = 2 from rfl, show 0 % 2 = 0 from rfl, show 1 % 2 = 1 from rfl, show 2 % 2 = 0 from rfl, show 3 % 2 = 1 from rfl, show 4 % 2 = 0 from rfl, show 5 % 2 = 1 from rfl]
  omega
theorem Pk_sum {w : Nat → Nat} {slip bk fr b : Nat} (hs : slip ≤ 12) : ∀ k, sm (6 ^ k) (Pk (odk w slip bk fr b) k) = pw (12 * (w 0 + w 1 + w 2)) k
  | 0 => rfl
  | k + 1 => by
    rw [Nat.pow_succ, sm_6]
    have e : ∀ q, q < 6 ^ k → sm 6 (fun s => Pk (odk w slip bk fr b) (k + 1) (q * 6 + s)) = Pk (odk w slip bk fr b) k q * (12 * (w 0 + w 1 + w 2)) := by
      intro q _
      rw [← sm6_od (w := w) (t := if k < b then bk else fr) hs, ← sm_mul]
      refine sm_cong (fun s hs => ?_)
      rw [Pk, show (q * 6 + s) / 6 = q by omega, show (q * 6 + s) % 6 = s by omega]
      rfl
    rw [sm_cong e, sm_mulr, Pk_sum hs k]
    rfl
theorem rwF_tot {w : Nat → Nat} {slip kd : Nat} {num : Nat → Nat} {h bk fr b : Nat} (hh : h ≤ 4) (hs : slip ≤ 12) : sm 8 (rwF w slip kd num h bk fr b) = wh w h 1 := by
  rw [sm_cong (fun t _ => rwF_sum hh), sm_swap]
  have e : ∀ r, r < 6 ^ h → sm 8 (fun t => Pk (odk w slip bk fr b) h r * (if chF num slip kd (lotOf h r) = t then 1 else 0)) = Pk (odk w slip bk fr b) h r := by
    intro r _
    rw [sm_mul, sm_cong (g := fun t => if t = chF num slip kd (lotOf h r) then (fun _ => 1) t else 0) (fun t _ => by
      by_cases q : chF num slip kd (lotOf h r) = t
      · rw [if_pos q, if_pos q.symm]
      · rw [if_neg q, if_neg (fun z => q z.symm)]), sm_one (f := fun _ => 1) chF_lt, Nat.mul_one]
  rw [sm_cong e, Pk_sum hs, wh, Nat.mul_one]
theorem wh_lt {w : Nat → Nat} {h k : Nat} (hw : ∀ j, j < 3 → w j ≤ 4) (hk : h * k ≤ 8) : wh w h k ≤ 184884258895036416 := by
  have h0 := hw 0 (by decide)
  have h1 := hw 1 (by decide)
  have h2 := hw 2 (by decide)
  unfold wh
  refine Nat.le_trans (pw_le (c := 144) (by omega) _) ?_
  refine Nat.le_trans (pw_mono (n := 8) (by decide) hk) ?_
  decide
theorem rwF_le {w : Nat → Nat} {slip kd : Nat} {num : Nat → Nat} {h bk fr b t : Nat} (hh : h ≤ 4) (hs : slip ≤ 12) (ht : t < 8) : rwF w slip kd num h bk fr b t ≤ wh w h 1 := by
  rw [← rwF_tot (kd := kd) (num := num) (bk := bk) (fr := fr) (b := b) hh hs]
  exact sm_part ht

/-! rows of sayings and lots: a learner asks only how often -/
def cf (row : Nat → Nat) : Nat → Nat → Nat
  | 0 => fun _ => 0
  | n + 1 => nu (cf row n) (row n) (cf row n (row n) + 1)
theorem shw3 (tn : Nat → Nat) (t : Nat) : shw tn t 3 = tn (0 + fo t 0) + tn (2 + fo t 1) + tn (4 + fo t 2) := by
  show 0 + tn (2 * 0 + fo t 0) + tn (2 * 1 + fo t 1) + tn (2 * 2 + fo t 2) = _
  rw [Nat.zero_add]
theorem shw_nu {tn : Nat → Nat} {s t : Nat} (hs : s < 6) : shw (nu tn s (tn s + 1)) t 3 = shw tn t 3 + (if hasF t s then 1 else 0) := by
  rw [shw3, shw3]
  unfold hasF nu
  have h0 := fo_le t 0
  have h1 := fo_le t 1
  have h2 := fo_le t 2
  rcases (show fo t 0 = 0 ∨ fo t 0 = 1 by omega) with e0 | e0 <;> rcases (show fo t 1 = 0 ∨ fo t 1 = 1 by omega) with e1 | e1 <;> rcases (show fo t 2 = 0 ∨ fo t 2 = 1 by omega) with e2 | e2 <;> rcases (show s = 0 ∨ s = 1 ∨ s = 2 ∨ s = 3 ∨ s = 4 ∨ s = 5 by omega) with rfl | rfl | rfl | rfl | rfl | rfl <;> simp [e0, e1, e2] <;> omega
theorem shw_cong {a b : Nat → Nat} {t : Nat} (h : ∀ s, s < 6 → a s = b s) : shw a t 3 = shw b t 3 := by
  have h0 := fo_le t 0
  have h1 := fo_le t 1
  have h2 := fo_le t 2
  rw [shw3, shw3, h _ (by omega), h _ (by omega), h _ (by omega)]
theorem lk_cf {num : Nat → Nat} {slip : Nat} {row : Nat → Nat} {t : Nat} : ∀ n, (∀ i, i < n → row i < 6) → lkM num slip row t n = lkC num slip (cf row n) n t ∧ shw (cf row n) t 3 ≤ n ∧ (alN row t n = 1 ↔ shw (cf row n) t 3 = n)
  | 0, _ => by
    refine ⟨?_, Nat.le_refl 0, ?_⟩
    · show num t = num t * 1 * 1
      rw [Nat.mul_one, Nat.mul_one]
    · show 1 = 1 ↔ 0 + 0 + 0 + 0 = 0
      simp
  | n + 1, h => by
    obtain ⟨e1, e2, e3⟩ := lk_cf (num := num) (slip := slip) (t := t) n (fun i hi => h i (by omega))
    have e4 : shw (cf row (n + 1)) t 3 = shw (cf row n) t 3 + (if hasF t (row n) then 1 else 0) := shw_nu (h n (by omega))
    have hal := alN_le (rw' := row) (t := t) n
    by_cases q : hasF t (row n) = true
    · rw [if_pos q] at e4
      refine ⟨?_, by omega, ?_⟩
      · rw [lkM, if_pos q, e1]
        unfold lkC
        rw [e4, pw, show n + 1 - (shw (cf row n) t 3 + 1) = n - shw (cf row n) t 3 by omega]
        simp only [Nat.mul_assoc, Nat.mul_comm, Nat.mul_left_comm]
      · rw [alN, if_pos q, e4]
        by_cases z : alN row t n = 0
        · rw [if_pos z]
          constructor
          · intro w; omega
          · intro w
            have : shw (cf row n) t 3 = n := by omega
            have := e3.mpr this
            omega
        · rw [if_neg z]
          constructor
          · intro _
            have := e3.mp (by omega)
            omega
          · intro _; rfl
    · rw [if_neg q] at e4
      refine ⟨?_, by omega, ?_⟩
      · rw [lkM, if_neg q, e1]
        unfold lkC
        rw [e4, Nat.add_zero, show n + 1 - shw (cf row n) t 3 = (n - shw (cf row n) t 3) + 1 by omega, pw]
        simp only [Nat.mul_assoc, Nat.mul_comm, Nat.mul_left_comm]
      · rw [alN, if_neg q, e4]
        constructor
        · intro w
          split at w <;> omega
        · intro w; omega
theorem bst_cong {a b : Nat → Nat} {kd : Nat} (h : ∀ t, t < 8 → a t = b t) : ∀ k, k ≤ 8 → bst a kd k = bst b kd k
  | 0, _ => rfl
  | k + 1, hk => by
    have ih := bst_cong (kd := kd) h k (by omega)
    have hb : bst b kd k < 8 := by
      rcases Nat.eq_zero_or_pos k with rfl | q
      · show 0 < 8; decide
      · exact Nat.lt_of_lt_of_le (bst_lt k q) (by omega)
    rw [bst, bst, ih]
    unfold bt
    rw [h k (by omega), h _ hb]
theorem fi_cong {p q : Nat → Bool} : ∀ r k, (∀ j, k ≤ j → j < k + r → p j = q j) → fi p r k = fi q r k
  | 0, _, _ => rfl
  | r + 1, k, h => by
    rw [fi, fi, h k (Nat.le_refl k) (by omega), fi_cong r (k + 1) (fun j h1 h2 => h j (by omega) (by omega))]
theorem tk_cong {a b : Nat → Nat} {kd : Nat} {p q : Nat → Bool} (h : ∀ t, t < 8 → a t = b t) (h2 : ∀ t, t < 8 → p t = q t) : tk a kd p = tk b kd q := by
  unfold tk
  rw [fi_cong (p := p) (q := q) 8 0 (fun j _ hj => h2 j (by omega)), bst_cong h 8 (Nat.le_refl 8)]
/-- the reference's choice by counts is the class's -/
theorem tkM_cf {num : Nat → Nat} {slip kd : Nat} {row : Nat → Nat} {n : Nat} {tn : Nat → Nat} (h : ∀ i, i < n → row i < 6) (hc : ∀ s, s < 6 → tn s = cf row n s) : tkM num slip kd row n = tk (lkC num slip tn n) kd (fun t => decide (shw tn t 3 = n)) := by
  unfold tkM
  refine tk_cong (fun t ht => ?_) (fun t ht => ?_)
  · rw [(lk_cf n h).1]
    unfold lkC
    rw [shw_cong hc]
  · unfold alM
    have := (lk_cf (num := num) (slip := slip) (t := t) n h).2.2
    show decide (alN row t n = 1) = decide (shw tn t 3 = n)
    rw [shw_cong hc]
    exact decide_eq_decide.mpr this
def dig : Nat → Nat → Nat → Nat
  | 0, _, _ => 0
  | k + 1, r, i => if i = k then r % 6 else dig k (r / 6) i
theorem dig_lt : ∀ k r i, dig k r i < 6
  | 0, _, _ => by show 0 < 6; decide
  | k + 1, r, i => by
    rw [dig]
    split
    · omega
    · exact dig_lt k (r / 6) i
theorem dig_t (k r : Nat) : dig (k + 1) r k = r % 6 := if_pos rfl
theorem dig_l {k r i : Nat} (h : i < k) : dig (k + 1) r i = dig k (r / 6) i := if_neg (by omega)
theorem cf_cong {a b : Nat → Nat} : ∀ n, (∀ i, i < n → a i = b i) → cf a n = cf b n
  | 0, _ => rfl
  | n + 1, h => by rw [cf, cf, cf_cong n (fun i hi => h i (by omega)), h n (by omega)]
theorem tb_LCg : ∀ lt, lt < 84 → ∀ s, s < 6 → ∀ j, j < 6 → LC (GR (lt * 6 + s)) j = LC lt j + (if j = s then 1 else 0) := by decide +kernel
theorem tb_LZg : ∀ lt, lt < 84 → ∀ s, s < 6 → LZ (GR (lt * 6 + s)) = LZ lt + 1 := by decide +kernel
theorem lot_cf : ∀ k, k ≤ 4 → ∀ r, (∀ s, s < 6 → LC (lotOf k r) s = cf (dig k r) k s) ∧ LZ (lotOf k r) = k
  | 0, _, r => by
    refine ⟨fun s hs => ?_, ?_⟩
    · show LC 0 s = 0
      rfl
    · show LZ 0 = 0
      rfl
  | k + 1, hk, r => by
    obtain ⟨h1, h2⟩ := lot_cf k (by omega) (r / 6)
    have hl := (lotOf_lt k (by omega) (r / 6)).2
    have hN := tb_NXi k (by omega)
    have h84 : lotOf k (r / 6) < 84 := by omega
    refine ⟨fun s hs => ?_, ?_⟩
    · have ec : cf (dig (k + 1) r) k = cf (dig k (r / 6)) k := cf_cong k (fun i hi => dig_l hi)
      rw [lotOf, tb_LCg _ h84 _ (Nat.mod_lt _ (by decide)) s hs, h1 s hs, cf, ec, dig_t]
      by_cases e : s = r % 6
      · rw [if_pos e, ← e, nu_s]
      · rw [if_neg e, nu_n e, Nat.add_zero]
    · rw [lotOf, tb_LZg _ h84 _ (Nat.mod_lt _ (by decide)), h2]
theorem tk_lot {num : Nat → Nat} {slip kd k r : Nat} (hk : k ≤ 4) : tkM num slip kd (dig k r) k = chF num slip kd (lotOf k r) := by
  obtain ⟨h1, h2⟩ := lot_cf k hk r
  rw [tkM_cf (tn := LC (lotOf k r)) (fun i _ => dig_lt k r i) h1]
  unfold chF
  rw [h2]
theorem lkM_cong {num : Nat → Nat} {slip : Nat} {a b : Nat → Nat} {t : Nat} : ∀ n, (∀ i, i < n → a i = b i) → lkM num slip a t n = lkM num slip b t n
  | 0, _ => rfl
  | n + 1, h => by rw [lkM, lkM, lkM_cong n (fun i hi => h i (by omega)), h n (by omega)]
theorem alN_cong {a b : Nat → Nat} {t : Nat} : ∀ n, (∀ i, i < n → a i = b i) → alN a t n = alN b t n
  | 0, _ => rfl
  | n + 1, h => by rw [alN, alN, alN_cong n (fun i hi => h i (by omega)), h n (by omega)]
theorem tkM_cong {num : Nat → Nat} {slip kd : Nat} {a b : Nat → Nat} {n : Nat} (h : ∀ i, i < n → a i = b i) : tkM num slip kd a n = tkM num slip kd b n := by
  unfold tkM
  refine tk_cong (fun t _ => lkM_cong n h) (fun t _ => ?_)
  unfold alM
  rw [alN_cong n h]
def Pd (od : Nat → Nat → Nat) (row : Nat → Nat) : Nat → Nat
  | 0 => 1
  | k + 1 => Pd od row k * od k (row k)
theorem Pd_cong {od : Nat → Nat → Nat} {a b : Nat → Nat} : ∀ n, (∀ i, i < n → a i = b i) → Pd od a n = Pd od b n
  | 0, _ => rfl
  | n + 1, h => by rw [Pd, Pd, Pd_cong n (fun i hi => h i (by omega)), h n (by omega)]
theorem Pd_dig {od : Nat → Nat → Nat} : ∀ k r, Pd od (dig k r) k = Pk od k r
  | 0, _ => rfl
  | k + 1, r => by
    have ec : Pd od (dig (k + 1) r) k = Pd od (dig k (r / 6)) k := Pd_cong k (fun i hi => dig_l hi)
    rw [Pd, Pk, ec, Pd_dig k (r / 6), dig_t]

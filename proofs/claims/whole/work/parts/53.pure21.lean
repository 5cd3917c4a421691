theorem if_rf1 {k i : Bool} {A : Int32} (hk : k = false) : -1 = (if rfo k i = 0 then A else rfo k i) := by
  subst hk
  cases i <;> rfl
theorem if_rf2 {k i : Bool} {A : Int32} (hk : k = true) (hi : i = false) : -2 = (if rfo k i = 0 then A else rfo k i) := by
  subst hk; subst hi
  rfl
theorem if_rf0 {k i : Bool} {A : Int32} (hk : k = true) (hi : i = true) : (if rfo k i = 0 then A else rfo k i) = A := by
  subst hk; subst hi
  rfl
theorem xr_fo : ∀ t, t < 8 → ∀ T, T < 8 → ∀ M, M < 3 → ((((t ^^^ T) >>> M) &&& 1 = 0) ↔ fo t M = fo T M) := by decide +kernel
theorem ofS_lt {F k : Nat} {p : Nat → Bool} {lst : Int32} (h : ofS F k p lst) (hl : lst < 0) : lst = -6 := by
  rcases h with ⟨h1, -⟩ | ⟨j, hj, rfl, -⟩
  · exact h1
  · exact absurd hl (nI_pos (by omega))
theorem ofS_n2 {F k : Nat} {p : Nat → Bool} {lst : Int32} (h : ofS F k p lst) (hl : lst < 0) (hk : k ≤ 4) (hp : p k = false) : ofS F (k + 1) p (-6) := by
  have e := ofS_lt h hl
  have := ofS_n h e hk hp
  rw [e] at this
  exact this
theorem ofS_y2 {F k : Nat} {p : Nat → Bool} {lst : Int32} (h : ofS F k p lst) (hl : lst < 0) (hk : k ≤ 4) (hp : p k = true) : ofS F (k + 1) p (nI k) := ofS_y h (ofS_lt h hl) hk hp
theorem ofS_e3 {F k : Nat} {p : Nat → Bool} {lst : Int32} (h : ofS F k p lst) (hl : ¬ lst < 0) : lst = if F < 5 then nI F else -6 := ofS_e2 h (fun e => hl (by rw [e]; decide))
/-! the rows of meanings that the reference goes through -/
def PKL : List Nat := [0,0,0,0, 1,0,0,0, 2,0,0,0, 0,0,0,0, 0,1,0,0, 0,2,0,0, 1,1,0,0, 1,2,0,0, 2,2,0,0, 0,0,0,0, 0,0,1,0, 0,0,2,0, 0,1,1,0, 0,1,2,0, 0,2,2,0, 1,1,1,0, 1,1,2,0, 1,2,2,0, 2,2,2,0, 0,0,0,0, 0,0,0,1, 0,0,0,2, 0,0,1,1, 0,0,1,2, 0,0,2,2, 0,1,1,1, 0,1,1,2, 0,1,2,2, 0,2,2,2, 1,1,1,1, 1,1,1,2, 1,1,2,2, 1,2,2,2, 2,2,2,2]
def PK (i j : Nat) : Nat := PKL.getD (i * 4 + j) 0
def fOL : List Nat := [0, 0, 3, 9, 19, 34]
def fO (k : Nat) : Nat := fOL.getD k 0
def rwP (T i j : Nat) : Nat := 2 * PK i j + fo T (PK i j)
def foldP (f : Nat → Nat) : Nat → Nat
  | 0 => 0
  | k + 1 => GR (foldP f k * 6 + f k)
def LOTP (T k i : Nat) : Nat := foldP (rwP T i) k
def szP (i : Nat) : Nat := if i < 3 then 1 else if i < 9 then 2 else if i < 19 then 3 else 4
def LOT (T i : Nat) : Nat := LOTP T (szP i) i
theorem fO_le : ∀ k, k < 6 → fO k ≤ 34 := by decide +kernel
theorem fO_mono : ∀ k, k < 5 → 1 ≤ k → fO k < fO (k + 1) := by decide +kernel
theorem szP_k : ∀ k, k < 5 → ∀ i, i < 34 → (1 ≤ k ∧ fO k ≤ i ∧ i < fO (k + 1)) → szP i = k := by decide +kernel
theorem tb_PK : ∀ i, i < 34 → ∀ j, j < 4 → PK i j < 3 := by decide +kernel
theorem tb_rwP : ∀ T, T < 8 → ∀ i, i < 34 → ∀ j, j < 4 → rwP T i j < 6 := by decide +kernel
theorem tb_LOTc : ∀ T, T < 8 → ∀ i, i < 34 → ∀ s, s < 6 → LC (LOT T i) s = cf (rwP T i) (szP i) s := by decide +kernel
theorem tb_LOTz : ∀ T, T < 8 → ∀ i, i < 34 → LZ (LOT T i) = szP i ∧ szL (LOT T i) = szP i ∧ 1 ≤ LOT T i ∧ LOT T i < 210 ∧ shw (LC (LOT T i)) T 3 = LZ (LOT T i) := by decide +kernel
theorem tb_LOTp : ∀ T, T < 8 → ∀ i, i < 34 → ∀ j, j < szP i → LA (smI (LOT T i) (szP i - 1 - j)) / 2 = PK i j := by decide +kernel
theorem tb_LOTm : ∀ T, T < 8 → ∀ i, i < 34 → ∀ i', i' < 34 → LOT T i < LOT T i' → i < i' := by decide +kernel
theorem tb_LOTa : ∀ T, T < 8 → ∀ lt, lt < 210 → 1 ≤ lt → shw (LC lt) T 3 = LZ lt → LOT T (fi (fun i => decide (LOT T i = lt)) 34 0) = lt ∧ fi (fun i => decide (LOT T i = lt)) 34 0 < 34 := by decide +kernel
def cPK (k i j : Nat) : Bool := decide (1 ≤ k) && decide (fO k ≤ i) && decide (i < fO (k + 1)) && decide (j < k) && !decide (PK i j = 2) && (List.range 4).all (fun x => !(decide (j < x) && decide (x < k)) || decide (PK i x = 2))
def dPK (k i j : Nat) : Bool := decide (i + 1 < fO (k + 1)) && (List.range 4).all (fun x => !decide (x < k) || decide (PK (i + 1) x = (if j ≤ x then PK i j + 1 else PK i x)))
theorem tb_PKb : ∀ k, k < 5 → ∀ i, i < 34 → ∀ j, j < 4 → (cPK k i j = true → dPK k i j = true) := by decide +kernel
theorem tb_PKn (k : Nat) (hk : k < 5) (i : Nat) (hi : i < 34) (j : Nat) (hj : j < 4) (h : 1 ≤ k ∧ fO k ≤ i ∧ i < fO (k + 1) ∧ j < k ∧ ¬ PK i j = 2 ∧ ∀ x, x < 4 → (j < x ∧ x < k) → PK i x = 2) : i + 1 < fO (k + 1) ∧ ∀ x, x < 4 → x < k → PK (i + 1) x = (if j ≤ x then PK i j + 1 else PK i x) := by
  obtain ⟨h1, h2, h3, h4, h5, h6⟩ := h
  have hc : cPK k i j = true := by
    unfold cPK
    rw [decide_eq_true h1, decide_eq_true h2, decide_eq_true h3, decide_eq_true h4, decide_eq_false h5]
    simp only [Bool.and_true, Bool.true_and, Bool.not_false, List.all_eq_true]
    intro x hx
    have hx4 := List.mem_range.mp hx
    by_cases q : j < x ∧ x < k
    · rw [decide_eq_true (h6 x hx4 q), Bool.or_true]
    · have : (decide (j < x) && decide (x < k)) = false := by
        by_cases a : j < x
        · rw [decide_eq_true a, Bool.true_and]; exact decide_eq_false (fun z => q ⟨a, z⟩)
        · rw [decide_eq_false a, Bool.false_and]
      rw [this]; rfl
  have hd := tb_PKb k hk i hi j hj hc
  unfold dPK at hd
  rw [Bool.and_eq_true] at hd
  refine ⟨of_decide_eq_true hd.1, fun x hx hxk => ?_⟩
  have := List.all_eq_true.mp hd.2 x (List.mem_range.mpr hx)
  rw [decide_eq_true hxk] at this
  exact of_decide_eq_true this
theorem tb_PKe : ∀ k, k < 5 → ∀ i, i < 34 → (1 ≤ k ∧ fO k ≤ i ∧ i < fO (k + 1) ∧ ∀ x, x < 4 → x < k → PK i x = 2) → i + 1 = fO (k + 1) := by decide +kernel
theorem tb_PK0 : ∀ k, k < 5 → ∀ x, x < 4 → PK (fO k) x = 0 := by decide +kernel
theorem ftL_hit {num : Nat → Nat} {slip kd T i : Nat} (hT : T < 8) (hi : i < 34) (h : chF num slip kd (LOT T i) = T) (hno : ∀ j, j < i → ¬ chF num slip kd (LOT T j) = T) : ftL num slip kd T = LOT T i := by
  obtain ⟨h1, h2, h3, h4, h5⟩ := tb_LOTz T hT i hi
  unfold ftL
  have key : ∀ r k, k + r = 210 → 1 ≤ k → k ≤ LOT T i → fi (tch num slip kd T) r k = LOT T i := by
    intro r
    induction r with
    | zero => intro k e _ hk; omega
    | succ r ih =>
      intro k e hk1 hk
      by_cases q : k = LOT T i
      · refine (fi_yes (Nat.succ_pos r) ?_).trans q
        rw [q]
        unfold tch
        rw [decide_eq_true h5, decide_eq_true h]
        rfl
      · rw [fi_no (Nat.succ_pos r) ?_]
        · exact ih (k + 1) (by omega) (by omega) (by omega)
        · unfold tch
          by_cases a : shw (LC k) T 3 = LZ k
          · obtain ⟨b1, b2⟩ := tb_LOTa T hT k (by omega) hk1 a
            have b3 := tb_LOTm T hT _ b2 i hi (by rw [b1]; omega)
            have b4 := hno _ b3
            rw [b1] at b4
            rw [decide_eq_false b4, Bool.and_false]
          · rw [decide_eq_false a, Bool.false_and]
  exact key 209 1 rfl (Nat.le_refl 1) h3
theorem ftL_none {num : Nat → Nat} {slip kd T : Nat} (hT : T < 8) (hno : ∀ j, j < 34 → ¬ chF num slip kd (LOT T j) = T) : ftI num slip kd T = -6 := by
  have key : ∀ r k, k + r = 210 → 1 ≤ k → fi (tch num slip kd T) r k = 210 := by
    intro r
    induction r with
    | zero => intro k e _; show k = 210; omega
    | succ r ih =>
      intro k e hk1
      rw [fi_no (Nat.succ_pos r) ?_]
      · exact ih (k + 1) (by omega) (by omega)
      · unfold tch
        by_cases a : shw (LC k) T 3 = LZ k
        · obtain ⟨b1, b2⟩ := tb_LOTa T hT k (by omega) hk1 a
          have b4 := hno _ b2
          rw [b1] at b4
          rw [decide_eq_false b4, Bool.and_false]
        · rw [decide_eq_false a, Bool.false_and]
  unfold ftI ftL
  rw [key 209 1 rfl (Nat.le_refl 1), if_neg (by decide)]
theorem tk_LOT {num : Nat → Nat} {slip kd T i k : Nat} {row : Nat → Nat} (hT : T < 8) (hi : i < 34) (hk : szP i = k) (hr : ∀ x, x < k → row x = rwP T i x) (hk4 : k ≤ 4) : tkM num slip kd row k = chF num slip kd (LOT T i) := by
  subst hk
  rw [tkM_cong hr, tkM_cf (tn := LC (LOT T i)) (fun x hx => tb_rwP T hT i hi x (by omega)) (tb_LOTc T hT i hi)]
  unfold chF
  rw [(tb_LOTz T hT i hi).1]
/-- the first row of k meanings behind which the tongue is taken -/
def cqI (num : Nat → Nat) (slip kd T k : Nat) : Nat := fi (fun i => decide (chF num slip kd (LOT T i) = T)) (fO (k + 1) - fO k) (fO k)
theorem fi_run {p : Nat → Bool} : ∀ {r k i : Nat}, k ≤ i → i < k + r → (∀ j, k ≤ j → j < i → p j = false) → p i = true → fi p r k = i
  | 0, k, i, h1, h2, _, _ => by omega
  | r + 1, k, i, h1, h2, h3, h4 => by
    by_cases q : k = i
    · subst q; exact fi_yes (Nat.succ_pos r) h4
    · rw [fi_no (Nat.succ_pos r) (h3 k (Nat.le_refl k) (by omega))]
      exact fi_run (by omega) (by omega) (fun j a b => h3 j (by omega) b) h4
theorem fi_all {p : Nat → Bool} : ∀ {r k : Nat}, (∀ j, k ≤ j → j < k + r → p j = false) → fi p r k = k + r
  | 0, k, _ => rfl
  | r + 1, k, h => by
    rw [fi_no (Nat.succ_pos r) (h k (Nat.le_refl k) (by omega)), show r + 1 - 1 = r from rfl, fi_all (fun j a b => h j (by omega) (by omega))]
    omega
theorem fi_hits {p : Nat → Bool} : ∀ {r k : Nat}, fi p r k < k + r → p (fi p r k) = true ∧ ∀ j, k ≤ j → j < fi p r k → p j = false
  | 0, k, h => absurd h (Nat.lt_irrefl _)
  | r + 1, k, h => by
    by_cases q : p k = true
    · rw [fi_yes (Nat.succ_pos r) q]
      exact ⟨q, fun j a b => by omega⟩
    · have q2 : p k = false := Bool.eq_false_iff.mpr q
      rw [fi_no (Nat.succ_pos r) q2] at h ⊢
      have e : r + 1 - 1 = r := rfl
      rw [e] at h ⊢
      obtain ⟨a1, a2⟩ := fi_hits (p := p) (r := r) (k := k + 1) (by omega)
      refine ⟨a1, fun j b1 b2 => ?_⟩
      by_cases z : j = k
      · subst z; exact q2
      · exact a2 j (by omega) b2
theorem cqI_y {num : Nat → Nat} {slip kd T k i : Nat} (h1 : fO k ≤ i) (h2 : i < fO (k + 1)) (hno : ∀ j, fO k ≤ j → j < i → ¬ chF num slip kd (LOT T j) = T) (h : chF num slip kd (LOT T i) = T) : cqI num slip kd T k = i := fi_run h1 (by omega) (fun j a b => decide_eq_false (hno j a b)) (decide_eq_true h)
theorem cqI_n {num : Nat → Nat} {slip kd T k : Nat} (hk : fO k ≤ fO (k + 1)) (hno : ∀ j, fO k ≤ j → j < fO (k + 1) → ¬ chF num slip kd (LOT T j) = T) : cqI num slip kd T k = fO (k + 1) := by
  unfold cqI
  rw [fi_all (fun j a b => decide_eq_false (hno j a (by omega)))]
  omega
theorem cqI_h {num : Nat → Nat} {slip kd T k : Nat} (hk : fO k ≤ fO (k + 1)) (h : cqI num slip kd T k < fO (k + 1)) : fO k ≤ cqI num slip kd T k ∧ chF num slip kd (LOT T (cqI num slip kd T k)) = T ∧ ∀ j, fO k ≤ j → j < cqI num slip kd T k → ¬ chF num slip kd (LOT T j) = T := by
  have e : cqI num slip kd T k < fO k + (fO (k + 1) - fO k) := by omega
  obtain ⟨a1, a2⟩ := fi_hits e
  exact ⟨fi_ge _ _, of_decide_eq_true a1, fun j b1 b2 => of_decide_eq_false (a2 j b1 b2)⟩
theorem cqI_f {num : Nat → Nat} {slip kd T k : Nat} (hk : fO k ≤ fO (k + 1)) (h : ¬ cqI num slip kd T k < fO (k + 1)) : ∀ j, fO k ≤ j → j < fO (k + 1) → ¬ chF num slip kd (LOT T j) = T := fun j h1 h2 hc => by
  have key : ∀ r k2, k2 ≤ j → j < k2 + r → fi (fun i => decide (chF num slip kd (LOT T i) = T)) r k2 ≤ j := by
    intro r
    induction r with
    | zero => intro k2 a b; omega
    | succ r ih =>
      intro k2 a b
      by_cases q : decide (chF num slip kd (LOT T k2) = T) = true
      · rw [fi_yes (Nat.succ_pos r) q]; exact a
      · rw [fi_no (Nat.succ_pos r) (Bool.eq_false_iff.mpr q)]
        have : ¬ k2 = j := fun e => q (by subst e; exact decide_eq_true hc)
        exact ih (k2 + 1) (by omega) (by omega)
  have := key (fO (k + 1) - fO k) (fO k) h1 (by omega)
  unfold cqI at h
  omega
/-- where a row goes on -/
theorem pk_nx {pk pk2 : Nat → Nat} {k i j : Nat} (hk : 1 ≤ k ∧ k ≤ 4) (hi : fO k ≤ i ∧ i < fO (k + 1)) (hpk : ∀ x, x < k → pk x = PK i x) (hj : j < k) (h2 : ¬ pk j = 2) (ha : ∀ x, j + 1 ≤ x → x < k → pk x = 2) (hp2 : ∀ x, x < k → pk2 x = if j ≤ x then pk j + 1 else pk x) : i + 1 < fO (k + 1) ∧ ∀ x, x < k → pk2 x = PK (i + 1) x := by
  have h34 := fO_le (k + 1) (by omega)
  obtain ⟨a, b⟩ := tb_PKn k (by omega) i (by omega) j (by omega) ⟨hk.1, hi.1, hi.2, hj, by rw [← hpk j hj]; exact h2, fun x _ h3 => by rw [← hpk x h3.2]; exact ha x (by omega) h3.2⟩
  refine ⟨a, fun x hx => ?_⟩
  rw [hp2 x hx, b x (by omega) hx, hpk j hj, hpk x hx]
theorem pk_en {pk : Nat → Nat} {k i : Nat} (hk : 1 ≤ k ∧ k ≤ 4) (hi : fO k ≤ i ∧ i < fO (k + 1)) (hpk : ∀ x, x < k → pk x = PK i x) (ha : ∀ x, 0 ≤ x → x < k → pk x = 2) : i + 1 = fO (k + 1) := by
  have h34 := fO_le (k + 1) (by omega)
  exact tb_PKe k (by omega) i (by omega) ⟨hk.1, hi.1, hi.2, fun x _ h4 => by rw [← hpk x h4]; exact ha x (Nat.zero_le x) h4⟩
theorem aCh_0 {num : Nat → Nat} {slip kd : Nat} {p0 p1 : Int32} (h : inR p0 0 7 = false) : -1 = aCh num slip kd p0 p1 := by
  rw [aCh, h]; rfl
theorem aCh_n {num : Nat → Nat} {slip kd T : Nat} {p1 : Int32} (h : inR (nI T) 0 7 = true) (hT : T < 8) (hno : ∀ j, j < 34 → ¬ chF num slip kd (LOT T j) = T) : -6 = aCh num slip kd (nI T) p1 := by
  rw [aCh, if_pos h, tN_n (show T < 2 ^ 31 by omega), if_pos (ftL_none hT hno)]
theorem aCh_y {num : Nat → Nat} {slip kd T i k : Nat} {p1 : Int32} (h : inR (nI T) 0 7 = true) (hT : T < 8) (hi : i < 34) (hk : szP i = k) (hc : chF num slip kd (LOT T i) = T) (hno : ∀ j, j < i → ¬ chF num slip kd (LOT T j) = T) : aCh num slip kd (nI T) p1 = if p1 = -1 then nI k else if inR p1 0 (k - 1) then nI (LA (smI (LOT T i) (k - 1 - tN p1)) / 2) else -6 := by
  obtain ⟨h1, h2, h3, h4, h5⟩ := tb_LOTz T hT i hi
  have e := ftL_hit hT hi hc hno
  have e2 : ¬ ftI num slip kd T = -6 := by
    unfold ftI
    rw [e, if_pos h4]
    exact nI_n6 (by omega)
  rw [aCh, if_pos h, tN_n (show T < 2 ^ 31 by omega), if_neg e2, e, h2, hk]

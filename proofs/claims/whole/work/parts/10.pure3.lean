/-! signs -/
def addC (cd : Nat → Nat) (cnt sg : Nat) : Nat → Nat := if cnt < 40 then nu cd cnt sg else cd
def addN (cnt : Nat) : Nat := if cnt < 40 then cnt + 1 else cnt
def cst (c p : Nat) : Bool := (decide (p < 3) && (decide (c = 48) || decide (c = 49) || decide (c = 42))) || (decide (p = 3) && decide (c = 58)) || (decide (p = 4) && (decide (49 ≤ c) && decide (c ≤ 57))) || (decide (5 ≤ p) && decide (c = 59))
theorem cst_iff {c p : Nat} : cst c p = true ↔ (p < 3 ∧ (c = 48 ∨ c = 49 ∨ c = 42)) ∨ (p = 3 ∧ c = 58) ∨ (p = 4 ∧ 49 ≤ c ∧ c ≤ 57) ∨ (5 ≤ p ∧ c = 59) := by
  simp only [cst, Bool.or_eq_true, Bool.and_eq_true, decide_eq_true_eq, or_assoc]
def bad (cd : Nat → Nat) (j : Nat) : Bool := !cst (cd j) (j % 6)
def ffl (cd : Nat → Nat) (cnt : Nat) : Nat := fi (bad cd) cnt 0
def ffI (cd : Nat → Nat) (cnt : Nat) : Int32 := if ffl cd cnt < cnt then nI (ffl cd cnt) else if cnt % 6 = 5 then -6 else nI cnt
theorem ffI_hit {cd : Nat → Nat} {cnt k : Nat} (hk : k < cnt) (h : ∀ j, j < k → bad cd j = false) (hp : bad cd k = true) : ffI cd cnt = nI k := by
  unfold ffI ffl
  rw [fi_hit hk h hp, if_pos hk]
theorem ffI_end {cd : Nat → Nat} {cnt : Nat} (h : ∀ j, j < cnt → bad cd j = false) : ffI cd cnt = if cnt % 6 = 5 then -6 else nI cnt := by
  unfold ffI ffl
  rw [fi_none h, if_neg (Nat.lt_irrefl cnt)]
def lfm (cd : Nat → Nat) (st t m : Nat) : Bool := decide (cd (st + m) = 42) || decide (cd (st + m) - 48 = fo t m)
def lfit (cd : Nat → Nat) (st t : Nat) : Bool := lfm cd st t 0 && lfm cd st t 1 && lfm cd st t 2
theorem lfit_t {cd : Nat → Nat} {st t : Nat} (h : ∀ m, m < 3 → lfm cd st t m = true) : lfit cd st t = true := by
  simp [lfit, h 0 (by decide), h 1 (by decide), h 2 (by decide)]
theorem lfit_f {cd : Nat → Nat} {st t m : Nat} (hm : m < 3) (h : lfm cd st t m = false) : lfit cd st t = false := by
  rcases (show m = 0 ∨ m = 1 ∨ m = 2 by omega) with rfl | rfl | rfl <;> simp [lfit, h]
def nfr (cd : Nat → Nat) (t : Nat) : Nat → Nat → Nat
  | 0, _ => 1
  | r + 1, k => if lfit cd (6 * k) t then cd (6 * k + 4) - 48 else nfr cd t r (k + 1)
def okT (cd : Nat → Nat) (nl : Nat) : Prop := ∀ k, k < nl → (∀ m, m < 3 → cd (6 * k + m) = 42 ∨ cd (6 * k + m) = 48 ∨ cd (6 * k + m) = 49) ∧ 49 ≤ cd (6 * k + 4) ∧ cd (6 * k + 4) ≤ 57
theorem bad_s {cd : Nat → Nat} {k : Nat} (h : ∀ j, j < k → bad cd j = false) (h2 : cst (cd k) (k % 6) = true) : ∀ j, j < k + 1 → bad cd j = false := fun j hj => by
  rcases Nat.lt_or_ge j k with q | q
  · exact h j q
  · rw [show j = k by omega]; simp [bad, h2]
theorem lfm_s {cd : Nat → Nat} {st t k : Nat} (h : ∀ j, j < k → lfm cd st t j = true) (h2 : lfm cd st t k = true) : ∀ j, j < k + 1 → lfm cd st t j = true := fun j hj => by
  rcases Nat.lt_or_ge j k with q | q
  · exact h j q
  · rw [show j = k by omega]; exact h2
theorem nfr_hit {cd : Nat → Nat} {t nl k : Nat} (hk : k < nl) (h : lfit cd (6 * k) t = true) : nfr cd t (nl - k) k = cd (6 * k + 4) - 48 := by
  rw [show nl - k = (nl - k - 1) + 1 by omega, nfr, if_pos h]
theorem nfr_miss {cd : Nat → Nat} {t nl k : Nat} (hk : k < nl) (h : lfit cd (6 * k) t = false) : nfr cd t (nl - k) k = nfr cd t (nl - (k + 1)) (k + 1) := by
  rw [show nl - k = (nl - (k + 1)) + 1 by omega, nfr, if_neg (by rw [h]; decide)]
theorem nfr_in {cd : Nat → Nat} {t nl : Nat} (hok : okT cd nl) : ∀ r k, k + r ≤ nl → 1 ≤ nfr cd t r k ∧ nfr cd t r k < 10
  | 0, _, _ => ⟨Nat.le_refl 1, show 1 < 10 by decide⟩
  | r + 1, k, h => by
    unfold nfr
    split
    · have := (hok k (by omega)).2; omega
    · exact nfr_in hok r (k + 1) (by omega)
/-- signs without a fault are lines -/
theorem okT_of {cd : Nat → Nat} {cnt nl : Nat} (h : ffI cd cnt = -6) (hc : cnt < 2 ^ 31) (hn : nl = (cnt + 1) / 6) : cnt + 1 = 6 * nl ∧ okT cd nl := by
  have hno : ∀ x : Nat, x < 2 ^ 31 → ¬ nI x = -6 := fun x hx e => by
    have h1 : (nI x).toInt = (-6 : Int32).toInt := by rw [e]
    rw [nI_toInt hx] at h1
    have : (-6 : Int32).toInt = -6 := by decide
    omega
  unfold ffI at h
  by_cases h1 : ffl cd cnt < cnt
  · rw [if_pos h1] at h
    exact absurd h (hno _ (by omega))
  · rw [if_neg h1] at h
    by_cases h2 : cnt % 6 = 5
    · have h3 : cnt + 1 = 6 * nl := by omega
      refine ⟨h3, ?_⟩
      have hall : ∀ k, k ≤ cnt → ∀ j, j < k → bad cd j = false := by
        intro k
        induction k with
        | zero => intro _ j hj; exact absurd hj (Nat.not_lt_zero j)
        | succ k ih =>
          intro hk j hj
          rcases Nat.lt_or_ge j k with q | q
          · exact ih (by omega) j q
          · have e : j = k := by omega
            subst e
            cases hb : bad cd j with
            | false => rfl
            | true => exact absurd (show ffl cd cnt < cnt by unfold ffl; rw [fi_hit (by omega) (ih (by omega)) hb]; omega) h1
      have hc2 : ∀ j, j < cnt → cst (cd j) (j % 6) = true := fun j hj => by
        have := hall cnt (Nat.le_refl _) j hj
        simpa [bad] using this
      intro k hk
      refine ⟨fun m hm => ?_, ?_⟩
      · have := cst_iff.mp (hc2 (6 * k + m) (by omega))
        omega
      · have := cst_iff.mp (hc2 (6 * k + 4) (by omega))
        omega
    · rw [if_neg h2] at h
      exact absurd h (hno _ hc)

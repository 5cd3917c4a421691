/-! the reference's own small words -/
def lmM (lg : Nat → Nat) (k t m : Nat) : Prop := lg (4 * k + m) = 42 ∨ lg (4 * k + m) - 48 = fo t m
def fN (lg : Nat → Nat) (k t : Nat) : Nat → Nat
  | 0 => 1
  | m + 1 => if fN lg k t m = 0 then 0 else if lg (4 * k + m) = 42 then 1 else if lg (4 * k + m) - 48 = fo t m then 1 else 0
theorem fN_le {lg : Nat → Nat} {k t : Nat} : ∀ m, fN lg k t m ≤ 1
  | 0 => Nat.le_refl 1
  | m + 1 => by
    rw [fN]
    split
    · exact Nat.zero_le _
    · split
      · exact Nat.le_refl 1
      · split
        · exact Nat.le_refl 1
        · exact Nat.zero_le _
def bfM (lg : Nat → Nat) (t : Nat) : Nat → Nat → Nat
  | 0, _ => 1
  | r + 1, k => if fN lg k t 3 = 0 then bfM lg t r (k + 1) else lg (4 * k + 3)
theorem bfM_hit {lg : Nat → Nat} {t nl k : Nat} (hk : k < nl) (h : ¬ fN lg k t 3 = 0) : bfM lg t (nl - k) k = lg (4 * k + 3) := by
  rw [show nl - k = (nl - k - 1) + 1 by omega, bfM, if_neg h]
theorem bfM_miss {lg : Nat → Nat} {t nl k : Nat} (hk : k < nl) (h : fN lg k t 3 = 0) : bfM lg t (nl - k) k = bfM lg t (nl - (k + 1)) (k + 1) := by
  rw [show nl - k = (nl - (k + 1)) + 1 by omega, bfM, if_pos h]
def okL (lg : Nat → Nat) (nl : Nat) : Prop := ∀ k, k < nl → ∀ m, m < 3 → lg (4 * k + m) = 42 ∨ lg (4 * k + m) = 48 ∨ lg (4 * k + m) = 49
theorem inL_N {a b c : Nat} (ha : a < 2 ^ 63) (hb : b < 2 ^ 63) (hc : c < 2 ^ 63) : inL (lN a) (lN b) (lN c) = (decide (b ≤ a) && decide (a ≤ c)) := by
  simp only [inL, pk_lLE hb ha, pk_lLE ha hc]
/-- the lines that are copied: k whole lines, m signs of the next -/
def cpL (cd lg0 : Nat → Nat) (lg : Nat → Nat) (k m : Nat) : Prop := (∀ a, a < k → (∀ b, b < 3 → lg (4 * a + b) = cd (6 * a + b)) ∧ lg (4 * a + 3) = cd (6 * a + 4) - 48) ∧ ∀ b, b < m → lg (4 * k + b) = cd (6 * k + b)
theorem cpL_s {cd lg0 lg : Nat → Nat} {k m : Nat} (h : cpL cd lg0 lg k m) (hm : m < 3) : cpL cd lg0 (nu lg (4 * k + m) (cd (6 * k + m))) k (m + 1) := by
  refine ⟨fun a ha => ⟨fun b hb => ?_, ?_⟩, fun b hb => ?_⟩
  · rw [nu_n (by omega)]; exact (h.1 a ha).1 b hb
  · rw [nu_n (by omega)]; exact (h.1 a ha).2
  · by_cases e : b = m
    · subst e; rw [nu_s]
    · rw [nu_n (by omega)]; exact h.2 b (by omega)
theorem cpL_n {cd lg0 lg : Nat → Nat} {k : Nat} (h : cpL cd lg0 lg k 3) : cpL cd lg0 (nu lg (4 * k + 3) (cd (6 * k + 4) - 48)) (k + 1) 0 := by
  refine ⟨fun a ha => ?_, fun b hb => absurd hb (Nat.not_lt_zero b)⟩
  rcases Nat.lt_or_ge a k with q | q
  · refine ⟨fun b hb => ?_, ?_⟩
    · rw [nu_n (by omega)]; exact (h.1 a q).1 b hb
    · rw [nu_n (by omega)]; exact (h.1 a q).2
  · have e : a = k := by omega
    subst e
    refine ⟨fun b hb => ?_, ?_⟩
    · rw [nu_n (by omega)]; exact h.2 b hb
    · rw [nu_s]
theorem fN_lf {cd lg0 lg : Nat → Nat} {nl k t : Nat} (h : cpL cd lg0 lg nl 0) (hk : k < nl) : (fN lg k t 3 = 0) = (lfit cd (6 * k) t = false) := by
  have hh := (h.1 k hk).1
  have h0 := hh 0 (by decide); have h1 := hh 1 (by decide); have h2 := hh 2 (by decide)
  simp only [fN, lfit, lfm, h0, h1, h2]
  generalize cd (6 * k + 0) = x0
  generalize cd (6 * k + 1) = x1
  generalize cd (6 * k + 2) = x2
  generalize fo t 0 = f0
  generalize fo t 1 = f1
  generalize fo t 2 = f2
  by_cases a0 : x0 = 42 <;> by_cases a1 : x1 = 42 <;> by_cases a2 : x2 = 42 <;> by_cases b0 : x0 - 48 = f0 <;> by_cases b1 : x1 - 48 = f1 <;> by_cases b2 : x2 - 48 = f2 <;> simp [a0, a1, a2, b0, b1, b2]
theorem bfM_nfr {cd lg0 lg : Nat → Nat} {nl t : Nat} (h : cpL cd lg0 lg nl 0) : ∀ r k, k + r = nl → bfM lg t r k = nfr cd t r k
  | 0, _, _ => rfl
  | r + 1, k, e => by
    rw [bfM, nfr, bfM_nfr h r (k + 1) (by omega), (h.1 k (by omega)).2]
    have := fN_lf (t := t) h (show k < nl by omega)
    by_cases q : lfit cd (6 * k) t = true
    · rw [if_pos q, if_neg (by rw [this, q]; decide)]
    · rw [if_neg q, if_pos (by rw [this]; exact Bool.eq_false_iff.mpr q)]
theorem okL_of {cd lg0 lg : Nat → Nat} {nl : Nat} (h : cpL cd lg0 lg nl 0) (hok : okT cd nl) : okL lg nl := fun k hk m hm => by
  rw [(h.1 k hk).1 m hm]
  exact (hok k hk).1 m hm
def lkM (num : Nat → Nat) (slip : Nat) (rw' : Nat → Nat) (t : Nat) : Nat → Nat
  | 0 => num t
  | i + 1 => lkM num slip rw' t i * (if hasF t (rw' i) then 12 - slip else slip)
theorem lkM_y {num : Nat → Nat} {slip : Nat} {rw' : Nat → Nat} {t i : Nat} (h : hasF t (rw' i) = true) : lkM num slip rw' t i * (12 - slip) = lkM num slip rw' t (i + 1) := by rw [lkM, if_pos h]
theorem lkM_n {num : Nat → Nat} {slip : Nat} {rw' : Nat → Nat} {t i : Nat} (h : hasF t (rw' i) = false) : lkM num slip rw' t i * slip = lkM num slip rw' t (i + 1) := by rw [lkM, h]; rfl
theorem lkM_le {num : Nat → Nat} {slip : Nat} {rw' : Nat → Nat} {t : Nat} (hs : slip ≤ 12) (hn : num t < 10) : ∀ i, lkM num slip rw' t i ≤ 9 * pw 12 i
  | 0 => by show num t ≤ 9 * 1; omega
  | i + 1 => by
    rw [lkM, pw, ← Nat.mul_assoc]
    refine Nat.mul_le_mul (lkM_le hs hn i) ?_
    split <;> omega
theorem lkM_lt {num : Nat → Nat} {slip : Nat} {rw' : Nat → Nat} {t i : Nat} (hs : slip ≤ 12) (hn : num t < 10) (hi : i ≤ 6) : lkM num slip rw' t i < 2 ^ 59 := by
  refine Nat.lt_of_le_of_lt (lkM_le hs hn i) ?_
  refine Nat.lt_of_le_of_lt (Nat.mul_le_mul_left 9 (pw_mono (n := 6) (by decide) hi)) ?_
  decide
def alN (rw' : Nat → Nat) (t : Nat) : Nat → Nat
  | 0 => 1
  | i + 1 => if alN rw' t i = 0 then 0 else if hasF t (rw' i) then 1 else 0
theorem alN_le {rw' : Nat → Nat} {t : Nat} : ∀ i, alN rw' t i ≤ 1
  | 0 => Nat.le_refl 1
  | i + 1 => by
    rw [alN]
    split
    · exact Nat.zero_le _
    · split
      · exact Nat.le_refl 1
      · exact Nat.zero_le _
def alM (rw' : Nat → Nat) (i t : Nat) : Bool := decide (alN rw' t i = 1)
/-- what the reference takes behind a row of i sayings -/
def tkM (num : Nat → Nat) (slip kd : Nat) (rw' : Nat → Nat) (i : Nat) : Nat := tk (fun t => lkM num slip rw' t i) kd (alM rw' i)
theorem bst_1 {lk : Nat → Nat} {kd : Nat} : bst lk kd 1 = 0 := by
  show (if bt lk kd 0 0 then 0 else 0) = 0
  simp
theorem bst_y {lk : Nat → Nat} {kd k : Nat} (h : lk (bst lk kd k) < lk k ∨ (lk k = lk (bst lk kd k) ∧ kd = 2 ∧ on k < on (bst lk kd k))) : k = bst lk kd (k + 1) := by
  rw [bst, if_pos]
  rcases h with h | ⟨h1, h2, h3⟩
  · simp [bt, h]
  · subst h2
    simp [bt, h1, isR, h3]
theorem bst_n {lk : Nat → Nat} {kd k : Nat} (h1 : ¬ lk (bst lk kd k) < lk k) (h : ¬ lk k = lk (bst lk kd k) ∨ ¬ kd = 2 ∨ ¬ on k < on (bst lk kd k)) : bst lk kd k = bst lk kd (k + 1) := by
  conv => rhs; rw [bst]
  rw [if_neg]
  rcases h with h | h | h
  · simp [bt, h1, h]
  · simp [bt, h1, isR, h]
  · simp [bt, h1, isR, h]
def lowN (w : Nat → Nat) (h : Nat) : Nat := pw (12 * (w 0 + w 1 + w 2)) h
theorem set3 {a b c d : Prop} (h : a ∧ b ∧ c ∧ d ∧ True) : a ∧ b ∧ c ∧ d := ⟨h.1, h.2.1, h.2.2.1, h.2.2.2.1⟩
theorem out3 {x : Int32} {j : Nat} (h : inR x 0 2 = false) (hj : j ≤ 2) : ¬ x = nI j := fun e => by
  subst e
  rw [inR_n (by decide) (by decide) (by omega)] at h
  simp at h
  omega

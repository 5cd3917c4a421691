/-! small pure words -/
def fo (t m : Nat) : Nat := (t >>> m) &&& 1
theorem fo_le (t m : Nat) : fo t m ≤ 1 := Nat.and_le_right
def hasF (t s : Nat) : Bool := decide (fo t (s / 2) = s % 2)
def pw (b : Nat) : Nat → Nat
  | 0 => 1
  | n + 1 => pw b n * b
def on (t : Nat) : Nat := (t &&& 1) + ((t >>> 1) &&& 1) + ((t >>> 2) &&& 1)
def rfo (k i : Bool) : Int32 := if k then (if i then 0 else -2) else -1
def lwst (a b pt : Nat) : Nat := if b = 0 then pt else if pt = 0 then a / Nat.gcd a b else b / Nat.gcd a b
theorem inR_f1 {v : Int32} {lo hi : Nat} (h : v < nI lo) : inR v lo hi = false := by
  have : ¬ nI lo ≤ v := fun q => absurd h (Int32.not_lt.mpr q)
  simp [inR, this]
theorem inR_f2 {v : Int32} {lo hi : Nat} (h : nI hi < v) : inR v lo hi = false := by
  have : ¬ v ≤ nI hi := fun q => absurd h (Int32.not_lt.mpr q)
  simp [inR, this]
theorem inR_tt {v : Int32} {lo hi : Nat} (h1 : ¬ v < nI lo) (h2 : ¬ nI hi < v) : inR v lo hi = true := by
  simp [inR, Int32.not_lt.mp h1, Int32.not_lt.mp h2]
theorem inL_f1 {v lo hi : Int64} (h : v < lo) : inL v lo hi = false := by
  have : ¬ lo ≤ v := fun q => absurd h (Int64.not_lt.mpr q)
  simp [inL, this]
theorem inL_f2 {v lo hi : Int64} (h : hi < v) : inL v lo hi = false := by
  have : ¬ v ≤ hi := fun q => absurd h (Int64.not_lt.mpr q)
  simp [inL, this]
theorem inL_tt {v lo hi : Int64} (h1 : ¬ v < lo) (h2 : ¬ hi < v) : inL v lo hi = true := by
  simp [inL, Int64.not_lt.mp h1, Int64.not_lt.mp h2]
theorem wide_le (a b : Int32) : a.toInt64 ≤ b.toInt64 ↔ a ≤ b := by
  rw [Int64.le_iff_toInt_le, Int32.le_iff_toInt_le, Int32.toInt_toInt64, Int32.toInt_toInt64]
theorem inL_R {v : Int32} {lo hi : Nat} (hl : lo < 2 ^ 31) (hh : hi < 2 ^ 31) : inL v.toInt64 (lN lo) (lN hi) = inR v lo hi := by
  simp only [inL, inR, ← nI_l hl, ← nI_l hh, wide_le]
theorem eu_gcd (x y : Nat) : Nat.gcd y (x % y) = Nat.gcd x y := by
  rw [Nat.gcd_comm x y, Nat.gcd_rec y x, Nat.gcd_comm]
theorem eu_bd {x y k : Nat} (hy : 0 < y) (h1 : 0 < k → x * y * 2 ^ k < 2 ^ 127) (h0 : k = 0 → x * y < 2 ^ 126) (hle : 0 < k → y ≤ x) : y * (x % y) * 2 ^ (k + 1) < 2 ^ 127 := by
  rcases Nat.eq_zero_or_pos k with rfl | hk
  · have h2 : y * (x % y) ≤ x * y := by rw [Nat.mul_comm x y]; exact Nat.mul_le_mul_left y (Nat.mod_le x y)
    have := h0 rfl
    omega
  · have h2 : 2 * (x % y) ≤ x := by
      have h3 := Nat.mod_lt x hy
      have h4 := Nat.div_add_mod x y
      have h5 : 1 ≤ x / y := (Nat.one_le_div_iff hy).mpr (hle hk)
      have h6 : y * 1 ≤ y * (x / y) := Nat.mul_le_mul_left y h5
      omega
    have h3 : y * (x % y) * 2 ^ (k + 1) ≤ x * y * 2 ^ k := by
      have e1 : y * (x % y) * 2 ^ (k + 1) = y * (2 * (x % y)) * 2 ^ k := by rw [Nat.pow_succ]; simp only [Nat.mul_assoc, Nat.mul_comm, Nat.mul_left_comm]
      rw [e1, Nat.mul_comm x y]
      exact Nat.mul_le_mul_right _ (Nat.mul_le_mul_left y h2)
    exact Nat.lt_of_le_of_lt h3 (h1 hk)
theorem eu_end {x y k : Nat} (hk : 1000 ≤ k) (h1 : 0 < k → x * y * 2 ^ k < 2 ^ 127) (hle : 0 < k → y ≤ x) : y = 0 := by
  rcases Nat.eq_zero_or_pos y with h | h
  · exact h
  · exfalso
    have hx : 0 < x := Nat.lt_of_lt_of_le h (hle (by omega))
    have h2 : 1 ≤ x * y := Nat.mul_pos hx h
    have h3 : 2 ^ 127 ≤ 2 ^ k := Nat.pow_le_pow_right (by decide) (by omega)
    have h4 : 1 * 2 ^ k ≤ x * y * 2 ^ k := Nat.mul_le_mul_right _ h2
    have := h1 (by omega)
    omega
theorem gcd_lt {a b N : Nat} (hb : 0 < b) (h : b < N) : Nat.gcd a b < N := Nat.lt_of_le_of_lt (Nat.gcd_le_right a hb) h
theorem gcd_pos {a b : Nat} (hb : 0 < b) : 0 < Nat.gcd a b := Nat.gcd_pos_of_pos_right a hb
theorem lwst_a0 {b pt : Nat} (hpt : pt ≤ 1) : lwst 0 b pt = pt := by
  unfold lwst
  rcases Nat.eq_zero_or_pos b with rfl | hb
  · simp
  · rw [if_neg (by omega)]
    rcases (show pt = 0 ∨ pt = 1 by omega) with rfl | rfl
    · simp
    · simp [Nat.gcd_zero_left, Nat.div_self hb]
theorem lwst_b0 {a pt : Nat} : lwst a 0 pt = pt := by simp [lwst]
theorem lN_le0 {a : Nat} (ha : a < 2 ^ 63) (h : lN a ≤ lN 0) : a = 0 := Nat.le_zero.mp ((pk_lLE ha (by decide)).mp h)
theorem lN_gt0 {a : Nat} (ha : a < 2 ^ 63) (h : lN 0 < lN a) : 0 < a := (pk_lLT (by decide) ha).mp h
theorem lN_eq0 {a : Nat} (ha : a < 2 ^ 63) (h : lN a = lN 0) : a = 0 := (pk_lEQ ha (by decide)).mp h
theorem lN_ne {a : Nat} (h : ¬ lN a = lN 0) : 0 < a := Nat.pos_of_ne_zero (fun q => h (by rw [q]))
theorem n_bit {p : Nat → Prop} : True := trivial
def fillN (f : Nat → Int32) (x : Int32) (k : Nat) : Nat → Int32 := fun j => if j < k then x else f j
theorem fillN_0 (f : Nat → Int32) (x : Int32) : fillN f x 0 = f := by funext j; simp [fillN]
theorem fillN_s (f : Nat → Int32) (x : Int32) (k : Nat) : upd (fillN f x k) k x = fillN f x (k + 1) := by
  funext j
  by_cases h : j = k
  · subst h; simp [upd, fillN]
  · have e : (j < k + 1) = (j < k) := by simp only [eq_iff_iff]; omega
    simp [upd, fillN, h, e]
def fillL (f : Nat → Int64) (x : Int64) (k : Nat) : Nat → Int64 := fun j => if j < k then x else f j
theorem fillL_0 (f : Nat → Int64) (x : Int64) : fillL f x 0 = f := by funext j; simp [fillL]
theorem fillL_s (f : Nat → Int64) (x : Int64) (k : Nat) : vp_updL (fillL f x k) k x = fillL f x (k + 1) := by
  funext j
  by_cases h : j = k
  · subst h; simp [vp_updL, fillL]
  · have e : (j < k + 1) = (j < k) := by simp only [eq_iff_iff]; omega
    simp [vp_updL, fillL, h, e]
section NEWA
variable {p : Program} {l : Launch} {e : Env} {R : Room} {s : State} {m : MethodId} {args : Array Value} {below : List Frame} {meth : Method} {c : Code} {H : Heap} {locs : List Loc} {cells slots : Nat} {Q : State → Prop}
variable {cc : ByteArray} {pc : Nat} {ls : Array Slot} {rest : List Value} {D : va_G} {A : Nat → Prop} {ws : va_W} {H0 : Heap} {cI cJ : ClassId}
theorem r_newI (hx : p.tables.exec = Jvm.exec) (hb : c.code = cc) (harr : (Cond.arrayClass .int).before args s = true) (hK : va_K D vwCl [(cI, .int), (cJ, .long)] s) (hP : va_P D vwCl ws H) (hD : va_D A ws) (hS : va_S A H0 H locs) (hA : ∀ q, H0.size ≤ q → A q) {n : Nat} (hn : n < 2 ^ 31) (hbytes : n * componentBytes .int ≤ 536870912) (hcells : cells + 1 ≤ R.cells) (hslots : slots + n ≤ R.slots) (hdg : decode cc pc = .ok (.newarray .int, 2))
    (kk : ∀ (q : Nat) (H1 : Heap), va_P D vwCl (ws ++ [(q, .inl (cI, n, .inl (fun _ => 0)))]) H1 → va_D A (ws ++ [(q, .inl (cI, n, .inl (fun _ => 0)))]) → va_S A H0 H1 locs → W p l e R s m args below meth c H1 locs (cells + 1) (slots + n) Q (F0 m (pc + 2) ls (.ref q :: rest))) : W p l e R s m args below meth c H locs cells slots Q (F0 m pc ls (.int (nI n) :: rest)) := by
  refine va_newa (atype := .int) (ty := .int) (a0 := (n, .inl (fun _ => 0))) hx hb harr rfl hK hP hD hS hA (fun _ => by rw [vp_cell_i]; rfl) (nI_pos hn) (nI_clamp hn) hbytes hcells hslots hdg (fun q cA H1 hK1 hP1 hD1 hS1 => ?_)
  have e1 := (hK1.2 2 (cA, .int) rfl).2
  have e2 := (hK1.2 0 (cI, .int) rfl).2
  have e3 : cA = cI := Option.some.inj (e1.symm.trans e2)
  subst e3
  exact kk q H1 hP1 hD1 hS1
theorem r_newJ (hx : p.tables.exec = Jvm.exec) (hb : c.code = cc) (harr : (Cond.arrayClass .long).before args s = true) (hK : va_K D vwCl [(cI, .int), (cJ, .long)] s) (hP : va_P D vwCl ws H) (hD : va_D A ws) (hS : va_S A H0 H locs) (hA : ∀ q, H0.size ≤ q → A q) {n : Nat} (hn : n < 2 ^ 31) (hbytes : n * componentBytes .long ≤ 536870912) (hcells : cells + 1 ≤ R.cells) (hslots : slots + n ≤ R.slots) (hdg : decode cc pc = .ok (.newarray .long, 2))
    (kk : ∀ (q : Nat) (H1 : Heap), va_P D vwCl (ws ++ [(q, .inl (cJ, n, .inr (.inl (fun _ => 0))))]) H1 → va_D A (ws ++ [(q, .inl (cJ, n, .inr (.inl (fun _ => 0))))]) → va_S A H0 H1 locs → W p l e R s m args below meth c H1 locs (cells + 1) (slots + n) Q (F0 m (pc + 2) ls (.ref q :: rest))) : W p l e R s m args below meth c H locs cells slots Q (F0 m pc ls (.int (nI n) :: rest)) := by
  refine va_newa (atype := .long) (ty := .long) (a0 := (n, .inr (.inl (fun _ => 0)))) hx hb harr rfl hK hP hD hS hA (fun _ => by rw [vp_cell_l]; rfl) (nI_pos hn) (nI_clamp hn) hbytes hcells hslots hdg (fun q cA H1 hK1 hP1 hD1 hS1 => ?_)
  have e1 := (hK1.2 2 (cA, .long) rfl).2
  have e2 := (hK1.2 1 (cJ, .long) rfl).2
  have e3 : cA = cJ := Option.some.inj (e1.symm.trans e2)
  subst e3
  exact kk q H1 hP1 hD1 hS1
end NEWA

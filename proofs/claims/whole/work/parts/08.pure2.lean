/-! arrays of small naturals; what a learner takes -/
def nF (g : Nat → Nat) : Nat → Int32 := fun j => nI (g j)
def lF (g : Nat → Nat) : Nat → Int64 := fun j => lN (g j)
def nu (g : Nat → Nat) (k x : Nat) : Nat → Nat := fun j => if j = k then x else g j
def nfl (g : Nat → Nat) (v N : Nat) : Nat → Nat := fun j => if j < N then v else g j
theorem nu_s (g : Nat → Nat) (k x : Nat) : nu g k x k = x := if_pos rfl
theorem nu_n {g : Nat → Nat} {k x j : Nat} (h : j ≠ k) : nu g k x j = g j := if_neg h
theorem nF_upd (g : Nat → Nat) (k x : Nat) : upd (nF g) k (nI x) = nF (nu g k x) := by
  funext j
  by_cases h : j = k
  · subst h; simp [upd, nF, nu]
  · simp [upd, nF, nu, h]
theorem lF_upd (g : Nat → Nat) (k x : Nat) : vp_updL (lF g) k (lN x) = lF (nu g k x) := by
  funext j
  by_cases h : j = k
  · subst h; simp [vp_updL, lF, nu]
  · simp [vp_updL, lF, nu, h]
theorem nF_fill (g : Nat → Nat) (v N : Nat) : fillN (nF g) (nI v) N = nF (nfl g v N) := by
  funext j
  by_cases h : j < N <;> simp [fillN, nF, nfl, h]
theorem lF_fill (g : Nat → Nat) (v N : Nat) : fillL (lF g) (lN v) N = lF (nfl g v N) := by
  funext j
  by_cases h : j < N <;> simp [fillL, lF, nfl, h]
theorem nF_z : (fun _ => 0 : Nat → Int32) = nF (fun _ => 0) := rfl
theorem lF_z : (fun _ => 0 : Nat → Int64) = lF (fun _ => 0) := rfl
section MYN
variable {p : Program} {l : Launch} {e : Env} {R : Room} {s : State} {m : MethodId} {args : Array Value} {below : List Frame} {meth : Method} {c : Code} {H : Heap} {locs : List Loc} {cells slots : Nat} {Q : State → Prop}
variable {cc : ByteArray} {pc : Nat} {ls : Array Slot} {rest : List Value} {D : va_G} {cl : List vw_C} {A : Nat → Prop} {tys : List (ClassId × FieldType)} {ws : va_W} {H0 : Heap}
theorem r_iastN (hx : p.tables.exec = Jvm.exec) (hb : c.code = cc) (hK : va_K D cl tys s) (hP : va_P D cl ws H) (hD : va_D A ws) (hS : va_S A H0 H locs) (q0 t0 : Nat) {a : Nat} {cA : ClassId} {n : Nat} {g : Nat → Nat} (ha : ws[q0]? = some (a, .inl (cA, n, .inl (nF g)))) (ht : tys[t0]? = some (cA, .int)) {i x : Nat} (hi : i < n) (hn : n < 2 ^ 31) (hdg : decode cc pc = .ok (.iastore, 1))
    (kk : ∀ (H1 : Heap) (locs1 : List Loc), va_P D cl (ws.set q0 (a, .inl (cA, n, .inl (nF (nu g i x))))) H1 → va_D A (ws.set q0 (a, .inl (cA, n, .inl (nF (nu g i x))))) → va_S A H0 H1 locs1 → W p l e R s m args below meth c H1 locs1 cells slots Q (F0 m (pc + 1) ls rest)) : W p l e R s m args below meth c H locs cells slots Q (F0 m pc ls (.int (nI x) :: .int (nI i) :: .ref a :: rest)) :=
  r_iast hx hb hK hP hD hS q0 t0 ha ht hi hn hdg (by rw [nF_upd]; exact kk)
theorem r_lastN (hx : p.tables.exec = Jvm.exec) (hb : c.code = cc) (hK : va_K D cl tys s) (hP : va_P D cl ws H) (hD : va_D A ws) (hS : va_S A H0 H locs) (q0 t0 : Nat) {a : Nat} {cA : ClassId} {n : Nat} {g : Nat → Nat} (ha : ws[q0]? = some (a, .inl (cA, n, .inr (.inl (lF g))))) (ht : tys[t0]? = some (cA, .long)) {i x : Nat} (hi : i < n) (hn : n < 2 ^ 31) (hdg : decode cc pc = .ok (.lastore, 1))
    (kk : ∀ (H1 : Heap) (locs1 : List Loc), va_P D cl (ws.set q0 (a, .inl (cA, n, .inr (.inl (lF (nu g i x)))))) H1 → va_D A (ws.set q0 (a, .inl (cA, n, .inr (.inl (lF (nu g i x)))))) → va_S A H0 H1 locs1 → W p l e R s m args below meth c H1 locs1 cells slots Q (F0 m (pc + 1) ls rest)) : W p l e R s m args below meth c H locs cells slots Q (F0 m pc ls (.long (lN x) :: .int (nI i) :: .ref a :: rest)) :=
  r_last hx hb hK hP hD hS q0 t0 ha ht hi hn hdg (by rw [lF_upd]; exact kk)
end MYN
def shw (tn : Nat → Nat) (t : Nat) : Nat → Nat
  | 0 => 0
  | k + 1 => shw tn t k + tn (2 * k + fo t k)
def lkC (num : Nat → Nat) (slip : Nat) (tn : Nat → Nat) (al t : Nat) : Nat := num t * pw (12 - slip) (shw tn t 3) * pw slip (al - shw tn t 3)
def isR (kd t b : Nat) : Bool := decide (kd = 2) && decide (on t < on b)
def bt (lk : Nat → Nat) (kd t b : Nat) : Bool := decide (lk b < lk t) || (decide (lk t = lk b) && isR kd t b)
def bst (lk : Nat → Nat) (kd : Nat) : Nat → Nat
  | 0 => 0
  | k + 1 => if bt lk kd k (bst lk kd k) then k else bst lk kd k
def fi (p : Nat → Bool) : Nat → Nat → Nat
  | 0, k => k
  | r + 1, k => if p k then k else fi p r (k + 1)
def tk (lk : Nat → Nat) (kd : Nat) (fits : Nat → Bool) : Nat := if kd = 1 ∧ fi fits 8 0 < 8 then fi fits 8 0 else bst lk kd 8
theorem fi_go {p : Nat → Bool} : ∀ (r k : Nat), fi p r k ≤ k + r
  | 0, k => Nat.le_refl k
  | r + 1, k => by
    unfold fi
    split
    · omega
    · have := fi_go (p := p) r (k + 1); omega
theorem fi_skip {p : Nat → Bool} {N : Nat} : ∀ k : Nat, k ≤ N → (∀ j, j < k → p j = false) → fi p N 0 = fi p (N - k) k
  | 0, _, _ => rfl
  | k + 1, hk, h => by
    rw [fi_skip k (by omega) (fun j hj => h j (by omega)), show N - k = (N - (k + 1)) + 1 by omega, fi, if_neg (by rw [h k (by omega)]; decide)]
theorem fi_hit {p : Nat → Bool} {N k : Nat} (hk : k < N) (h : ∀ j, j < k → p j = false) (hp : p k = true) : fi p N 0 = k := by
  rw [fi_skip k (by omega) h, show N - k = (N - k - 1) + 1 by omega, fi, if_pos hp]
theorem fi_none {p : Nat → Bool} {N : Nat} (h : ∀ j, j < N → p j = false) : fi p N 0 = N := by
  rw [fi_skip N (Nat.le_refl N) h, Nat.sub_self]; rfl
theorem tk_lazy {lk : Nat → Nat} {kd : Nat} {fits : Nat → Bool} {k : Nat} (h1 : kd = 1) (hk : k < 8) (h : ∀ j, j < k → fits j = false) (hp : fits k = true) : tk lk kd fits = k := by
  unfold tk
  rw [fi_hit hk h hp, if_pos ⟨h1, hk⟩]
theorem tk_bst {lk : Nat → Nat} {kd : Nat} {fits : Nat → Bool} (h : kd = 1 → ∀ j, j < 8 → fits j = false) : tk lk kd fits = bst lk kd 8 := by
  unfold tk
  rw [if_neg]
  rintro ⟨h1, h2⟩
  rw [fi_none (h h1)] at h2
  omega
theorem bst_lt {lk : Nat → Nat} {kd : Nat} : ∀ k, 0 < k → bst lk kd k < k
  | 0, h => absurd h (Nat.lt_irrefl 0)
  | k + 1, _ => by
    unfold bst
    split
    · exact Nat.lt_succ_self k
    · rcases Nat.eq_zero_or_pos k with rfl | hk
      · exact Nat.lt_succ_self 0
      · exact Nat.lt_succ_of_lt (bst_lt k hk)
theorem tk_lt {lk : Nat → Nat} {kd : Nat} {fits : Nat → Bool} : tk lk kd fits < 8 := by
  unfold tk
  split
  · rename_i h; exact h.2
  · exact bst_lt 8 (by decide)
theorem lz_s {kd k : Nat} {p : Nat → Bool} (h : kd = 1 → ∀ j, j < k → p j = false) (h2 : kd = 1 → p k = false) : kd = 1 → ∀ j, j < k + 1 → p j = false := fun h1 j hj => by
  rcases Nat.lt_or_ge j k with q | q
  · exact h h1 j q
  · rw [show j = k by omega]; exact h2 h1
def chI (lk : Nat → Nat) (kd k best : Nat) (most : Int64) : Prop := (k = 0 ∧ best = 0 ∧ most = -1) ∨ (0 < k ∧ best = bst lk kd k ∧ most = lN (lk best))
theorem m1_lt {a : Nat} (h : a < 2 ^ 63) : (-1 : Int64) < lN a := by
  rw [Int64.lt_iff_toInt_lt, pk_lT h]
  have : (-1 : Int64).toInt = -1 := by decide
  omega
theorem ch_up {lk : Nat → Nat} {kd k best : Nat} {most : Int64} (hb : ∀ t, t < 8 → lk t < 2 ^ 63) (hk : k < 8) (hst : chI lk kd k best most) (h : most < lN (lk k) ∨ (lN (lk k) = most ∧ isR kd k best = true)) : chI lk kd (k + 1) k (lN (lk k)) := by
  refine Or.inr ⟨Nat.succ_pos k, ?_, rfl⟩
  unfold bst
  rcases hst with ⟨rfl, rfl, rfl⟩ | ⟨h0, e1, e2⟩
  · split
    · rfl
    · rfl
  · rw [← e1]
    have hlb : lk best < 2 ^ 63 := hb best (by rw [e1]; exact Nat.lt_trans (bst_lt k h0) hk)
    have ht : bt lk kd k best = true := by
      unfold bt
      rcases h with h | ⟨h, h'⟩
      · rw [e2] at h
        have := (pk_lLT hlb (hb k hk)).mp h
        simp [this]
      · rw [e2] at h
        have := (pk_lEQ (hb k hk) hlb).mp h
        simp [this, h']
    rw [if_pos ht]
theorem ch_no {lk : Nat → Nat} {kd k best : Nat} {most : Int64} (hb : ∀ t, t < 8 → lk t < 2 ^ 63) (hk : k < 8) (hst : chI lk kd k best most) (h1 : ¬ most < lN (lk k)) (h : ¬ lN (lk k) = most ∨ isR kd k best = false) : chI lk kd (k + 1) best most := by
  rcases hst with ⟨rfl, rfl, rfl⟩ | ⟨h0, e1, e2⟩
  · exact absurd (m1_lt (hb 0 hk)) h1
  · refine Or.inr ⟨Nat.succ_pos k, ?_, e2⟩
    unfold bst
    rw [← e1]
    have hlb : lk best < 2 ^ 63 := hb best (by rw [e1]; exact Nat.lt_trans (bst_lt k h0) hk)
    have ht : bt lk kd k best = false := by
      unfold bt
      have a1 : ¬ lk best < lk k := fun q => h1 (by rw [e2]; exact (pk_lLT hlb (hb k hk)).mpr q)
      rcases h with h | h
      · have a2 : ¬ lk k = lk best := fun q => h (by rw [e2, q])
        simp [a1, a2]
      · simp [a1, h]
    rw [ht]
    rfl
theorem pw_le {b c : Nat} (h : b ≤ c) : ∀ n, pw b n ≤ pw c n
  | 0 => Nat.le_refl 1
  | n + 1 => Nat.mul_le_mul (pw_le h n) h
theorem pw_add (b m : Nat) : ∀ n, pw b (m + n) = pw b m * pw b n
  | 0 => (Nat.mul_one _).symm
  | n + 1 => by
    show pw b (m + n) * b = pw b m * (pw b n * b)
    rw [pw_add b m n, Nat.mul_assoc]
theorem pw_pos {b : Nat} (h : 0 < b) : ∀ n, 0 < pw b n
  | 0 => Nat.one_pos
  | n + 1 => Nat.mul_pos (pw_pos h n) h
theorem pw_mono {b : Nat} (h : 0 < b) {m n : Nat} (hmn : m ≤ n) : pw b m ≤ pw b n := by
  rw [show n = m + (n - m) by omega, pw_add]
  exact Nat.le_mul_of_pos_right _ (pw_pos h _)
theorem lkC_lt {num tn : Nat → Nat} {slip al t : Nat} (hn : num t < 10) (hs : slip ≤ 12) (ha : al ≤ 6) (hsh : shw tn t 3 ≤ al) : lkC num slip tn al t < 2 ^ 63 := by
  unfold lkC
  have h1 : pw (12 - slip) (shw tn t 3) ≤ pw 12 (shw tn t 3) := pw_le (by omega) _
  have h2 : pw slip (al - shw tn t 3) ≤ pw 12 (al - shw tn t 3) := pw_le hs _
  have h3 : pw 12 (shw tn t 3) * pw 12 (al - shw tn t 3) ≤ pw 12 6 := by
    rw [← pw_add]; exact pw_mono (by decide) (by omega)
  have h4 : pw (12 - slip) (shw tn t 3) * pw slip (al - shw tn t 3) ≤ pw 12 6 := Nat.le_trans (Nat.mul_le_mul h1 h2) h3
  have h5 : num t * (pw (12 - slip) (shw tn t 3) * pw slip (al - shw tn t 3)) ≤ 9 * pw 12 6 := Nat.mul_le_mul (by omega) h4
  rw [Nat.mul_assoc]
  exact Nat.lt_of_le_of_lt h5 (by decide)
theorem on_lt (t : Nat) : on t < 2 ^ 31 := by
  unfold on
  have h1 : t &&& 1 ≤ 1 := Nat.and_le_right
  have h2 : (t >>> 1) &&& 1 ≤ 1 := Nat.and_le_right
  have h3 : (t >>> 2) &&& 1 ≤ 1 := Nat.and_le_right
  omega
theorem isR_t {kd t b : Nat} (h : kd = 2) (h2 : on t < on b) : isR kd t b = true := by simp [isR, h, h2]
theorem isR_f1 {kd t b : Nat} (h : ¬ kd = 2) : isR kd t b = false := by simp [isR, h]
theorem isR_f2 {kd t b : Nat} (h : on b ≤ on t) : isR kd t b = false := by
  have : ¬ on t < on b := by omega
  simp [isR, this]
theorem ch_end {lk : Nat → Nat} {kd k best : Nat} {most : Int64} (hst : chI lk kd k best most) (hk : k = 8) : best = bst lk kd 8 := by
  rcases hst with ⟨h0, -, -⟩ | ⟨-, e1, -⟩
  · omega
  · rw [e1, hk]

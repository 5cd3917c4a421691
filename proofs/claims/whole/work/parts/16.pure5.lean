/-! steps, as they are made -/
def odS (w : Nat → Nat) (slip t s : Nat) : Nat := w (s / 2) * (if fo t (s / 2) = s % 2 then 12 - slip else slip)
theorem odS_y {w : Nat → Nat} {slip t s : Nat} (h : fo t (s / 2) = s % 2) : odS w slip t s = w (s / 2) * (12 - slip) := by rw [odS, if_pos h]
theorem odS_n {w : Nat → Nat} {slip t s : Nat} (h : ¬ fo t (s / 2) = s % 2) : odS w slip t s = w (s / 2) * slip := by rw [odS, if_neg h]
def hI (od : Nat → Nat) (lt : Nat) (X : Nat → Nat) : Nat → Nat → Nat
  | 0 => X
  | s + 1 => nu (hI od lt X s) (GR (lt * 6 + s)) (hI od lt X s (GR (lt * 6 + s)) + hI od lt X s lt * od s)
def hO (od : Nat → Nat) (B : Nat) (X : Nat → Nat) : Nat → Nat → Nat
  | 0 => X
  | k + 1 => hI od (B + k) (hO od B X k) 6
theorem tb_GRn : ∀ lt, lt < 84 → ∀ s, s < 6 → GR (lt * 6 + s) ≠ lt := by decide +kernel
theorem hI_self {od : Nat → Nat} {lt : Nat} {X : Nat → Nat} (hl : lt < 84) : ∀ s, s ≤ 6 → hI od lt X s lt = X lt
  | 0, _ => rfl
  | s + 1, h => by
    show nu _ _ _ lt = X lt
    rw [nu_n (fun q => tb_GRn lt hl s (by omega) q.symm)]
    exact hI_self hl s (by omega)
theorem lN_add' (a b : Nat) : lN (a + b) = lN a + lN b := (lN_add a b).symm
theorem lN_mul' (a b : Nat) : lN (a * b) = lN a * lN b := (lN_mul a b).symm
theorem lN_z (a b : Nat) (h : lN a = lN 0) (x : Nat) : lN (x + a * b) = lN x := by
  rw [lN_add', lN_mul', h, show lN 0 = 0 from rfl, Int64.zero_mul, Int64.add_zero]
theorem lN_z1 (a : Nat) (h : lN a = lN 0) (x : Nat) : lN (x + a) = lN x := by
  rw [lN_add', h, show lN 0 = 0 from rfl, Int64.add_zero]
theorem hI_skip {od : Nat → Nat} {lt : Nat} {X : Nat → Nat} (hl : lt < 84) (h : lN (X lt) = lN 0) : ∀ s, s ≤ 6 → lF (hI od lt X s) = lF X
  | 0, _ => rfl
  | s + 1, hs => by
    have ih := hI_skip (od := od) hl h s (by omega)
    funext j
    have ij : lN (hI od lt X s j) = lN (X j) := congrFun ih j
    show lN (nu (hI od lt X s) (GR (lt * 6 + s)) (hI od lt X s (GR (lt * 6 + s)) + hI od lt X s lt * od s) j) = lN (X j)
    by_cases e : j = GR (lt * 6 + s)
    · rw [← e, nu_s, hI_self hl s (by omega), lN_z _ _ h]
      exact ij
    · rw [nu_n e]; exact ij
def LKf (w : Nat → Nat) (slip bk fr b : Nat) : Nat → Nat → Nat
  | 0 => fun j => if j = 0 then 1 else 0
  | k + 1 => hO (odS w slip (if k < b then bk else fr)) (fT k) (LKf w slip bk fr b k) (fT (k + 1) - fT k)
theorem LKf_b {w : Nat → Nat} {slip bk fr b k : Nat} (h : k < b) : hO (odS w slip bk) (fT k) (LKf w slip bk fr b k) (fT (k + 1) - fT k) = LKf w slip bk fr b (k + 1) := by
  rw [LKf, if_pos h]
theorem LKf_t {w : Nat → Nat} {slip bk fr b k : Nat} (h : b ≤ k) : hO (odS w slip fr) (fT k) (LKf w slip bk fr b k) (fT (k + 1) - fT k) = LKf w slip bk fr b (k + 1) := by
  rw [LKf, if_neg (by omega)]
def rW (ch : Nat → Nat) (L : Nat → Nat) (B : Nat) : Nat → Nat → Nat
  | 0 => fun _ => 0
  | k + 1 => nu (rW ch L B k) (ch (B + k)) (rW ch L B k (ch (B + k)) + L (B + k))
theorem rW_skip {ch L : Nat → Nat} {B k : Nat} (h : lN (L (B + k)) = lN 0) : lF (rW ch L B k) = lF (rW ch L B (k + 1)) := by
  funext j
  show lN (rW ch L B k j) = lN (nu (rW ch L B k) (ch (B + k)) (rW ch L B k (ch (B + k)) + L (B + k)) j)
  by_cases e : j = ch (B + k)
  · rw [← e, nu_s, lN_z1 _ h]
  · rw [nu_n e]
/-- the row of odds: from a tongue, the first b sayings the book's -/
def rwF (w : Nat → Nat) (slip kd : Nat) (num : Nat → Nat) (h bk fr b : Nat) : Nat → Nat := rW (chF num slip kd) (LKf w slip bk fr b h) (fT h) (fT (h + 1) - fT h)
def stp (w : Nat → Nat) (slip kd : Nat) (num : Nat → Nat) (h i : Nat) : Nat := rwF w slip kd num h (i / 8) (i / 8) 0 (i % 8)
def wh (w : Nat → Nat) (h k : Nat) : Nat := pw (12 * (w 0 + w 1 + w 2)) (h * k)
def ncpy (a b : Nat → Nat) (sp dp n : Nat) : Nat → Nat := fun j => if dp ≤ j ∧ j < dp + n then a (sp + (j - dp)) else b j
theorem lF_cpy (a b : Nat → Nat) (sp dp n : Nat) : va_cpy (lF a) (lF b) sp dp n = lF (ncpy a b sp dp n) := by
  funext j
  show (if dp ≤ j ∧ j < dp + n then lF a (sp + (j - dp)) else lF b j) = lN (if dp ≤ j ∧ j < dp + n then a (sp + (j - dp)) else b j)
  by_cases h : dp ≤ j ∧ j < dp + n
  · rw [if_pos h, if_pos h]; rfl
  · rw [if_neg h, if_neg h]; rfl
theorem sh1 : ∀ k, k < 8 → 1 * 2 ^ k < 2 ^ 32 := by decide
def nxO (od : Nat → Nat) (fr : Nat) : Nat → Nat
  | 0 => 0
  | k + 1 => if 0 < od (fr * 8 + k) then nxO od fr k ||| (1 <<< k) else nxO od fr k
def kpO (od : Nat → Nat) (W1 : Nat) : Nat → Nat
  | 0 => 0
  | k + 1 => if od (k * 8 + k) = W1 then kpO od W1 k ||| (1 <<< k) else kpO od W1 k
def fS (od now : Nat → Nat) : Nat → Nat → Nat
  | 0 => fun _ => 0
  | i + 1 => nu (fS od now i) (i % 8) (fS od now i (i % 8) + now (i / 8) * od i)
def bS (od now : Nat → Nat) : Nat → Nat → Nat
  | 0 => fun _ => 0
  | i + 1 => nu (bS od now i) (i / 8) (bS od now i (i / 8) + od i * now (i % 8))
def fwd (od : Nat → Nat) (fr : Nat) : Nat → Nat → Nat
  | 0 => fun j => if j = fr then 1 else 0
  | k + 1 => fS od (fwd od fr k) 64
def bwd (od : Nat → Nat) (to : Nat) : Nat → Nat → Nat
  | 0 => fun j => if j = to then 1 else 0
  | k + 1 => bS od (bwd od to k) 64
theorem start_ag (g : Nat → Nat) {t N : Nat} : ∀ j, j < N → lF (nu (nfl g 0 N) t 1) j = lF (fun j => if j = t then 1 else 0) j := fun j hj => by
  show lN (nu (nfl g 0 N) t 1 j) = lN (if j = t then 1 else 0)
  by_cases e : j = t
  · subst e; rw [nu_s, if_pos rfl]
  · rw [nu_n e, if_neg e, nfl, if_pos hj]
theorem zero_ag (g : Nat → Nat) {N : Nat} : ∀ j, j < N → lF (nfl g 0 N) j = lF (fun _ => 0) j := fun j hj => by
  show lN (nfl g 0 N j) = lN 0
  rw [nfl, if_pos hj]
theorem cpy_ag (a b : Nat → Nat) {N : Nat} : ∀ j, j < N → lF (ncpy a b 0 0 N) j = lF a j := fun j hj => by
  show lN (ncpy a b 0 0 N j) = lN (a j)
  rw [ncpy, if_pos ⟨Nat.zero_le _, by omega⟩, Nat.sub_zero, Nat.zero_add]
theorem mul_lt31 {a b : Nat} (ha : a ≤ 4) (hb : b ≤ 12) : a * b < 2 ^ 31 := Nat.lt_of_le_of_lt (Nat.mul_le_mul ha hb) (by decide)
theorem stp_s {w : Nat → Nat} {slip kd : Nat} {num : Nat → Nat} {h k : Nat} {o : Nat → Nat} (hk : k < 8) (ho : ∀ i, i < k * 8 → o i = stp w slip kd num h i) : ∀ i, i < (k + 1) * 8 → ncpy (rwF w slip kd num h k k 0) o 0 (k * 8) 8 i = stp w slip kd num h i := fun i hi => by
  unfold ncpy
  by_cases e : k * 8 ≤ i ∧ i < k * 8 + 8
  · rw [if_pos e, stp, show i / 8 = k by omega, Nat.zero_add, show i % 8 = i - k * 8 by omega]
  · rw [if_neg e]; exact ho i (by omega)
section COPY
variable {p : Program} {l : Launch} {e : Env} {R : Room} {s : State} {m : MethodId} {args : Array Value} {below : List Frame} {meth : Method} {c : Code} {H : Heap} {locs : List Loc} {cells slots : Nat} {Q : State → Prop}
variable {cc : ByteArray} {pc : Nat} {ls : Array Slot} {rest : List Value} {D : va_G} {cl : List vw_C} {A : Nat → Prop} {tys : List (ClassId × FieldType)} {ws : va_W} {H0 : Heap}
theorem r_copyL (hx : p.tables.exec = Jvm.exec) (hb : c.code = cc) (hml : c.maxLocals = ls.size) {own : String} {index : Nat} (hown : s.vm.findClass own = some m.cls) (hlink : (Cond.methodLink own index arraycopyName).before args s = true) (hnat : (Cond.native arraycopyName).before args s = true) (hstat : (Cond.static arraycopyName).before args s = true) (hini : (Cond.initialized "java/lang/System").before args s = true)
    (hK : va_K D cl tys s) (hP : va_P D cl ws H) (hD : va_D A ws) (hS : va_S A H0 H locs) (q0 q1 t0 : Nat) {a a0 : Nat} {cA : ClassId} {n0 n1 : Nat} {f g : Nat → Nat} (ha0 : ws[q0]? = some (a0, .inl (cA, n0, .inr (.inl (lF f))))) (ha1 : ws[q1]? = some (a, .inl (cA, n1, .inr (.inl (lF g))))) (ht0 : tys[t0]? = some (cA, .long))
    {sp dp n : Nat} (h1 : sp < 2 ^ 31) (h2 : dp < 2 ^ 31) (h3 : n < 2 ^ 31) (h4 : sp + n ≤ n0) (h5 : dp + n ≤ n1)
    (hframes : 1 ≤ R.frames) (hlocals : (rest.map fun v => v.category).sum + (nativeFrameWords "java/lang/System" "arraycopy" 5 + 11) ≤ R.locals) (hdg : decode cc pc = .ok (.invokestatic index, 3))
    (kk : ∀ (H1 : Heap) (locs1 : List Loc), va_P D cl (ws.set q1 (a, .inl (cA, n1, .inr (.inl (lF (ncpy f g sp dp n)))))) H1 → va_D A (ws.set q1 (a, .inl (cA, n1, .inr (.inl (lF (ncpy f g sp dp n)))))) → va_S A H0 H1 locs1 → W p l e R s m args below meth c H1 locs1 cells slots Q (F0 m (pc + 3) ls rest)) : W p l e R s m args below meth c H locs cells slots Q (F0 m pc ls (.int (nI n) :: .int (nI dp) :: .ref a :: .int (nI sp) :: .ref a0 :: rest)) := by
  refine va_copyl hx hb hml hown hlink hnat hstat hini hK hP hD hS q0 q1 t0 t0 ha0 ha1 ht0 ht0 rfl (nI_pos h1) (nI_pos h2) (nI_pos h3) (by rw [nI_clamp h1, nI_clamp h3]; exact h4) (by rw [nI_clamp h2, nI_clamp h3]; exact h5) (fun i _ => rfl) hframes hlocals hdg ?_
  rw [nI_clamp h1, nI_clamp h2, nI_clamp h3, lF_cpy]
  exact kk
end COPY

/-! leads, lasts, lives, often, chosen, back: as the class makes them -/
def ibt (o t : Nat) : Bool := decide ((o >>> t) &&& 1 = 1)
def oF (g : Nat → Nat) (m f : Nat) : Nat → Nat
  | 0 => 0
  | k + 1 => if fo k m = f then oF g m f k + g k else oF g m f k
theorem oF_y {g : Nat → Nat} {m f k : Nat} (h : fo k m = f) : oF g m f k + g k = oF g m f (k + 1) := by rw [oF, if_pos h]
theorem oF_n {g : Nat → Nat} {m f k : Nat} (h : ¬ fo k m = f) : oF g m f k = oF g m f (k + 1) := by rw [oF, if_neg h]
theorem oF_le {g : Nat → Nat} {m f : Nat} : ∀ k, oF g m f k ≤ sm k g
  | 0 => Nat.le_refl 0
  | k + 1 => by
    have := oF_le (g := g) (m := m) (f := f) k
    rw [oF, sm]
    split <;> omega
def rfL (k i : Bool) (h : Nat) (p : Int32) : Int32 := if rfo k (i && inR p 1 4) = 0 then (if h * tN p ≤ 8 then 0 else -3) else rfo k (i && inR p 1 4)
theorem rfL_0 {k i : Bool} {h : Nat} {p : Int32} (q : rfL k i h p = 0) : k = true ∧ i = true ∧ inR p 1 4 = true ∧ h * tN p ≤ 8 := by
  unfold rfL at q
  by_cases h1 : rfo k (i && inR p 1 4) = 0
  · rw [if_pos h1] at q
    have h2 := rfo_0.mp h1
    have h3 := Bool.and_eq_true_iff.mp h2.2
    refine ⟨h2.1, h3.1, h3.2, ?_⟩
    by_cases h4 : h * tN p ≤ 8
    · exact h4
    · rw [if_neg h4] at q; exact absurd q (by decide)
  · rw [if_neg h1] at q
    exact absurd q h1
def aLv (rr : Int32) (v W : Nat) (pt : Int32) : Int64 := if rr = 0 then lN (lwst v W (tN pt)) else lost rr
theorem sh_lt : ∀ k, k < 8 → 1 <<< k < 256 := by decide
theorem sh_pos : ∀ k, k < 8 → 1 ≤ 1 <<< k := by decide
theorem or_256 {a b : Nat} (ha : a < 256) (hb : b < 256) : a ||| b < 256 := Nat.or_lt_two_pow (n := 8) ha hb
theorem nxO_lt {od : Nat → Nat} {fr : Nat} : ∀ k, k ≤ 8 → nxO od fr k < 256
  | 0, _ => by show 0 < 256; decide
  | k + 1, h => by
    rw [nxO]
    split
    · exact or_256 (nxO_lt k (by omega)) (sh_lt k (by omega))
    · exact nxO_lt k (by omega)
def r0 (od : Nat → Nat) (t : Nat) : Nat := (1 <<< t) ||| nxO od t 8
def rI (b : Nat) (re : Nat → Nat) : Nat → Nat → Nat
  | 0 => re
  | k + 1 => if ibt (rI b re k k) b then nu (rI b re k) k (rI b re k k ||| rI b re k b) else rI b re k
def rO (re : Nat → Nat) : Nat → Nat → Nat
  | 0 => re
  | b + 1 => rI b (rO re b) 8
theorem rI_lt {b : Nat} {re : Nat → Nat} (hb : b < 8) (h : ∀ j, j < 8 → re j < 256) : ∀ k, k ≤ 8 → ∀ j, j < 8 → rI b re k j < 256
  | 0, _, j, hj => h j hj
  | k + 1, hk, j, hj => by
    rw [rI]
    have ih := rI_lt hb h k (by omega)
    split
    · by_cases e : j = k
      · subst e; rw [nu_s]; exact or_256 (ih j hj) (ih b hb)
      · rw [nu_n e]; exact ih j hj
    · exact ih j hj
theorem rO_lt {re : Nat → Nat} (h : ∀ j, j < 8 → re j < 256) : ∀ b, b ≤ 8 → ∀ j, j < 8 → rO re b j < 256
  | 0, _, j, hj => h j hj
  | b + 1, hb, j, hj => rI_lt (by omega) (rO_lt h b (by omega)) 8 (Nat.le_refl 8) j hj
theorem r0_lt {od : Nat → Nat} : ∀ j, j < 8 → r0 od j < 256 := fun j hj => or_256 (sh_lt j hj) (nxO_lt 8 (Nat.le_refl 8))
def clr (a k : Nat) : Nat := a &&& (255 ^^^ (1 <<< k))
theorem clr_I : ∀ k, k < 8 → ∀ a, a < 256 → nI a &&& (nI (1 <<< k) ^^^ (-1)) = nI (clr a k) := by decide +kernel
theorem clr_lt {a k : Nat} (h : a < 256) : clr a k < 256 := Nat.lt_of_le_of_lt Nat.and_le_left h
def lsI (re : Nat → Nat) (fr a : Nat) : Nat → Nat
  | 0 => a
  | k + 1 => if ibt (re fr) k && !ibt (re k) fr then clr (lsI re fr a k) fr else lsI re fr a k
def lsO (re : Nat → Nat) : Nat → Nat
  | 0 => 255
  | f + 1 => lsI re f (lsO re f) 8
theorem lsI_lt {re : Nat → Nat} {fr a : Nat} (h : a < 256) : ∀ k, lsI re fr a k < 256
  | 0 => h
  | k + 1 => by
    rw [lsI]
    split
    · exact clr_lt (lsI_lt h k)
    · exact lsI_lt h k
theorem lsO_lt {re : Nat → Nat} : ∀ f, lsO re f < 256
  | 0 => by show 255 < 256; decide
  | f + 1 => lsI_lt (lsO_lt f) 8
theorem lsI_n {re : Nat → Nat} {fr a k : Nat} (h : ibt (re fr) k = false ∨ ibt (re k) fr = true) : lsI re fr a k = lsI re fr a (k + 1) := by
  rw [lsI, if_neg]
  rcases h with h | h <;> rw [h] <;> simp
theorem lsI_y {re : Nat → Nat} {fr a k : Nat} (h : ibt (re fr) k = true) (h2 : ibt (re k) fr = false) : clr (lsI re fr a k) fr = lsI re fr a (k + 1) := by
  rw [lsI, if_pos]
  rw [h, h2]; rfl
def cP (re : Nat → Nat) (la : Nat) : Nat → Nat
  | 0 => 0
  | k + 1 => if ibt la k && decide (re k &&& ((1 <<< k) - 1) = 0) then cP re la k + 1 else cP re la k
theorem cP_le {re : Nat → Nat} {la : Nat} : ∀ k, cP re la k ≤ k
  | 0 => Nat.le_refl 0
  | k + 1 => by
    have := cP_le (re := re) (la := la) k
    rw [cP]; split <;> omega
theorem cP_n1 {re : Nat → Nat} {la k : Nat} (h : ibt la k = false) : cP re la k = cP re la (k + 1) := by rw [cP, h]; rfl
theorem cP_n2 {re : Nat → Nat} {la k : Nat} (h : ¬ re k &&& ((1 <<< k) - 1) = 0) : cP re la k = cP re la (k + 1) := by rw [cP, decide_eq_false h, Bool.and_false]; rfl
theorem cP_y {re : Nat → Nat} {la k : Nat} (h : ibt la k = true) (h2 : re k &&& ((1 <<< k) - 1) = 0) : cP re la k + 1 = cP re la (k + 1) := by rw [cP, h, decide_eq_true h2]; rfl
def aLe (od : Nat → Nat) (p0 : Int32) : Int32 := if inR p0 0 7 then nI (rO (r0 od) 8 (tN p0)) else -1
def aLa (od : Nat → Nat) (W1 : Nat) (p0 : Int32) : Int32 := if inR p0 0 2 then (if p0 = nI 2 then nI (kpO od W1 8) else if p0 = nI 0 then nI (lsO (rO (r0 od) 8) 8) else nI (cP (rO (r0 od) 8) (lsO (rO (r0 od) 8) 8) 8)) else -2
theorem CIv.c {w : Nat → Nat} {slip kd : Nat} {num : Nat → Nat} {h kn : Nat} {od : Nat → Nat} {fch fch2 : Nat → Int32} (hc : CIv w slip kd num h kn od fch) (h2 : chOk num slip kd fch2) : CIv w slip kd num h kn od fch2 := ⟨hc.1, hc.2.1, h2⟩
def okO (w : Nat → Nat) (slip kd : Nat) (num : Nat → Nat) (h T M hh j : Nat) : Bool := decide (hh * wh (nu w M j) h 1 ≤ oF (rwF (nu w M j) slip kd num h T T 0) M (fo T M) 8 * 12)
def ofL (w : Nat → Nat) (slip kd : Nat) (num : Nat → Nat) (h T M hh : Nat) : Nat := fi (okO w slip kd num h T M hh) 4 1
def aOf (w : Nat → Nat) (slip kd : Nat) (num : Nat → Nat) (h : Nat) (p0 p1 p2 : Int32) : Int32 := if rfo (inR p0 0 7 && inR p1 0 2) (inR p2 0 12) = 0 then (if ofL w slip kd num h (tN p0) (tN p1) (tN p2) < 5 then nI (ofL w slip kd num h (tN p0) (tN p1) (tN p2)) else -6) else rfo (inR p0 0 7 && inR p1 0 2) (inR p2 0 12)
def ofS (F k : Nat) (p : Nat → Bool) (lst : Int32) : Prop := (lst = -6 ∧ F = fi p (5 - k) k) ∨ (∃ j, j < 5 ∧ lst = nI j ∧ F = j)
theorem nI_n6 {x : Nat} (hx : x < 2 ^ 31) : ¬ nI x = -6 := fun e => by
  have h1 : (nI x).toInt = (-6 : Int32).toInt := by rw [e]
  rw [nI_toInt hx] at h1
  have : (-6 : Int32).toInt = -6 := by decide
  omega
theorem ofS_e1 {F k : Nat} {p : Nat → Bool} {lst : Int32} (h : ofS F k p lst) (hk : 4 < k) (hk2 : k ≤ 5) : lst = if F < 5 then nI F else -6 := by
  rcases h with ⟨rfl, h⟩ | ⟨j, hj, rfl, rfl⟩
  · rw [show 5 - k = 0 by omega, fi] at h
    rw [if_neg (by omega)]
  · rw [if_pos hj]
theorem ofS_e2 {F k : Nat} {p : Nat → Bool} {lst : Int32} (h : ofS F k p lst) (hl : ¬ lst = -6) : lst = if F < 5 then nI F else -6 := by
  rcases h with ⟨rfl, h⟩ | ⟨j, hj, rfl, rfl⟩
  · exact absurd rfl hl
  · rw [if_pos hj]
theorem ofS_y {F k : Nat} {p : Nat → Bool} {lst : Int32} (h : ofS F k p lst) (hl : lst = -6) (hk : k ≤ 4) (hp : p k = true) : ofS F (k + 1) p (nI k) := by
  rcases h with ⟨-, h⟩ | ⟨j, hj, rfl, rfl⟩
  · exact Or.inr ⟨k, by omega, rfl, by rw [h, fi_yes (by omega) hp]⟩
  · exact absurd hl (nI_n6 (by omega))
theorem ofS_n {F k : Nat} {p : Nat → Bool} {lst : Int32} (h : ofS F k p lst) (hl : lst = -6) (hk : k ≤ 4) (hp : p k = false) : ofS F (k + 1) p lst := by
  rcases h with ⟨-, h⟩ | ⟨j, hj, rfl, rfl⟩
  · exact Or.inl ⟨hl, by rw [h, fi_no (by omega) hp, show 5 - k - 1 = 5 - (k + 1) by omega]⟩
  · exact absurd hl (nI_n6 (by omega))
theorem nu_re {w w1 : Nat → Nat} {M x : Nat} (h : ∀ j, j ≠ M → w1 j = w j) : nu w1 M x = nu w M x := by
  funext j
  by_cases e : j = M
  · subst e; rw [nu_s, nu_s]
  · rw [nu_n e, nu_n e, h j e]
theorem nu_back {w w1 : Nat → Nat} {M : Nat} (h : ∀ j, j ≠ M → w1 j = w j) : nu w1 M (w M) = w := by
  funext j
  by_cases e : j = M
  · subst e; rw [nu_s]
  · rw [nu_n e, h j e]
def aCh (num : Nat → Nat) (slip kd : Nat) (p0 p1 : Int32) : Int32 := if inR p0 0 7 then (if ftI num slip kd (tN p0) = -6 then -6 else if p1 = -1 then nI (szL (ftL num slip kd (tN p0))) else if inR p1 0 (szL (ftL num slip kd (tN p0)) - 1) then nI (LA (smI (ftL num slip kd (tN p0)) (szL (ftL num slip kd (tN p0)) - 1 - tN p1)) / 2) else -6) else -1
theorem tb_sz : ∀ lt, lt < 210 → 1 ≤ lt → 1 ≤ szL lt := by decide +kernel
theorem fi_ge {p : Nat → Bool} : ∀ (r k : Nat), k ≤ fi p r k
  | 0, k => Nat.le_refl k
  | r + 1, k => by
    rw [fi]
    split
    · exact Nat.le_refl k
    · have := fi_ge (p := p) r (k + 1); omega
theorem ftI_n {num : Nat → Nat} {slip kd t : Nat} (h : ¬ ftI num slip kd t = -6) : ftI num slip kd t = nI (ftL num slip kd t) ∧ ftL num slip kd t < 210 ∧ 1 ≤ ftL num slip kd t := by
  unfold ftI at h ⊢
  by_cases q : ftL num slip kd t < 210
  · rw [if_pos q]; exact ⟨rfl, q, fi_ge _ _⟩
  · rw [if_neg q] at h; exact absurd rfl h
def dfN (g : Nat → Nat) : Nat → Nat
  | 0 => 1
  | k + 1 => if dfN g k = 0 then 0 else if g k = g 0 then 1 else 0
theorem dfN_le {g : Nat → Nat} : ∀ k, dfN g k ≤ 1
  | 0 => Nat.le_refl 1
  | k + 1 => by rw [dfN]; split; exact Nat.zero_le _; split; exact Nat.le_refl 1; exact Nat.zero_le _
def gB (g : Nat → Nat) : Nat → Nat
  | 0 => 0
  | k + 1 => if g (gB g k) < g k then k else gB g k
theorem gB_lt {g : Nat → Nat} : ∀ k, 0 < k → gB g k < k
  | 0, h => absurd h (Nat.lt_irrefl 0)
  | k + 1, _ => by
    rw [gB]
    split
    · omega
    · rcases Nat.eq_zero_or_pos k with rfl | hk
      · show 0 < 0 + 1; decide
      · have := gB_lt (g := g) k hk; omega
def aGu (rr : Int32) (g : Nat → Nat) (p : Int32) : Int32 := if rr = 0 then (if p = nI 1 then nI (dfN g 8) else if g (gB g 8) = 0 then -6 else nI (gB g 8)) else rr
theorem dfN_1 (g : Nat → Nat) : dfN g 1 = 1 := by
  show (if (1 : Nat) = 0 then 0 else if g 0 = g 0 then 1 else 0) = 1
  simp
theorem gB_1 (g : Nat → Nat) : gB g 1 = 0 := by
  show (if g 0 < g 0 then 0 else 0) = 0
  simp
theorem sm8_lt {g : Nat → Nat} {B : Nat} (h : ∀ t, t < 8 → g t ≤ B) : sm 8 g ≤ 8 * B := by
  have h0 := h 0 (by decide); have h1 := h 1 (by decide); have h2 := h 2 (by decide); have h3 := h 3 (by decide)
  have h4 := h 4 (by decide); have h5 := h 5 (by decide); have h6 := h 6 (by decide); have h7 := h 7 (by decide)
  show 0 + g 0 + g 1 + g 2 + g 3 + g 4 + g 5 + g 6 + g 7 ≤ 8 * B
  omega

/-! the reference's rows of meanings: where they stand -/
def cIv (pk : Nat → Nat) (mk mo i : Nat) : Prop := (mo = 1 ∧ i < fO (mk + 1) ∧ ∀ x, x < mk → pk x = PK i x) ∨ (mo = 0 ∧ i = fO (mk + 1))
theorem cIv_y {pk : Nat → Nat} {mk mo i : Nat} (h : cIv pk mk mo i) (hm : ¬ mo = 0) (hi : fO mk ≤ i) : (fO mk ≤ i ∧ i < fO (mk + 1)) ∧ ∀ x, x < mk → pk x = PK i x := by
  rcases h with ⟨-, h1, h2⟩ | ⟨h1, -⟩
  · exact ⟨⟨hi, h1⟩, h2⟩
  · exact absurd h1 hm
theorem cIv_n {pk : Nat → Nat} {mk mo i : Nat} {P : Nat → Prop} (h : cIv pk mk mo i) (hm : mo = 0) (hno : ∀ j, fO mk ≤ j → j < i → P j) : ∀ j, fO mk ≤ j → j < fO (mk + 1) → P j := by
  rcases h with ⟨h1, -, -⟩ | ⟨-, h2⟩
  · omega
  · rw [← h2]; exact hno
theorem no_s {P : Nat → Prop} {a i : Nat} (h : ∀ j, a ≤ j → j < i → P j) (hi : P i) : ∀ j, a ≤ j → j < i + 1 → P j := fun j h1 h2 => by
  by_cases q : j = i
  · subst q; exact hi
  · exact h j h1 (by omega)
theorem no_n {P : Nat → Prop} {a b : Nat} (h : ∀ j, j < a → P j) (h2 : ∀ j, a ≤ j → j < b → P j) : ∀ j, j < b → P j := fun j hj => by
  by_cases q : j < a
  · exact h j q
  · exact h2 j (by omega) hj
theorem no_j {P : Nat → Prop} {a b : Nat} (h : ∀ j, j < a → P j) (h2 : ∀ j, a ≤ j → j < b → P j) : ∀ j, j < b → P j := no_n h h2
theorem tw_s {pk : Nat → Nat} {mk j : Nat} (h : ∀ x, j + 1 ≤ x → x < mk → pk x = 2) (hj : pk j = 2) : ∀ x, j ≤ x → x < mk → pk x = 2 := fun x h1 h2 => by
  by_cases q : x = j
  · subst q; exact hj
  · exact h x (by omega) h2
theorem sy_lt {T p : Nat} (hp : p < 3) : 2 * p + (T >>> p &&& 1) < 6 := by
  have : T >>> p &&& 1 ≤ 1 := Nat.and_le_right
  omega
theorem pk_l3 {pk : Nat → Nat} {mk i y : Nat} (h : ∀ x, x < mk → pk x = PK i x) (hy : y < mk) (hi : i < 34) (hm : mk ≤ 4) : pk y < 3 := by
  rw [h y hy]
  exact tb_PK i hi y (by omega)
theorem pk_st {pk1 pk5 : Nat → Nat} {mk j v z : Nat} (h : ∀ x, x < mk → pk5 x = if j ≤ x ∧ x < v then z else pk1 x) (hv : j ≤ v) : ∀ x, x < mk → nu pk5 v z x = if j ≤ x ∧ x < v + 1 then z else pk1 x := fun x hx => by
  by_cases q : x = v
  · subst q; rw [nu_s, if_pos ⟨hv, by omega⟩]
  · rw [nu_n q, h x hx]
    by_cases r : j ≤ x ∧ x < v
    · rw [if_pos r, if_pos ⟨r.1, by omega⟩]
    · rw [if_neg r, if_neg (fun z => r ⟨z.1, by omega⟩)]
theorem LOTp_k {T i k j : Nat} (hT : T < 8) (hi : i < 34) (hk : szP i = k) (hj : j < k) : LA (smI (LOT T i) (k - 1 - j)) / 2 = PK i j := by
  subst hk
  exact tb_LOTp T hT i hi j hj
theorem cIv_le {pk : Nat → Nat} {mk mo i : Nat} (h : cIv pk mk mo i) : mo < 2 ^ 31 := by
  rcases h with ⟨h1, -⟩ | ⟨h1, -⟩ <;> omega
theorem pk_all {pk1 pk5 : Nat → Nat} {mk j v z : Nat} (h : ∀ x, x < mk → pk5 x = if j ≤ x ∧ x < v then z else pk1 x) (hv : mk ≤ v) : ∀ x, x < mk → pk5 x = if j ≤ x then z else pk1 x := fun x hx => by
  rw [h x hx]
  by_cases q : j ≤ x
  · rw [if_pos ⟨q, by omega⟩, if_pos q]
  · rw [if_neg (fun r => q r.1), if_neg q]

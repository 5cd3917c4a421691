/-! the tables of Lots -/
theorem P_arrI {D : va_G} {cl : List vw_C} {ws : va_W} {H : Heap} (h : va_P D cl ws H) (k : Nat) {a : Nat} {cA : ClassId} {n : Nat} {f g : Nat → Int32} (hk : ws[k]? = some (a, .inl (cA, n, .inl f))) (hfg : ∀ j, j < n → f j = g j) : va_P D cl (ws.set k (a, .inl (cA, n, .inl g))) H := by
  intro i q hi
  rw [List.getElem?_set] at hi
  by_cases e : k = i
  · subst e
    rw [if_pos rfl] at hi
    split at hi
    · cases hi
      have h1 : H[a]? = some (vp_cell cA (n, .inl f)) := h k _ hk
      show H[a]? = some (vp_cell cA (n, .inl g))
      rw [h1]
      congr 1
      rw [vp_cell_i, vp_cell_i]
      unfold arrV
      congr 2
      funext j
      show Value.int (f j.val) = Value.int (g j.val)
      rw [hfg j.val j.isLt]
    · cases hi
  · rw [if_neg e] at hi
    exact h i q hi
theorem P_arrJ {D : va_G} {cl : List vw_C} {ws : va_W} {H : Heap} (h : va_P D cl ws H) (k : Nat) {a : Nat} {cA : ClassId} {n : Nat} {f g : Nat → Int64} (hk : ws[k]? = some (a, .inl (cA, n, .inr (.inl f)))) (hfg : ∀ j, j < n → f j = g j) : va_P D cl (ws.set k (a, .inl (cA, n, .inr (.inl g)))) H := by
  intro i q hi
  rw [List.getElem?_set] at hi
  by_cases e : k = i
  · subst e
    rw [if_pos rfl] at hi
    split at hi
    · cases hi
      have h1 : H[a]? = some (vp_cell cA (n, .inr (.inl f))) := h k _ hk
      show H[a]? = some (vp_cell cA (n, .inr (.inl g)))
      rw [h1]
      congr 1
      rw [vp_cell_l, vp_cell_l]
      unfold arrV
      congr 2
      funext j
      show Value.long (f j.val) = Value.long (g j.val)
      rw [hfg j.val j.isLt]
    · cases hi
  · rw [if_neg e] at hi
    exact h i q hi
theorem D_arrI {A : Nat → Prop} {ws : va_W} (h : va_D A ws) (k : Nat) {a : Nat} {cA : ClassId} {n : Nat} {f g : Nat → Int32} (hk : ws[k]? = some (a, .inl (cA, n, .inl f))) : va_D A (ws.set k (a, .inl (cA, n, .inl g))) := h.set hk
theorem D_arrJ {A : Nat → Prop} {ws : va_W} (h : va_D A ws) (k : Nat) {a : Nat} {cA : ClassId} {n : Nat} {f g : Nat → Int64} (hk : ws[k]? = some (a, .inl (cA, n, .inr (.inl f)))) : va_D A (ws.set k (a, .inl (cA, n, .inr (.inl g)))) := h.set hk
def SML : List Nat := [0, 0, 0, 0, 0, 0, 0, 1, 1, 1, 1, 1, 1, 2, 2, 2, 2, 2, 3, 3, 3, 3, 4, 4, 4, 5, 5, 6, 7, 7, 7, 7, 7, 7, 8, 8, 8, 8, 8, 9, 9, 9, 9, 10, 10, 10, 11, 11, 12, 13, 13, 13, 13, 13, 14, 14, 14, 14, 15, 15, 15, 16, 16, 17, 18, 18, 18, 18, 19, 19, 19, 20, 20, 21, 22, 22, 22, 23, 23, 24, 25, 25, 26, 27, 28, 28, 28, 28, 28, 28, 29, 29, 29, 29, 29, 30, 30, 30, 30, 31, 31, 31, 32, 32, 33, 34, 34, 34, 34, 34, 35, 35, 35, 35, 36, 36, 36, 37, 37, 38, 39, 39, 39, 39, 40, 40, 40, 41, 41, 42, 43, 43, 43, 44, 44, 45, 46, 46, 47, 48, 49, 49, 49, 49, 49, 50, 50, 50, 50, 51, 51, 51, 52, 52, 53, 54, 54, 54, 54, 55, 55, 55, 56, 56, 57, 58, 58, 58, 59, 59, 60, 61, 61, 62, 63, 64, 64, 64, 64, 65, 65, 65, 66, 66, 67, 68, 68, 68, 69, 69, 70, 71, 71, 72, 73, 74, 74, 74, 75, 75, 76, 77, 77, 78, 79, 80, 80, 81, 82, 83]
def SM (j : Nat) : Nat := SML.getD j 0
def LAL : List Nat := [0, 0, 1, 2, 3, 4, 5, 0, 1, 2, 3, 4, 5, 1, 2, 3, 4, 5, 2, 3, 4, 5, 3, 4, 5, 4, 5, 5, 0, 1, 2, 3, 4, 5, 1, 2, 3, 4, 5, 2, 3, 4, 5, 3, 4, 5, 4, 5, 5, 1, 2, 3, 4, 5, 2, 3, 4, 5, 3, 4, 5, 4, 5, 5, 2, 3, 4, 5, 3, 4, 5, 4, 5, 5, 3, 4, 5, 4, 5, 5, 4, 5, 5, 5, 0, 1, 2, 3, 4, 5, 1, 2, 3, 4, 5, 2, 3, 4, 5, 3, 4, 5, 4, 5, 5, 1, 2, 3, 4, 5, 2, 3, 4, 5, 3, 4, 5, 4, 5, 5, 2, 3, 4, 5, 3, 4, 5, 4, 5, 5, 3, 4, 5, 4, 5, 5, 4, 5, 5, 5, 1, 2, 3, 4, 5, 2, 3, 4, 5, 3, 4, 5, 4, 5, 5, 2, 3, 4, 5, 3, 4, 5, 4, 5, 5, 3, 4, 5, 4, 5, 5, 4, 5, 5, 5, 2, 3, 4, 5, 3, 4, 5, 4, 5, 5, 3, 4, 5, 4, 5, 5, 4, 5, 5, 5, 3, 4, 5, 4, 5, 5, 4, 5, 5, 5, 4, 5, 5, 5, 5]
def LA (j : Nat) : Nat := LAL.getD j 0
def GRL : List Nat := [1, 2, 3, 4, 5, 6, 7, 8, 9, 10, 11, 12, 8, 13, 14, 15, 16, 17, 9, 14, 18, 19, 20, 21, 10, 15, 19, 22, 23, 24, 11, 16, 20, 23, 25, 26, 12, 17, 21, 24, 26, 27, 28, 29, 30, 31, 32, 33, 29, 34, 35, 36, 37, 38, 30, 35, 39, 40, 41, 42, 31, 36, 40, 43, 44, 45, 32, 37, 41, 44, 46, 47, 33, 38, 42, 45, 47, 48, 34, 49, 50, 51, 52, 53, 35, 50, 54, 55, 56, 57, 36, 51, 55, 58, 59, 60, 37, 52, 56, 59, 61, 62, 38, 53, 57, 60, 62, 63, 39, 54, 64, 65, 66, 67, 40, 55, 65, 68, 69, 70, 41, 56, 66, 69, 71, 72, 42, 57, 67, 70, 72, 73, 43, 58, 68, 74, 75, 76, 44, 59, 69, 75, 77, 78, 45, 60, 70, 76, 78, 79, 46, 61, 71, 77, 80, 81, 47, 62, 72, 78, 81, 82, 48, 63, 73, 79, 82, 83, 84, 85, 86, 87, 88, 89, 85, 90, 91, 92, 93, 94, 86, 91, 95, 96, 97, 98, 87, 92, 96, 99, 100, 101, 88, 93, 97, 100, 102, 103, 89, 94, 98, 101, 103, 104, 90, 105, 106, 107, 108, 109, 91, 106, 110, 111, 112, 113, 92, 107, 111, 114, 115, 116, 93, 108, 112, 115, 117, 118, 94, 109, 113, 116, 118, 119, 95, 110, 120, 121, 122, 123, 96, 111, 121, 124, 125, 126, 97, 112, 122, 125, 127, 128, 98, 113, 123, 126, 128, 129, 99, 114, 124, 130, 131, 132, 100, 115, 125, 131, 133, 134, 101, 116, 126, 132, 134, 135, 102, 117, 127, 133, 136, 137, 103, 118, 128, 134, 137, 138, 104, 119, 129, 135, 138, 139, 105, 140, 141, 142, 143, 144, 106, 141, 145, 146, 147, 148, 107, 142, 146, 149, 150, 151, 108, 143, 147, 150, 152, 153, 109, 144, 148, 151, 153, 154, 110, 145, 155, 156, 157, 158, 111, 146, 156, 159, 160, 161, 112, 147, 157, 160, 162, 163, 113, 148, 158, 161, 163, 164, 114, 149, 159, 165, 166, 167, 115, 150, 160, 166, 168, 169, 116, 151, 161, 167, 169, 170, 117, 152, 162, 168, 171, 172, 118, 153, 163, 169, 172, 173, 119, 154, 164, 170, 173, 174, 120, 155, 175, 176, 177, 178, 121, 156, 176, 179, 180, 181, 122, 157, 177, 180, 182, 183, 123, 158, 178, 181, 183, 184, 124, 159, 179, 185, 186, 187, 125, 160, 180, 186, 188, 189, 126, 161, 181, 187, 189, 190, 127, 162, 182, 188, 191, 192, 128, 163, 183, 189, 192, 193, 129, 164, 184, 190, 193, 194, 130, 165, 185, 195, 196, 197, 131, 166, 186, 196, 198, 199, 132, 167, 187, 197, 199, 200, 133, 168, 188, 198, 201, 202, 134, 169, 189, 199, 202, 203, 135, 170, 190, 200, 203, 204, 136, 171, 191, 201, 205, 206, 137, 172, 192, 202, 206, 207, 138, 173, 193, 203, 207, 208, 139, 174, 194, 204, 208, 209]
def GR (j : Nat) : Nat := GRL.getD j 0
def NXL : List Nat := [1, 7, 13, 18, 22, 25, 27, 28, 34, 39, 43, 46, 48, 49, 54, 58, 61, 63, 64, 68, 71, 73, 74, 77, 79, 80, 82, 83, 84, 90, 95, 99, 102, 104, 105, 110, 114, 117, 119, 120, 124, 127, 129, 130, 133, 135, 136, 138, 139, 140, 145, 149, 152, 154, 155, 159, 162, 164, 165, 168, 170, 171, 173, 174, 175, 179, 182, 184, 185, 188, 190, 191, 193, 194, 195, 198, 200, 201, 203, 204, 205, 207, 208, 209, 210]
def NX (j : Nat) : Nat := NXL.getD j 0
theorem tb_LA : ∀ j, j < 210 → LA j < 6 := by decide +kernel
theorem tb_SM : ∀ j, j < 210 → SM j < 84 := by decide +kernel
theorem tb_SMl : ∀ j, j < 210 → 0 < j → SM j < j := by decide +kernel
theorem tb_GR : ∀ j, j < 504 → GR j < 210 := by decide +kernel
theorem tb_NX : ∀ lt, lt < 84 → NX (lt + 1) = NX lt + (6 - LA lt) := by decide +kernel
theorem tb_NXl : ∀ lt, lt < 84 → NX lt + (6 - LA lt) ≤ 210 := by decide +kernel
theorem tb_mk0 : ∀ lt, lt < 84 → ∀ s, s < 6 → LA lt ≤ s → GR (lt * 6 + s) = NX lt + (s - LA lt) ∧ SM (NX lt + (s - LA lt)) = lt ∧ LA (NX lt + (s - LA lt)) = s := by decide +kernel
theorem tb_NXi : ∀ sz, sz < 4 → NX (fT sz) = fT (sz + 1) ∧ NX (fT (sz + 1)) = fT (sz + 2) ∧ fT (sz + 1) ≤ 84 ∧ fT sz ≤ fT (sz + 1) ∧ fT (sz + 2) ≤ 210 := by decide +kernel
theorem tb_lo : ∀ lt, lt < 84 → lt < NX lt := by decide +kernel
theorem tb_jn : ∀ lt, lt < 84 → ∀ s, s < LA lt → LA (GR (SM lt * 6 + s)) ≤ LA lt ∧ GR (SM lt * 6 + s) < 84 ∧ GR (lt * 6 + s) = GR (GR (SM lt * 6 + s) * 6 + LA lt) := by decide +kernel
theorem tb_jn2 : ∀ sz, sz < 4 → ∀ lt, lt < 84 → (fT sz ≤ lt ∧ lt < fT (sz + 1)) → ∀ s, s < LA lt → SM lt < fT sz ∧ fT sz ≤ GR (SM lt * 6 + s) ∧ GR (SM lt * 6 + s) < fT (sz + 1) := by decide +kernel
theorem tb_f5 : fT 5 = 210 := rfl
/-- greater's places that are laid while size sz is made, up to lot lt and saying s -/
def gD (gr : Nat → Nat) (B lt s : Nat) : Prop := (∀ j, j < B * 6 → gr j = GR j) ∧ ∀ a b, B ≤ a → b < 6 → LA a ≤ b → (a < lt ∨ (a = lt ∧ b < s)) → gr (a * 6 + b) = GR (a * 6 + b)
theorem gD_s {gr : Nat → Nat} {B lt s x : Nat} (h : gD gr B lt s) (hB : B ≤ lt) (hs : s < 6) (hx : x = GR (lt * 6 + s)) : gD (nu gr (lt * 6 + s) x) B lt (s + 1) := by
  refine ⟨fun j hj => ?_, fun a b ha hb hl hc => ?_⟩
  · rw [nu_n (by omega)]; exact h.1 j hj
  · by_cases e : a * 6 + b = lt * 6 + s
    · rw [e, nu_s, hx]
    · rw [nu_n e]
      exact h.2 a b ha hb hl (by omega)
theorem gD_n {gr : Nat → Nat} {B lt : Nat} (h : gD gr B lt 6) : ∀ s, s ≤ LA (lt + 1) → gD gr B (lt + 1) s := fun s hs => ⟨h.1, fun a b ha hb hl hc => h.2 a b ha hb hl (by
  rcases hc with hc | ⟨rfl, hc⟩
  · omega
  · omega)⟩
/-- greater's places that are joined -/
def gJ (gr : Nat → Nat) (E lt s : Nat) : Prop := (∀ a b, b < 6 → (a < lt ∨ (a = lt ∧ b < s)) → gr (a * 6 + b) = GR (a * 6 + b)) ∧ ∀ a b, a < E → b < 6 → LA a ≤ b → gr (a * 6 + b) = GR (a * 6 + b)
theorem gJ_s {gr : Nat → Nat} {E lt s x : Nat} (h : gJ gr E lt s) (hs : s < 6) (hx : x = GR (lt * 6 + s)) : gJ (nu gr (lt * 6 + s) x) E lt (s + 1) := by
  refine ⟨fun a b hb hc => ?_, fun a b ha hb hl => ?_⟩
  · by_cases e : a * 6 + b = lt * 6 + s
    · rw [e, nu_s, hx]
    · rw [nu_n e]
      exact h.1 a b hb (by omega)
  · by_cases e : a * 6 + b = lt * 6 + s
    · rw [e, nu_s, hx]
    · rw [nu_n e]
      exact h.2 a b ha hb hl
theorem gJ_n {gr : Nat → Nat} {E lt s : Nat} (h : gJ gr E lt s) (hE : lt < E) (hs : LA lt ≤ s) : gJ gr E (lt + 1) 0 := by
  refine ⟨fun a b hb hc => ?_, h.2⟩
  rcases Nat.lt_or_ge b s with q | q
  · exact h.1 a b hb (by omega)
  · rcases (show a < lt ∨ a = lt by omega) with q2 | rfl
    · exact h.1 a b hb (Or.inl q2)
    · exact h.2 a b hE hb (by omega)
theorem gJ_0 {gr : Nat → Nat} {B E : Nat} (h : gD gr B E 0) : gJ gr E B 0 := by
  refine ⟨fun a b hb hc => h.1 _ (by omega), fun a b ha hb hl => ?_⟩
  rcases Nat.lt_or_ge a B with q | q
  · exact h.1 _ (by omega)
  · exact h.2 a b q hb hl (Or.inl ha)
theorem gD_0 {gr : Nat → Nat} {E : Nat} (h : gJ gr E E 0) : ∀ s, s ≤ LA E → gD gr E E s := fun s hs => ⟨fun j hj => by
  have := h.1 (j / 6) (j % 6) (by omega) (Or.inl (by omega))
  rw [show j / 6 * 6 + j % 6 = j by omega] at this
  exact this, fun a b ha hb hl hc => by
  rcases hc with hc | ⟨rfl, hc⟩
  · omega
  · omega⟩
theorem ag_s {f g : Nat → Nat} {k x : Nat} (h : ∀ j, j < k → f j = g j) (hx : x = g k) : ∀ j, j < k + 1 → nu f k x j = g j := fun j hj => by
  by_cases e : j = k
  · subst e; rw [nu_s, hx]
  · rw [nu_n e]; exact h j (by omega)
/-- how often a saying is in a lot, and its size -/
def lc : Nat → Nat → Nat → Nat
  | 0, _, _ => 0
  | r + 1, lt, s => if lt = 0 then 0 else (if LA lt = s then 1 else 0) + lc r (SM lt) s
def lz : Nat → Nat → Nat
  | 0, _ => 0
  | r + 1, lt => if lt = 0 then 0 else 1 + lz r (SM lt)
def LC (lt s : Nat) : Nat := lc 4 lt s
def LZ (lt : Nat) : Nat := lz 4 lt
/-- lots whose size is at most r -/
def lotL (r lt : Nat) : Prop := lt < fT (r + 1)
theorem tb_r : ∀ r, r < 4 → ∀ lt, lt < 210 → lt < fT (r + 2) → SM lt < fT (r + 1) := by decide +kernel
theorem lc_0 (r s : Nat) : lc r 0 s = 0 := by cases r <;> rfl
theorem lz_0 (r : Nat) : lz r 0 = 0 := by cases r <;> rfl
/-- counting: what is laid, and what is still to come of rest, is the lot's -/
def cI2 (tn : Nat → Nat) (lt r rest : Nat) : Prop := ∀ s, s < 6 → tn s + lc r rest s = LC lt s
theorem cI2_0 (tn : Nat → Nat) (lt : Nat) : cI2 (nfl tn 0 6) lt 4 lt := fun s hs => by
  show nfl tn 0 6 s + lc 4 lt s = lc 4 lt s
  unfold nfl
  rw [if_pos hs, Nat.zero_add]
theorem cI2_s {tn : Nat → Nat} {lt r rest : Nat} (h : cI2 tn lt (r + 1) rest) (h0 : 0 < rest) : cI2 (nu tn (LA rest) (tn (LA rest) + 1)) lt r (SM rest) := fun s hs => by
  have h1 := h s hs
  unfold lc at h1
  rw [if_neg (by omega)] at h1
  by_cases e : s = LA rest
  · subst e
    rw [nu_s]
    rw [if_pos rfl] at h1
    omega
  · rw [nu_n e]
    rw [if_neg (fun q => e q.symm)] at h1
    omega
theorem cI2_e {tn : Nat → Nat} {lt r rest : Nat} (h : cI2 tn lt r rest) (h0 : rest = 0 ∨ r = 0) : ∀ s, s < 6 → tn s = LC lt s := fun s hs => by
  have h1 := h s hs
  rcases h0 with rfl | rfl
  · rw [lc_0] at h1; omega
  · have : lc 0 rest s = 0 := rfl
    omega
theorem gD_up {gr : Nat → Nat} {B lt : Nat} (h : gD gr B lt 0) : gD gr B lt (LA lt) := ⟨h.1, fun a b ha hb hl hc => h.2 a b ha hb hl (by
  rcases hc with hc | ⟨rfl, hc⟩
  · exact Or.inl hc
  · omega)⟩
theorem tb_le : ∀ sz, sz < 4 → fT (sz + 1) ≤ fT (sz + 2) := by decide +kernel

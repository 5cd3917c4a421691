/-! lives: sums, bounds, there and back -/
theorem fS_sm {od now : Nat → Nat} {t : Nat} : ∀ i, fS od now i t = sm i (fun j => if j % 8 = t then now (j / 8) * od j else 0)
  | 0 => rfl
  | i + 1 => by
    show nu (fS od now i) (i % 8) (fS od now i (i % 8) + now (i / 8) * od i) t = sm i _ + (if i % 8 = t then now (i / 8) * od i else 0)
    by_cases e : i % 8 = t
    · rw [if_pos e, ← e, nu_s, e, fS_sm i]
    · rw [if_neg e, nu_n (fun q => e q.symm), fS_sm i, Nat.add_zero]
theorem bS_sm {od now : Nat → Nat} {u : Nat} : ∀ i, bS od now i u = sm i (fun j => if j / 8 = u then od j * now (j % 8) else 0)
  | 0 => rfl
  | i + 1 => by
    show nu (bS od now i) (i / 8) (bS od now i (i / 8) + od i * now (i % 8)) u = sm i _ + (if i / 8 = u then od i * now (i % 8) else 0)
    by_cases e : i / 8 = u
    · rw [if_pos e, ← e, nu_s, e, bS_sm i]
    · rw [if_neg e, nu_n (fun q => e q.symm), bS_sm i, Nat.add_zero]
theorem fS_64 {od now : Nat → Nat} {t : Nat} (ht : t < 8) : fS od now 64 t = sm 8 (fun u => now u * od (u * 8 + t)) := by
  rw [fS_sm, show 64 = 8 * 8 from rfl, sm_8]
  refine sm_cong (fun q _ => ?_)
  rw [sm_cong (g := fun s => if s = t then (fun s => now q * od (q * 8 + s)) s else 0) (fun s hs => by
    rw [show (q * 8 + s) % 8 = s by omega, show (q * 8 + s) / 8 = q by omega]), sm_one ht]
theorem bS_64 {od now : Nat → Nat} {u : Nat} (hu : u < 8) : bS od now 64 u = sm 8 (fun v => od (u * 8 + v) * now v) := by
  rw [bS_sm, show 64 = 8 * 8 from rfl, sm_8]
  rw [sm_cong (g := fun q => if q = u then (fun q => sm 8 (fun s => od (q * 8 + s) * now s)) q else 0) (fun q _ => by
    by_cases e : q = u
    · rw [if_pos e]
      refine sm_cong (fun s hs => ?_)
      rw [show (q * 8 + s) % 8 = s by omega, show (q * 8 + s) / 8 = q by omega, if_pos e]
    · rw [if_neg e, sm_cong (g := fun _ => 0) (fun s hs => by rw [show (q * 8 + s) / 8 = q by omega, if_neg e]), sm_0]), sm_one hu]
theorem fwd_s {od : Nat → Nat} {fr k t : Nat} (ht : t < 8) : fwd od fr (k + 1) t = sm 8 (fun u => fwd od fr k u * od (u * 8 + t)) := fS_64 ht
theorem bwd_s {od : Nat → Nat} {to k u : Nat} (hu : u < 8) : bwd od to (k + 1) u = sm 8 (fun v => od (u * 8 + v) * bwd od to k v) := bS_64 hu
theorem fwd_0 {od : Nat → Nat} {fr t : Nat} : fwd od fr 0 t = if t = fr then 1 else 0 := rfl
theorem fwd_l {od : Nat → Nat} : ∀ (k fr t : Nat), fr < 8 → t < 8 → fwd od fr (k + 1) t = sm 8 (fun v => od (fr * 8 + v) * fwd od v k t)
  | 0, fr, t, hf, ht => by
    rw [fwd_s ht]
    rw [sm_cong (g := fun u => if u = fr then (fun u => od (u * 8 + t)) u else 0) (fun u _ => by
      rw [fwd_0]
      by_cases e : u = fr
      · rw [if_pos e, if_pos e, Nat.one_mul]
      · rw [if_neg e, if_neg e, Nat.zero_mul]), sm_one hf]
    rw [sm_cong (g := fun v => if v = t then (fun v => od (fr * 8 + v)) v else 0) (fun v _ => by
      rw [fwd_0]
      by_cases e : v = t
      · rw [if_pos e.symm, if_pos e, Nat.mul_one]
      · rw [if_neg (fun q => e q.symm), if_neg e, Nat.mul_zero]), sm_one ht]
  | k + 1, fr, t, hf, ht => by
    rw [fwd_s ht]
    rw [sm_cong (g := fun u => sm 8 (fun v => od (fr * 8 + v) * (fwd od v k u * od (u * 8 + t)))) (fun u hu => by
      rw [fwd_l k fr u hf hu, ← sm_mulr]
      exact sm_cong (fun v _ => Nat.mul_assoc _ _ _)), sm_swap]
    refine sm_cong (fun v hv => ?_)
    rw [sm_mul, fwd_s ht]
theorem bwd_fwd {od : Nat → Nat} {to : Nat} (hto : to < 8) : ∀ (k u : Nat), u < 8 → bwd od to k u = fwd od u k to
  | 0, u, hu => by
    show (if u = to then 1 else 0) = if to = u then 1 else 0
    by_cases e : u = to
    · rw [if_pos e, if_pos e.symm]
    · rw [if_neg e, if_neg (fun q => e q.symm)]
  | k + 1, u, hu => by
    rw [bwd_s hu, fwd_l k u to hu hto]
    exact sm_cong (fun v hv => by rw [bwd_fwd hto k v hv])
theorem fwd_tot {od : Nat → Nat} {W1 fr : Nat} (hr : ∀ u, u < 8 → sm 8 (fun t => od (u * 8 + t)) = W1) (hf : fr < 8) : ∀ k, sm 8 (fwd od fr k) = pw W1 k
  | 0 => by
    show sm 8 (fun j => if j = fr then (fun _ => 1) j else 0) = 1
    rw [sm_one hf]
  | k + 1 => by
    rw [sm_cong (fun t ht => fwd_s ht), sm_swap]
    rw [sm_cong (g := fun u => fwd od fr k u * W1) (fun u hu => by rw [sm_mul, hr u hu]), sm_mulr, fwd_tot hr hf k]
    rfl
theorem pw_pw (b m : Nat) : ∀ n, pw (pw b m) n = pw b (m * n)
  | 0 => rfl
  | n + 1 => by rw [pw, pw_pw b m n, Nat.mul_succ, pw_add]
theorem stp_row {w : Nat → Nat} {slip kd : Nat} {num : Nat → Nat} {h : Nat} (hh : h ≤ 4) (hs : slip ≤ 12) : ∀ u, u < 8 → sm 8 (fun t => stp w slip kd num h (u * 8 + t)) = wh w h 1 := fun u _ => by
  rw [← rwF_tot (kd := kd) (num := num) (bk := u) (fr := u) (b := 0) hh hs]
  exact sm_cong (fun t ht => by rw [stp, show (u * 8 + t) / 8 = u by omega, show (u * 8 + t) % 8 = t by omega])
theorem fwd_le {w : Nat → Nat} {slip kd : Nat} {num : Nat → Nat} {h fr k t : Nat} (hh : h ≤ 4) (hs : slip ≤ 12) (hf : fr < 8) (ht : t < 8) : fwd (stp w slip kd num h) fr k t ≤ wh w h k := by
  have e := fwd_tot (stp_row (w := w) (kd := kd) (num := num) hh hs) hf k
  have e2 : pw (wh w h 1) k = wh w h k := by unfold wh; rw [Nat.mul_one, pw_pw]
  rw [← e2, ← e]
  exact sm_part ht
theorem stp_le {w : Nat → Nat} {slip kd : Nat} {num : Nat → Nat} {h i : Nat} (hh : h ≤ 4) (hs : slip ≤ 12) : stp w slip kd num h i ≤ wh w h 1 := rwF_le hh hs (Nat.mod_lt _ (by decide))
theorem bwd_le {w : Nat → Nat} {slip kd : Nat} {num : Nat → Nat} {h to k u : Nat} (hh : h ≤ 4) (hs : slip ≤ 12) (hto : to < 8) (hu : u < 8) : bwd (stp w slip kd num h) to k u ≤ wh w h k := by
  rw [bwd_fwd hto k u hu]
  exact fwd_le hh hs hu hto
/-! the words of the answers -/
def tN (x : Int32) : Nat := x.toNatClampNeg
theorem tN_n {T : Nat} (h : T < 2 ^ 31) : tN (nI T) = T := nI_clamp h
def CIv (w : Nat → Nat) (slip kd : Nat) (num : Nat → Nat) (h kn : Nat) (od : Nat → Nat) (fch : Nat → Int32) : Prop := kn ≤ 1 ∧ (kn = 1 → ∀ i, i < 64 → od i = stp w slip kd num h i) ∧ chOk num slip kd fch
theorem CIv.z {w w2 : Nat → Nat} {slip kd : Nat} {num : Nat → Nat} {h h2 kn : Nat} {od od2 : Nat → Nat} {fch : Nat → Int32} (hc : CIv w slip kd num h kn od fch) : CIv w2 slip kd num h2 0 od2 fch := ⟨by decide, fun q => absurd q (by decide), hc.2.2⟩
theorem CIv.r {w : Nat → Nat} {slip kd : Nat} {num : Nat → Nat} {h : Nat} {od : Nat → Nat} : CIv w slip kd num h 0 od (fun _ => -1) := ⟨by decide, fun q => absurd q (by decide), chOk_0⟩
theorem CIv.o {w : Nat → Nat} {slip kd : Nat} {num : Nat → Nat} {h : Nat} {fch : Nat → Int32} (hc : chOk num slip kd fch) : CIv w slip kd num h 1 (stp w slip kd num h) fch := ⟨by decide, fun _ _ _ => rfl, hc⟩
def aWt (w : Nat → Nat) (p0 p1 : Int32) : Int32 := if inR p0 0 2 then (if inR p1 1 4 then nI (w (tN p0)) else -2) else -1
def uWt (w : Nat → Nat) (p0 p1 : Int32) : Nat → Nat := if inR p0 0 2 && inR p1 1 4 then nu w (tN p0) (tN p1) else w
def aSet (slip h kd : Nat) (p0 p1 : Int32) : Int32 := if p0 = nI 0 then (if inR p1 0 5 then nI slip else -2) else if p0 = nI 1 then (if inR p1 1 4 then nI h else -2) else if p0 = nI 2 then (if inR p1 0 2 then nI kd else -2) else -2
def uSl (slip : Nat) (p0 p1 : Int32) : Nat := if p0 = nI 0 ∧ inR p1 0 5 = true then tN p1 else slip
def uHr (h : Nat) (p0 p1 : Int32) : Nat := if p0 = nI 1 ∧ inR p1 1 4 = true then tN p1 else h
def uKd (kd : Nat) (p0 p1 : Int32) : Nat := if p0 = nI 2 ∧ inR p1 0 2 = true then tN p1 else kd
def aSay (cnt : Nat) (p0 : Int32) : Int32 := if inR p0 33 126 then (if cnt < 40 then nI (cnt + 1) else -4) else -2
def uSC (cd : Nat → Nat) (cnt : Nat) (p0 : Int32) : Nat → Nat := if inR p0 33 126 then addC cd cnt (tN p0) else cd
def uSN (cnt : Nat) (p0 : Int32) : Nat := if inR p0 33 126 then addN cnt else cnt
def aBf (cd : Nat → Nat) (cnt : Nat) : Int32 := if ffI cd cnt = -6 then nI ((cnt + 1) / 6) else -5
def uBc (cd : Nat → Nat) (cnt : Nat) : Nat := if ffI cd cnt = -6 then 0 else cnt
def uBn (num cd : Nat → Nat) (cnt : Nat) : Nat → Nat := if ffI cd cnt = -6 then (fun t => nfr cd t ((cnt + 1) / 6) 0) else num
def aNu (num : Nat → Nat) (p0 : Int32) : Int32 := if inR p0 0 7 then nI (num (tN p0)) else -1
def aHr (al : Nat) (p0 p1 : Int32) : Int32 := if inR p0 0 2 then (if inR p1 0 1 then (if al < 6 then nI (al + 1) else -4) else -2) else -1
def okH (al : Nat) (p0 p1 : Int32) : Bool := inR p0 0 2 && inR p1 0 1 && decide (al < 6)
def uHt (tn : Nat → Nat) (al : Nat) (p0 p1 : Int32) : Nat → Nat := if okH al p0 p1 then nu tn (2 * tN p0 + tN p1) (tn (2 * tN p0 + tN p1) + 1) else tn
def uHa (al : Nat) (p0 p1 : Int32) : Nat := if okH al p0 p1 then al + 1 else al
def lost (x : Int32) : Int64 := -1000000000000000000 + x.toInt64
def aLk (lk : Nat → Nat) (p0 : Int32) : Int64 := if inR p0 0 7 then lN (lk (tN p0)) else -1
def aTh (lk : Nat → Nat) (p0 p1 : Int32) : Int64 := if rfo (inR p0 0 7) (inR p1 0 1) = 0 then lN (lwst (lk (tN p0)) (sm 8 lk) (tN p1)) else lost (rfo (inR p0 0 7) (inR p1 0 1))
def aTo (w : Nat → Nat) (slip h kd cnt al : Nat) (p0 : Int32) : Int32 := if p0 = nI 0 then nI slip else if p0 = nI 1 then nI h else if p0 = nI 2 then nI kd else if p0 = nI 3 then nI cnt else if p0 = nI 4 then nI al else if inR p0 10 12 then nI (w (tN p0 - 10)) else -2
theorem rfo_0 {k i : Bool} : rfo k i = 0 ↔ k = true ∧ i = true := by cases k <;> cases i <;> decide

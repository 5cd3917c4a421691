/-! what the class's state and the reference's have in common, and that every call keeps it -/
def LI (w : Nat → Nat) (slip kd : Nat) (num : Nat → Nat) (h kn : Nat) (od : Nat → Nat) (fch : Nat → Int32) (cnt : Nat) (cd : Nat → Nat) (hal : Nat) (htn : Nat → Nat) (nl : Nat) (lg hs rw1 : Nat → Nat) : Prop :=
  CIv w slip kd num h kn od fch ∧ (1 ≤ h ∧ h ≤ 4) ∧ (∀ j, j < 3 → w j ≤ 4) ∧ slip ≤ 12 ∧ (∀ j, j < 8 → num j < 10) ∧ kd < 3 ∧ cnt ≤ 40 ∧ (∀ j, cd j < 127) ∧ hal ≤ 6 ∧ (∀ j, j < 8 → shw htn j 3 ≤ hal) ∧ (∀ j, j < 6 → hs j < 6) ∧ (∀ s, s < 6 → htn s = cf hs hal s) ∧ nl ≤ 7 ∧ okL lg nl ∧ (∀ t, t < 8 → bfM lg t nl 0 = num t) ∧ (∀ j, j < 6 → rw1 j < 6)
section
variable {w : Nat → Nat} {slip kd : Nat} {num : Nat → Nat} {h kn : Nat} {od : Nat → Nat} {fch : Nat → Int32} {cnt : Nat} {cd : Nat → Nat} {hal : Nat} {htn : Nat → Nat} {nl : Nat} {lg hs rw1 : Nat → Nat}
variable {kn2 nl2 : Nat} {od2 lg2 rw2 : Nat → Nat} {fch2 : Nat → Int32} {p0 p1 : Int32}
theorem LI.s (hI : LI w slip kd num h kn od fch cnt cd hal htn nl lg hs rw1) (hc : CIv w slip kd num h kn2 od2 fch2) (hr : ∀ j, j < 6 → rw2 j < 6) : LI w slip kd num h kn2 od2 fch2 cnt cd hal htn nl lg hs rw2 := by
  obtain ⟨-, a2, a3, a4, a5, a6, a7, a8, a9, a10, a11, a12, a13, a14, a15, -⟩ := hI
  exact ⟨hc, a2, a3, a4, a5, a6, a7, a8, a9, a10, a11, a12, a13, a14, a15, hr⟩
theorem tN_le {v : Int32} {lo hi : Nat} (hh : hi < 2 ^ 31) (hl : lo ≤ hi) (h : inR v lo hi = true) : lo ≤ tN v ∧ tN v ≤ hi := by
  obtain ⟨T, h1, h2, rfl⟩ := inR_t hh hl h
  rw [tN_n (show T < 2 ^ 31 by omega)]
  exact ⟨h1, h2⟩
theorem LI.wt (hI : LI w slip kd num h kn od fch cnt cd hal htn nl lg hs rw1) (hc : CIv (uWt w p0 p1) slip kd num h kn2 od2 fch2) : LI (uWt w p0 p1) slip kd num h kn2 od2 fch2 cnt cd hal htn nl lg hs rw1 := by
  obtain ⟨-, a2, a3, a4, a5, a6, a7, a8, a9, a10, a11, a12, a13, a14, a15, a16⟩ := hI
  refine ⟨hc, a2, fun j hj => ?_, a4, a5, a6, a7, a8, a9, a10, a11, a12, a13, a14, a15, a16⟩
  unfold uWt
  by_cases q : (inR p0 0 2 && inR p1 1 4) = true
  · rw [if_pos q]
    have q2 : inR p1 1 4 = true := (Bool.and_eq_true _ _ ▸ q).2
    have e := tN_le (by decide) (by decide) q2
    by_cases z : j = tN p0
    · rw [z, nu_s]; exact e.2
    · rw [nu_n z]; exact a3 j hj
  · rw [if_neg q]; exact a3 j hj
theorem LI.st (hI : LI w slip kd num h kn od fch cnt cd hal htn nl lg hs rw1) (hc : CIv w (uSl slip p0 p1) (uKd kd p0 p1) num (uHr h p0 p1) kn2 od2 fch2) : LI w (uSl slip p0 p1) (uKd kd p0 p1) num (uHr h p0 p1) kn2 od2 fch2 cnt cd hal htn nl lg hs rw1 := by
  obtain ⟨-, a2, a3, a4, a5, a6, a7, a8, a9, a10, a11, a12, a13, a14, a15, a16⟩ := hI
  refine ⟨hc, ?_, a3, ?_, a5, ?_, a7, a8, a9, a10, a11, a12, a13, a14, a15, a16⟩
  · unfold uHr
    by_cases q : p0 = nI 1 ∧ inR p1 1 4 = true
    · rw [if_pos q]; exact tN_le (by decide) (by decide) q.2
    · rw [if_neg q]; exact a2
  · unfold uSl
    by_cases q : p0 = nI 0 ∧ inR p1 0 5 = true
    · rw [if_pos q]; exact Nat.le_trans (tN_le (by decide) (by decide) q.2).2 (by decide)
    · rw [if_neg q]; exact a4
  · unfold uKd
    by_cases q : p0 = nI 2 ∧ inR p1 0 2 = true
    · rw [if_pos q]; exact Nat.lt_succ_of_le (tN_le (by decide) (by decide) q.2).2
    · rw [if_neg q]; exact a6
theorem LI.sy (hI : LI w slip kd num h kn od fch cnt cd hal htn nl lg hs rw1) : LI w slip kd num h kn od fch (uSN cnt p0) (uSC cd cnt p0) hal htn nl lg hs rw1 := by
  obtain ⟨a1, a2, a3, a4, a5, a6, a7, a8, a9, a10, a11, a12, a13, a14, a15, a16⟩ := hI
  refine ⟨a1, a2, a3, a4, a5, a6, ?_, fun j => ?_, a9, a10, a11, a12, a13, a14, a15, a16⟩
  · unfold uSN addN
    by_cases q : inR p0 33 126 = true
    · rw [if_pos q]
      by_cases z : cnt < 40
      · rw [if_pos z]; omega
      · rw [if_neg z]; exact a7
    · rw [if_neg q]; exact a7
  · unfold uSC addC
    by_cases q : inR p0 33 126 = true
    · rw [if_pos q]
      by_cases z : cnt < 40
      · rw [if_pos z]
        by_cases y : j = cnt
        · rw [y, nu_s]; exact Nat.lt_succ_of_le (tN_le (by decide) (by decide) q).2
        · rw [nu_n y]; exact a8 j
      · rw [if_neg z]; exact a8 j
    · rw [if_neg q]; exact a8 j
theorem LI.wp (hI : LI w slip kd num h kn od fch cnt cd hal htn nl lg hs rw1) : LI w slip kd num h kn od fch 0 cd hal htn nl lg hs rw1 := by
  obtain ⟨a1, a2, a3, a4, a5, a6, a7, a8, a9, a10, a11, a12, a13, a14, a15, a16⟩ := hI
  exact ⟨a1, a2, a3, a4, a5, a6, Nat.zero_le _, a8, a9, a10, a11, a12, a13, a14, a15, a16⟩
theorem LI.bf (hI : LI w slip kd num h kn od fch cnt cd hal htn nl lg hs rw1) (hc : CIv w slip kd (uBn num cd cnt) h kn2 od2 fch2) (he : nl2 ≤ 7 ∧ okL lg2 nl2 ∧ ∀ t, t < 8 → bfM lg2 t nl2 0 = uBn num cd cnt t) : LI w slip kd (uBn num cd cnt) h kn2 od2 fch2 (uBc cd cnt) cd hal htn nl2 lg2 hs rw1 := by
  obtain ⟨a1, a2, a3, a4, a5, a6, a7, a8, a9, a10, a11, a12, a13, a14, a15, a16⟩ := hI
  refine ⟨hc, a2, a3, a4, fun j hj => ?_, a6, ?_, a8, a9, a10, a11, a12, he.1, he.2.1, he.2.2, a16⟩
  · unfold uBn
    by_cases q : ffI cd cnt = -6
    · rw [if_pos q]
      obtain ⟨-, hok⟩ := okT_of q (by omega) rfl
      exact (nfr_in hok _ 0 (by omega)).2
    · rw [if_neg q]; exact a5 j hj
  · unfold uBc
    by_cases q : ffI cd cnt = -6
    · rw [if_pos q]; exact Nat.zero_le _
    · rw [if_neg q]; exact a7
theorem LI.hr (hI : LI w slip kd num h kn od fch cnt cd hal htn nl lg hs rw1) : LI w slip kd num h kn od fch cnt cd (uHa hal p0 p1) (uHt htn hal p0 p1) nl lg (uHs hs hal p0 p1) rw1 := by
  obtain ⟨a1, a2, a3, a4, a5, a6, a7, a8, a9, a10, a11, a12, a13, a14, a15, a16⟩ := id hI
  unfold uHa uHt uHs
  by_cases q : okH hal p0 p1 = true
  · rw [if_pos q, if_pos q, if_pos q]
    simp only [okH, Bool.and_eq_true, decide_eq_true_eq] at q
    obtain ⟨⟨q1, q2⟩, q3⟩ := q
    have e1 := (tN_le (by decide) (by decide) q1).2
    have e2 := (tN_le (by decide) (by decide) q2).2
    obtain ⟨sy, hsy⟩ : ∃ sy, sy = 2 * tN p0 + tN p1 := ⟨_, rfl⟩
    rw [← hsy]
    have h6 : sy < 6 := by omega
    refine ⟨a1, a2, a3, a4, a5, a6, a7, a8, q3, fun j hj => ?_, lt6_nu a11 h6, fun x hx => ?_, a13, a14, a15, a16⟩
    · rw [shw_nu h6]
      have := a10 j hj
      split <;> omega
    · have e : cf (nu hs hal sy) hal = cf hs hal := cf_cong hal (fun i hi => nu_n (Nat.ne_of_lt hi))
      show nu htn sy (htn sy + 1) x = nu (cf (nu hs hal sy) hal) (nu hs hal sy hal) (cf (nu hs hal sy) hal (nu hs hal sy hal) + 1) x
      rw [e, nu_s]
      by_cases z : x = sy
      · rw [z, nu_s, nu_s, a12 sy h6]
      · rw [nu_n z, nu_n z, a12 x hx]
  · rw [if_neg q, if_neg q, if_neg q]
    exact hI
theorem LI.fg (hI : LI w slip kd num h kn od fch cnt cd hal htn nl lg hs rw1) : LI w slip kd num h kn od fch cnt cd 0 (nfl htn 0 6) nl lg hs rw1 := by
  obtain ⟨a1, a2, a3, a4, a5, a6, a7, a8, a9, a10, a11, a12, a13, a14, a15, a16⟩ := hI
  refine ⟨a1, a2, a3, a4, a5, a6, a7, a8, Nat.zero_le _, fun j hj => ?_, a11, fun x hx => ?_, a13, a14, a15, a16⟩
  · rw [shw_cong (a := nfl htn 0 6) (b := fun _ => 0) (fun x hx => if_pos hx)]
    exact Nat.le_refl 0
  · exact if_pos hx
theorem lk_eq (hh6 : ∀ j, j < 6 → hs j < 6) (hal6 : hal ≤ 6) (hcf : ∀ s, s < 6 → htn s = cf hs hal s) : ∀ t, t < 8 → lkC num slip htn hal t = lkM num slip hs t hal := fun t _ => by
  rw [(lk_cf hal (fun i hi => hh6 i (by omega))).1]
  unfold lkC
  rw [shw_cong hcf]
end
theorem aLk_c {a b : Nat → Nat} {p0 : Int32} (h : ∀ t, t < 8 → a t = b t) : aLk a p0 = aLk b p0 := by
  unfold aLk
  by_cases q : inR p0 0 7 = true
  · rw [if_pos q, if_pos q, h _ (Nat.lt_succ_of_le (tN_le (by decide) (by decide) q).2)]
  · rw [if_neg q, if_neg q]
theorem aTh_c {a b : Nat → Nat} {p0 p1 : Int32} (h : ∀ t, t < 8 → a t = b t) : aTh a p0 p1 = aTh b p0 p1 := by
  unfold aTh
  by_cases q : rfo (inR p0 0 7) (inR p1 0 1) = 0
  · rw [if_pos q, if_pos q, h _ (Nat.lt_succ_of_le (tN_le (by decide) (by decide) (rfo_0.mp q).1).2), sm_cong h]
  · rw [if_neg q, if_neg q]
theorem gt6 {L i : Nat} (hL : L ≤ 3072) (hi : i < 2 ^ 31) (h : ¬ Int32.ofNat L - nI 6 < nI i) : i + 6 ≤ L := by
  rcases Nat.lt_or_ge L 6 with q | q
  · refine absurd ?_ h
    have e : Int32.ofNat L - nI 6 < 0 := by
      rcases (show L = 0 ∨ L = 1 ∨ L = 2 ∨ L = 3 ∨ L = 4 ∨ L = 5 by omega) with rfl | rfl | rfl | rfl | rfl | rfl <;> decide
    exact Int32.lt_of_lt_of_le e (nI_pos' hi)
  · rw [show Int32.ofNat L = nI L from rfl, pk_sub q, nI_ltI (by omega) hi] at h
    omega
theorem arr_kn {args : Array Value} {s : State} (h : (Cond.arrayClass .int).before args s = true) : ∃ cA : ClassId, ArrOfT s cA .int ∧ va_RA s cA .int := by
  obtain ⟨cA, kA, comp, h1, h2, h3⟩ := Cond.arrayClass_spec h
  exact ⟨cA, fun n z => ⟨fun k q => (by cases q), kA, h2, comp, h3⟩, h1⟩
theorem arr_knl {args : Array Value} {s : State} (h : (Cond.arrayClass .long).before args s = true) : ∃ cA : ClassId, ArrOfT s cA .long ∧ va_RA s cA .long := by
  obtain ⟨cA, kA, comp, h1, h2, h3⟩ := Cond.arrayClass_spec h
  exact ⟨cA, fun n z => ⟨fun k q => (by cases q), kA, h2, comp, h3⟩, h1⟩
section SLD
variable {p : Program} {l : Launch} {e : Env} {R : Room} {s : State} {m : MethodId} {args : Array Value} {below : List Frame} {meth : Method} {c : Code} {H H0 : Heap} {locs : List Loc} {cells slots : Nat} {Q : State → Prop}
variable {cc : ByteArray} {pc : Nat} {ls : Array Slot} {rest : List Value} {A : Nat → Prop}
theorem r_sld (hx : p.tables.exec = Jvm.exec) (hb : c.code = cc) {b L : Nat} {xs : Nat → Int32} (hX : va_X b L xs s H0) (hbl : b < H0.size) (hbA : ¬ A b) (hS : va_S A H0 H locs) {i : Nat} (hi : i < L) (hn : L < 2 ^ 31) (hdg : decode cc pc = .ok (.iaload, 1))
    (kk : W p l e R s m args below meth c H locs cells slots Q (F0 m (pc + 1) ls (.int (xs i) :: rest))) : W p l e R s m args below meth c H locs cells slots Q (F0 m pc ls (.int (nI i) :: .ref b :: rest)) :=
  va_sld hx hb hX hbl hbA hS (vp_in_nI hi hn) hdg (by rw [nI_clamp (by omega)]; exact kk)
end SLD
def LST (D : va_G) (cI cJ : ClassId) (A : Nat → Prop) (xq sq hq lq oq pq req qc htq nq smq laq grq chq cq tq wq bq teq loq rq odq nwq nxq mq mw ms ml mh mr mst mn mth mld mpk mcm : Nat) (H : Heap) : Prop := ∃ (w : Nat → Nat) (slip : Nat) (kd : Nat) (num : Nat → Nat) (h : Nat) (kn : Nat) (od : Nat → Nat) (fch : Nat → Int32) (cnt : Nat) (cd : Nat → Nat) (hal : Nat) (htn : Nat → Nat) (nl : Nat) (lg : Nat → Nat) (hs : Nat → Nat) (rw1 : Nat → Nat) (re : Nat → Nat) (fb : Nat → Nat) (ft : Nat → Nat) (fl : Nat → Nat) (fr2 : Nat → Nat) (al : Nat) (tn : Nat → Nat) (cn0 : Nat → Nat) (cx0 : Nat → Nat) (rm : Nat) (lo : Nat) (st0 : Nat → Nat) (lon : Nat) (n0 : Nat → Nat) (th0 : Nat → Nat) (ld0 : Nat → Nat) (pk0 : Nat → Nat) (cm0 : Nat → Nat), LI w slip kd num h kn od fch cnt cd hal htn nl lg hs rw1 ∧ va_P D vwCl [(xq, .inr (5, [.ref sq, .ref hq, .ref lq, .ref oq, .ref pq, .ref req])), (sq, .inr (3, [.ref qc, .int (nI cnt)])), (qc, .inl (cI, 40, .inl (nF cd))), (hq, .inr (0, [.ref htq, .int (nI hal)])), (htq, .inl (cI, 6, .inl (nF htn))), (lq, .inr (1, [.ref nq, .int (nI slip), .int (nI kd)])), (nq, .inl (cI, 8, .inl (nF num))), (oq, .inr (2, [.ref lq, .ref smq, .ref laq, .ref grq, .ref chq, .ref cq])), (smq, .inl (cI, 210, .inl (nF SM))), (laq, .inl (cI, 210, .inl (nF LA))), (grq, .inl (cI, 504, .inl (nF GR))), (chq, .inl (cI, 210, .inl fch)), (cq, .inr (0, [.ref tq, .int (nI al)])), (tq, .inl (cI, 6, .inl (nF tn))), (pq, .inr (4, [.ref lq, .ref oq, .ref wq, .int (nI h), .ref bq, .ref teq, .ref loq, .ref rq, .ref odq, .int (nI kn), .ref nwq, .ref nxq])), (wq, .inl (cI, 3, .inl (nF w))), (bq, .inl (cJ, 6, .inr (.inl (lF fb)))), (teq, .inl (cJ, 6, .inr (.inl (lF ft)))), (loq, .inl (cJ, 210, .inr (.inl (lF fl)))), (rq, .inl (cJ, 8, .inr (.inl (lF fr2)))), (odq, .inl (cJ, 64, .inr (.inl (lF od)))), (nwq, .inl (cJ, 8, .inr (.inl (lF cn0)))), (nxq, .inl (cJ, 8, .inr (.inl (lF cx0)))), (req, .inl (cI, 8, .inl (nF re))), (mq, .inr (6, [.ref mw, .int (nI slip), .int (nI h), .int (nI kd), .ref ms, .int (nI cnt), .ref ml, .int (nI nl), .ref mh, .int (nI hal), .ref mr, .int (nI rm), .ref mst, .long (lN lo), .ref mn, .ref mth, .long (lN lon), .ref mld, .ref mpk, .ref mcm])), (mw, .inl (cI, 3, .inl (nF w))), (ms, .inl (cI, 40, .inl (nF cd))), (ml, .inl (cI, 28, .inl (nF lg))), (mh, .inl (cI, 6, .inl (nF hs))), (mr, .inl (cI, 6, .inl (nF rw1))), (mst, .inl (cJ, 64, .inr (.inl (lF st0)))), (mn, .inl (cJ, 8, .inr (.inl (lF n0)))), (mth, .inl (cJ, 8, .inr (.inl (lF th0)))), (mld, .inl (cI, 8, .inl (nF ld0))), (mpk, .inl (cI, 4, .inl (nF pk0))), (mcm, .inl (cJ, 8, .inr (.inl (lF cm0))))] H ∧ va_D A [(xq, .inr (5, [.ref sq, .ref hq, .ref lq, .ref oq, .ref pq, .ref req])), (sq, .inr (3, [.ref qc, .int (nI cnt)])), (qc, .inl (cI, 40, .inl (nF cd))), (hq, .inr (0, [.ref htq, .int (nI hal)])), (htq, .inl (cI, 6, .inl (nF htn))), (lq, .inr (1, [.ref nq, .int (nI slip), .int (nI kd)])), (nq, .inl (cI, 8, .inl (nF num))), (oq, .inr (2, [.ref lq, .ref smq, .ref laq, .ref grq, .ref chq, .ref cq])), (smq, .inl (cI, 210, .inl (nF SM))), (laq, .inl (cI, 210, .inl (nF LA))), (grq, .inl (cI, 504, .inl (nF GR))), (chq, .inl (cI, 210, .inl fch)), (cq, .inr (0, [.ref tq, .int (nI al)])), (tq, .inl (cI, 6, .inl (nF tn))), (pq, .inr (4, [.ref lq, .ref oq, .ref wq, .int (nI h), .ref bq, .ref teq, .ref loq, .ref rq, .ref odq, .int (nI kn), .ref nwq, .ref nxq])), (wq, .inl (cI, 3, .inl (nF w))), (bq, .inl (cJ, 6, .inr (.inl (lF fb)))), (teq, .inl (cJ, 6, .inr (.inl (lF ft)))), (loq, .inl (cJ, 210, .inr (.inl (lF fl)))), (rq, .inl (cJ, 8, .inr (.inl (lF fr2)))), (odq, .inl (cJ, 64, .inr (.inl (lF od)))), (nwq, .inl (cJ, 8, .inr (.inl (lF cn0)))), (nxq, .inl (cJ, 8, .inr (.inl (lF cx0)))), (req, .inl (cI, 8, .inl (nF re))), (mq, .inr (6, [.ref mw, .int (nI slip), .int (nI h), .int (nI kd), .ref ms, .int (nI cnt), .ref ml, .int (nI nl), .ref mh, .int (nI hal), .ref mr, .int (nI rm), .ref mst, .long (lN lo), .ref mn, .ref mth, .long (lN lon), .ref mld, .ref mpk, .ref mcm])), (mw, .inl (cI, 3, .inl (nF w))), (ms, .inl (cI, 40, .inl (nF cd))), (ml, .inl (cI, 28, .inl (nF lg))), (mh, .inl (cI, 6, .inl (nF hs))), (mr, .inl (cI, 6, .inl (nF rw1))), (mst, .inl (cJ, 64, .inr (.inl (lF st0)))), (mn, .inl (cJ, 8, .inr (.inl (lF n0)))), (mth, .inl (cJ, 8, .inr (.inl (lF th0)))), (mld, .inl (cI, 8, .inl (nF ld0))), (mpk, .inl (cI, 4, .inl (nF pk0))), (mcm, .inl (cJ, 8, .inr (.inl (lF cm0))))]
abbrev LHS (i b xq mq : Nat) : List (Nat × Value) := [(0, .ref b), (1, .ref xq), (2, .ref mq), (3, .int (nI i))]

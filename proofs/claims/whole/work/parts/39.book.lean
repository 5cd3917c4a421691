set_option maxHeartbeats 1000000 in
set_option maxRecDepth 100000 in
theorem m_X6_book (l : Launch) (D : va_G) (cI cJ : ClassId) (sz : Nat) (mq : Nat) (mw : Nat) (slip : Nat) (h : Nat) (kd : Nat) (ms : Nat) (cnt : Nat) (ml : Nat) (nl : Nat) (mh : Nat) (hn : Nat) (mr : Nat) (rm : Nat) (mst : Nat) (lo : Nat) (mn : Nat) (mth : Nat) (lon : Nat) (mld : Nat) (mpk : Nat) (mcm : Nat) (w : Nat → Nat) (lg : Nat → Nat) (num : Nat → Nat) (rw1 : Nat → Nat) (st0 : Nat → Nat) (p0 : Int32) (p1 : Int32) (p2 : Int32) (p3 : Int32) (p4 : Int32) (hh : 1 ≤ h ∧ h ≤ 4) (hw : ∀ j, j < 3 → w j ≤ 4) (hnl7 : nl ≤ 7) (hlg : okL lg nl) (hbf : ∀ t, t < 8 → bfM lg t nl 0 = num t) (hsl : slip ≤ 12) (hnum : ∀ j, j < 8 → num j < 10) (hr6 : ∀ j, j < 6 → rw1 j < 6) (hkd : kd < 3) : Met l yX6_book wsX6_book ({ frames := 4, cells := 0, slots := 0, locals := 105 }) (PX D cI cJ [(mq, .inr (6, [.ref mw, .int (nI slip), .int (nI h), .int (nI kd), .ref ms, .int (nI cnt), .ref ml, .int (nI nl), .ref mh, .int (nI hn), .ref mr, .int (nI rm), .ref mst, .long (lN lo), .ref mn, .ref mth, .long (lN lon), .ref mld, .ref mpk, .ref mcm])), (mw, .inl (cI, 3, .inl (nF w))), (ml, .inl (cI, 28, .inl (nF lg))), (mr, .inl (cI, 6, .inl (nF rw1))), (mst, .inl (cJ, 64, .inr (.inl (lF st0))))] sz [.ref mq, .int p0, .int p1, .int p2, .int p3, .int p4]) (QWl D (S := (Nat → Nat) × Nat × Nat × (Nat → Nat)) [(mq, .inr (6, [.ref mw, .int (nI slip), .int (nI h), .int (nI kd), .ref ms, .int (nI cnt), .ref ml, .int (nI nl), .ref mh, .int (nI hn), .ref mr, .int (nI rm), .ref mst, .long (lN lo), .ref mn, .ref mth, .long (lN lon), .ref mld, .ref mpk, .ref mcm])), (mw, .inl (cI, 3, .inl (nF w))), (ml, .inl (cI, 28, .inl (nF lg))), (mr, .inl (cI, 6, .inl (nF rw1))), (mst, .inl (cJ, 64, .inr (.inl (lF st0))))] sz (fun r u => r = aLv (rfo (inR p0 0 7 && inR p2 0 7 && inR p3 0 7) (inR p1 0 h && inR p4 0 1)) (rwF w slip kd num h (tN p0) (tN p2) (tN p1) (tN p3)) (wh w h 1) p4 ∧ (∀ j, j < 6 → u.1 j < 6)) (fun u => [(mq, .inr (6, [.ref mw, .int (nI slip), .int (nI h), .int (nI kd), .ref ms, .int (nI cnt), .ref ml, .int (nI nl), .ref mh, .int (nI hn), .ref mr, .int (nI (u.2.1)), .ref mst, .long (lN (u.2.2.1)), .ref mn, .ref mth, .long (lN lon), .ref mld, .ref mpk, .ref mcm])), (mw, .inl (cI, 3, .inl (nF w))), (ml, .inl (cI, 28, .inl (nF lg))), (mr, .inl (cI, 6, .inl (nF u.1))), (mst, .inl (cJ, 64, .inr (.inl (lF u.2.2.2))))])) 0 0 (va_A [(mq, .inr (6, [.ref mw, .int (nI slip), .int (nI h), .int (nI kd), .ref ms, .int (nI cnt), .ref ml, .int (nI nl), .ref mh, .int (nI hn), .ref mr, .int (nI rm), .ref mst, .long (lN lo), .ref mn, .ref mth, .long (lN lon), .ref mld, .ref mpk, .ref mcm])), (mw, .inl (cI, 3, .inl (nF w))), (ml, .inl (cI, 28, .inl (nF lg))), (mr, .inl (cI, 6, .inl (nF rw1))), (mst, .inl (cJ, 64, .inr (.inl (lF st0))))] sz) := by
  refine met_X (cc := cX6_book) (maxL := 6) (ret := (some .long)) (by decide) rfl (Nat.le_of_ble_eq_true rfl) ?_
  intro p e s m args below meth c Q ls A hQ hAe hAt hKB hP hD hA hl
  obtain ⟨hx, hb, hr, hml, hlk, hts, hown, hnm⟩ := hAt
  have hown : s.vm.findClass RX6 = some m.cls := hown
  have hS : va_S A s.heap s.heap [] := va_S.rf
  have hl : lv_has ls 6 [(0, .ref mq), (1, .int p0), (2, .int p1), (3, .int p2), (4, .int p3), (5, .int p4)] := hl
  have kl117 := hts (.constantLong RX6 117 ((-1000000000000000001))) (by decide +kernel)
  have hiX6 : ∀ w ∈ u_ws RX6 TX6 20, w ∈ wsX6_book := by decide +kernel
  have fl48 := hts (.fieldLink RX6 48 "TaughtTonguesModel" "hearsIs" "I") (by decide +kernel)
  have kl122 := hts (.constantLong RX6 122 ((-1000000000000000002))) (by decide +kernel)
  have fl25 := hts (.fieldLink RX6 25 "TaughtTonguesModel" "steps" "[J") (by decide +kernel)
  have fl143 := hts (.fieldLink RX6 143 "TaughtTonguesModel" "lower" "J") (by decide +kernel)
  refine lv_iload_n hx hb dX6_book_0 rfl (lv_at hl 1 rfl) ?_
  have hPc := hP.sub (ws' := []) [] rfl
  refine r_calli hP hS (va_runS (As := [.int p0]) (rest := []) ⟨hx, hb, hml, hown, hts⟩ (m_X6_isTongue l D cI cJ p0) (va_cwS 1 hts gX6_book_X6_isTongue rfl rfl rfl (by decide +kernel) ⟨Nat.le_of_ble_eq_true rfl, Nat.le_of_ble_eq_true rfl⟩) ⟨PR.blind, fun U hU hW => ⟨rfl, hKB.warm hW, by rw [hU]; exact hPc⟩⟩ rfl rfl hl.1 rfl (lv_room (Nat.le_of_ble_eq_true rfl)) dX6_book_1 ⟨Nat.le_of_ble_eq_true rfl, Nat.le_of_ble_eq_true rfl⟩) (fun r1 H locs hw1 hP hS => ?_)
  have hw1 : r1 = bI (inR p0 0 7) := hw1
  subst hw1
  refine r_bif_eq (b := inR p0 0 7) (tgt := 22) hx hb dX6_book_4 (by decide) (fun c4 => ?_) (fun c4 => ?_)
  · skip
    refine lv_ldc2 hx hb hown kl117 dX6_book_22 ?_
    exact w_lret hx hb hr hlk hQ hAe (rw1, rm, lo, st0) hP hD hS (by refine ⟨?_, hr6⟩; first | (simp only [c4, Bool.false_and, Bool.and_false, Bool.true_and, Bool.and_true]; rw [aLv_1]; done) | (simp only [c4, c11, Bool.false_and, Bool.and_false, Bool.true_and, Bool.and_true]; rw [aLv_1]; done) | (simp only [c4, c11, c19, Bool.false_and, Bool.and_false, Bool.true_and, Bool.and_true]; rw [aLv_1]; done)) dX6_book_25
  refine lv_iload_n hx hb dX6_book_7 rfl (lv_at hl 3 rfl) ?_
  have hPc := hP.sub (ws' := []) [] rfl
  refine r_calli hP hS (va_runS (As := [.int p2]) (rest := []) ⟨hx, hb, hml, hown, hts⟩ (m_X6_isTongue l D cI cJ p2) (va_cwS 1 hts gX6_book_X6_isTongue rfl rfl rfl (by decide +kernel) ⟨Nat.le_of_ble_eq_true rfl, Nat.le_of_ble_eq_true rfl⟩) ⟨PR.blind, fun U hU hW => ⟨rfl, hKB.warm hW, by rw [hU]; exact hPc⟩⟩ rfl rfl hl.1 rfl (lv_room (Nat.le_of_ble_eq_true rfl)) dX6_book_8 ⟨Nat.le_of_ble_eq_true rfl, Nat.le_of_ble_eq_true rfl⟩) (fun r2 H locs hw8 hP hS => ?_)
  have hw8 : r2 = bI (inR p2 0 7) := hw8
  subst hw8
  refine r_bif_eq (b := inR p2 0 7) (tgt := 22) hx hb dX6_book_11 (by decide) (fun c11 => ?_) (fun c11 => ?_)
  · skip
    refine lv_ldc2 hx hb hown kl117 dX6_book_22 ?_
    exact w_lret hx hb hr hlk hQ hAe (rw1, rm, lo, st0) hP hD hS (by refine ⟨?_, hr6⟩; first | (simp only [c4, Bool.false_and, Bool.and_false, Bool.true_and, Bool.and_true]; rw [aLv_1]; done) | (simp only [c4, c11, Bool.false_and, Bool.and_false, Bool.true_and, Bool.and_true]; rw [aLv_1]; done) | (simp only [c4, c11, c19, Bool.false_and, Bool.and_false, Bool.true_and, Bool.and_true]; rw [aLv_1]; done)) dX6_book_25
  refine lv_iload hx hb dX6_book_14 (lv_at hl 4 rfl) ?_
  have hPc := hP.sub (ws' := []) [] rfl
  refine r_calli hP hS (va_runS (As := [.int p3]) (rest := []) ⟨hx, hb, hml, hown, hts⟩ (m_X6_isTongue l D cI cJ p3) (va_cwS 1 hts gX6_book_X6_isTongue rfl rfl rfl (by decide +kernel) ⟨Nat.le_of_ble_eq_true rfl, Nat.le_of_ble_eq_true rfl⟩) ⟨PR.blind, fun U hU hW => ⟨rfl, hKB.warm hW, by rw [hU]; exact hPc⟩⟩ rfl rfl hl.1 rfl (lv_room (Nat.le_of_ble_eq_true rfl)) dX6_book_16 ⟨Nat.le_of_ble_eq_true rfl, Nat.le_of_ble_eq_true rfl⟩) (fun r3 H locs hw16 hP hS => ?_)
  have hw16 : r3 = bI (inR p3 0 7) := hw16
  subst hw16
  refine r_bif_ne (b := inR p3 0 7) (tgt := 26) hx hb dX6_book_19 (by decide) (fun c19 => ?_) (fun c19 => ?_)
  · skip
    refine lv_iload_n hx hb dX6_book_26 rfl (lv_at hl 2 rfl) ?_
    refine lv_i2l (v := p1.toInt64) hx hb dX6_book_27 rfl ?_
    refine lv_lconst (v := lN (0)) hx hb dX6_book_28 (by decide) ?_
    refine lv_aload_n hx hb dX6_book_29 rfl (lv_at hl 0 rfl) ?_
    refine va_get (D := D) (ci := 6) (v := .int (nI h)) (C := RX6) (T := TX6) (N := 20) hx hb hts hiX6 hown hKB.1 hP 0 rfl rfl 2 (by decide) fl48 (fun _ h9 => h9) rfl dX6_book_30 ?_
    refine r_i2l (a := h) hx hb dX6_book_33 (by omega) ?_
    have hPc := hP.sub (ws' := []) [] rfl
    refine r_calli hP hS (va_runS (As := [.long (p1.toInt64), .long (lN 0), .long (lN h)]) (rest := []) ⟨hx, hb, hml, hown, hts⟩ (m_X6_in l D cI cJ (p1.toInt64) (lN (0)) (lN (h))) (va_cwS 3 hts gX6_book_X6_in rfl rfl rfl (by decide +kernel) ⟨Nat.le_of_ble_eq_true rfl, Nat.le_of_ble_eq_true rfl⟩) ⟨PR.blind, fun U hU hW => ⟨rfl, hKB.warm hW, by rw [hU]; exact hPc⟩⟩ rfl rfl hl.1 rfl (lv_room (Nat.le_of_ble_eq_true rfl)) dX6_book_34 ⟨Nat.le_of_ble_eq_true rfl, Nat.le_of_ble_eq_true rfl⟩) (fun r4 H locs hw34 hP hS => ?_)
    have hw34 : r4 = bI (inL (p1.toInt64) (lN (0)) (lN (h))) := hw34
    subst hw34
    refine lv_topi (fun z5 ez5 => ?_)
    obtain rfl : z5 = bI (inR p1 0 h) := ez5.trans (congrArg bI (inL_R (by decide) (by omega)))
    refine r_bif_eq (b := inR p1 0 h) (tgt := 48) hx hb dX6_book_37 (by decide) (fun c37 => ?_) (fun c37 => ?_)
    · skip
      refine lv_ldc2 hx hb hown kl122 dX6_book_48 ?_
      exact w_lret hx hb hr hlk hQ hAe (rw1, rm, lo, st0) hP hD hS (by refine ⟨?_, hr6⟩; first | (simp only [c4, c11, c19, c37, Bool.false_and, Bool.and_false, Bool.true_and, Bool.and_true]; rw [aLv_2]; done) | (simp only [c4, c11, c19, c37, c45, Bool.false_and, Bool.and_false, Bool.true_and, Bool.and_true]; rw [aLv_2]; done)) dX6_book_51
    refine lv_iload hx hb dX6_book_40 (lv_at hl 5 rfl) ?_
    have hPc := hP.sub (ws' := []) [] rfl
    refine r_calli hP hS (va_runS (As := [.int p4]) (rest := []) ⟨hx, hb, hml, hown, hts⟩ (m_X6_isPart l D cI cJ p4) (va_cwS 1 hts gX6_book_X6_isPart rfl rfl rfl (by decide +kernel) ⟨Nat.le_of_ble_eq_true rfl, Nat.le_of_ble_eq_true rfl⟩) ⟨PR.blind, fun U hU hW => ⟨rfl, hKB.warm hW, by rw [hU]; exact hPc⟩⟩ rfl rfl hl.1 rfl (lv_room (Nat.le_of_ble_eq_true rfl)) dX6_book_42 ⟨Nat.le_of_ble_eq_true rfl, Nat.le_of_ble_eq_true rfl⟩) (fun r6 H locs hw42 hP hS => ?_)
    have hw42 : r6 = bI (inR p4 0 1) := hw42
    subst hw42
    refine r_bif_ne (b := inR p4 0 1) (tgt := 52) hx hb dX6_book_45 (by decide) (fun c45 => ?_) (fun c45 => ?_)
    · skip
      obtain ⟨V0, -, hV0, rfl⟩ := inR_t (by decide) (by decide) (c4)
      obtain ⟨V2, -, hV2, rfl⟩ := inR_t (by decide) (by decide) (c11)
      obtain ⟨V3, -, hV3, rfl⟩ := inR_t (by decide) (by decide) (c19)
      obtain ⟨V1, -, hV1, rfl⟩ := inR_t (by omega) (by omega) c37
      obtain ⟨V4, -, hV4, rfl⟩ := inR_t (by decide) (by decide) (c45)
      refine lv_aload_n hx hb dX6_book_52 rfl (lv_at hl 0 rfl) ?_
      refine lv_iload_n hx hb dX6_book_53 rfl (lv_at hl 1 rfl) ?_
      refine lv_iload_n hx hb dX6_book_54 rfl (lv_at hl 2 rfl) ?_
      have hPc := hP.sub (ws' := [(mq, .inr (6, [.ref mw, .int (nI slip), .int (nI h), .int (nI kd), .ref ms, .int (nI cnt), .ref ml, .int (nI nl), .ref mh, .int (nI hn), .ref mr, .int (nI rm), .ref mst, .long (lN lo), .ref mn, .ref mth, .long (lN lon), .ref mld, .ref mpk, .ref mcm])), (mw, .inl (cI, 3, .inl (nF w))), (ml, .inl (cI, 28, .inl (nF lg))), (mr, .inl (cI, 6, .inl (nF rw1))), (mst, .inl (cJ, 64, .inr (.inl (lF st0))))]) [0, 1, 2, 3, 4] rfl
      have hDc := hD.sub (ws' := [(mq, .inr (6, [.ref mw, .int (nI slip), .int (nI h), .int (nI kd), .ref ms, .int (nI cnt), .ref ml, .int (nI nl), .ref mh, .int (nI hn), .ref mr, .int (nI rm), .ref mst, .long (lN lo), .ref mn, .ref mth, .long (lN lon), .ref mld, .ref mpk, .ref mcm])), (mw, .inl (cI, 3, .inl (nF w))), (ml, .inl (cI, 28, .inl (nF lg))), (mr, .inl (cI, 6, .inl (nF rw1))), (mst, .inl (cJ, 64, .inr (.inl (lF st0))))]) [0, 1, 2, 3, 4] (by decide) rfl
      have hFc := va_free (wc := [(mq, .inr (6, [.ref mw, .int (nI slip), .int (nI h), .int (nI kd), .ref ms, .int (nI cnt), .ref ml, .int (nI nl), .ref mh, .int (nI hn), .ref mr, .int (nI rm), .ref mst, .long (lN lo), .ref mn, .ref mth, .long (lN lon), .ref mld, .ref mpk, .ref mcm])), (mw, .inl (cI, 3, .inl (nF w))), (ml, .inl (cI, 28, .inl (nF lg))), (mr, .inl (cI, 6, .inl (nF rw1))), (mst, .inl (cJ, 64, .inr (.inl (lF st0))))]) hD hS hA [0, 1, 2, 3, 4] rfl
      refine w_callv (wc := [(mq, .inr (6, [.ref mw, .int (nI slip), .int (nI h), .int (nI kd), .ref ms, .int (nI cnt), .ref ml, .int (nI nl), .ref mh, .int (nI hn), .ref mr, .int (nI rm), .ref mst, .long (lN lo), .ref mn, .ref mth, .long (lN lon), .ref mld, .ref mpk, .ref mcm])), (mw, .inl (cI, 3, .inl (nF w))), (ml, .inl (cI, 28, .inl (nF lg))), (mr, .inl (cI, 6, .inl (nF rw1))), (mst, .inl (cJ, 64, .inr (.inl (lF st0))))]) (wr := []) hP hD hS [0, 1, 2, 3, 4] [] rfl rfl (by decide) (by decide) hFc (va_runV (As := [.int (nI V0), .int (nI V1)]) (rest := []) ⟨hx, hb, hml, hown, hts⟩ (m_X6_findSteps l D cI cJ _ mq mw slip h kd ms cnt ml nl mh hn mr rm mst lo mn mth lon mld mpk mcm w lg num rw1 st0 V0 V1 (by omega) (by omega) (by assumption) (by assumption) (by assumption) (by assumption) (by assumption) (by assumption) (by assumption) (by assumption) (by assumption)) (cwV 2 hts gX6_book_X6_findSteps rfl rfl rfl (by decide +kernel) ⟨Nat.le_of_ble_eq_true rfl, Nat.le_of_ble_eq_true rfl⟩) ⟨PX.blind, va_recv hKB.1 hP (ci := 6) (q0 := 0) rfl rfl, fun U hU hW => ⟨rfl, by rw [hU], hKB.warm hW, by rw [hU]; exact hPc, hDc.weaken (fun _ _ _ _ => trivial)⟩⟩ rfl rfl hl.1 rfl (lv_room (Nat.le_of_ble_eq_true rfl)) dX6_book_55 ⟨Nat.le_of_ble_eq_true rfl, Nat.le_of_ble_eq_true rfl⟩) (fun u55 H locs hw55 hP hD hS => ?_)
      have hP : va_P D vwCl [(mq, .inr (6, [.ref mw, .int (nI slip), .int (nI h), .int (nI kd), .ref ms, .int (nI cnt), .ref ml, .int (nI nl), .ref mh, .int (nI hn), .ref mr, .int (nI h), .ref mst, .long (lN (lowN w h)), .ref mn, .ref mth, .long (lN lon), .ref mld, .ref mpk, .ref mcm])), (mw, .inl (cI, 3, .inl (nF w))), (ml, .inl (cI, 28, .inl (nF lg))), (mr, .inl (cI, 6, .inl (nF u55))), (mst, .inl (cJ, 64, .inr (.inl (lF (fun i => rwF w slip kd num h V0 (i / 8) V1 (i % 8))))))] _ := hP
      have hD : va_D A [(mq, .inr (6, [.ref mw, .int (nI slip), .int (nI h), .int (nI kd), .ref ms, .int (nI cnt), .ref ml, .int (nI nl), .ref mh, .int (nI hn), .ref mr, .int (nI h), .ref mst, .long (lN (lowN w h)), .ref mn, .ref mth, .long (lN lon), .ref mld, .ref mpk, .ref mcm])), (mw, .inl (cI, 3, .inl (nF w))), (ml, .inl (cI, 28, .inl (nF lg))), (mr, .inl (cI, 6, .inl (nF u55))), (mst, .inl (cJ, 64, .inr (.inl (lF (fun i => rwF w slip kd num h V0 (i / 8) V1 (i % 8))))))] := hD
      have hw55 : (∀ j, j < 6 → u55 j < 6) := hw55
      have hE55 := hw55
      have hP : va_P D vwCl [(mq, .inr (6, [.ref mw, .int (nI slip), .int (nI h), .int (nI kd), .ref ms, .int (nI cnt), .ref ml, .int (nI nl), .ref mh, .int (nI hn), .ref mr, .int (nI h), .ref mst, .long (lN (lowN w h)), .ref mn, .ref mth, .long (lN lon), .ref mld, .ref mpk, .ref mcm])), (mw, .inl (cI, 3, .inl (nF w))), (ml, .inl (cI, 28, .inl (nF lg))), (mr, .inl (cI, 6, .inl (nF u55))), (mst, .inl (cJ, 64, .inr (.inl (lF (fun i => rwF w slip kd num h V0 (i / 8) V1 (i % 8))))))] _ := hP
      have hD : va_D A [(mq, .inr (6, [.ref mw, .int (nI slip), .int (nI h), .int (nI kd), .ref ms, .int (nI cnt), .ref ml, .int (nI nl), .ref mh, .int (nI hn), .ref mr, .int (nI h), .ref mst, .long (lN (lowN w h)), .ref mn, .ref mth, .long (lN lon), .ref mld, .ref mpk, .ref mcm])), (mw, .inl (cI, 3, .inl (nF w))), (ml, .inl (cI, 28, .inl (nF lg))), (mr, .inl (cI, 6, .inl (nF u55))), (mst, .inl (cJ, 64, .inr (.inl (lF (fun i => rwF w slip kd num h V0 (i / 8) V1 (i % 8))))))] := hD
      have hr9 := hE55
      refine lv_aload_n hx hb dX6_book_58 rfl (lv_at hl 0 rfl) ?_
      refine va_get (D := D) (ci := 6) (v := .ref mst) (C := RX6) (T := TX6) (N := 20) hx hb hts hiX6 hown hKB.1 hP 0 rfl rfl 12 (by decide) fl25 (fun _ h9 => h9) rfl dX6_book_59 ?_
      refine lv_bipush (v := nI (8)) hx hb dX6_book_62 (by decide) ?_
      refine lv_iload_n hx hb dX6_book_64 rfl (lv_at hl 3 rfl) ?_
      refine r_imul (a := 8) (b := V2) hx hb dX6_book_65  ?_
      refine lv_iload hx hb dX6_book_66 (lv_at hl 4 rfl) ?_
      refine r_iadd (a := 8 * V2) (b := V3) hx hb dX6_book_68  ?_
      refine r_lald (i := (8 * V2) + V3) (v := lN ((fun i => rwF w slip kd num h V0 (i / 8) V1 (i % 8)) ((8 * V2) + V3))) hx hb hKB.1 hP 4 1 rfl rfl (by omega) (by decide) (rfl) dX6_book_69 ?_
      refine lv_topl (fun z8 ez8 => ?_)
      obtain rfl : z8 = lN (rwF w slip kd num h V0 V2 V1 V3) := ez8.trans (congrArg lN (at8 (g := fun u t => rwF w slip kd num h V0 u V1 t) (by omega)))
      refine lv_aload_n hx hb dX6_book_70 rfl (lv_at hl 0 rfl) ?_
      refine va_get (D := D) (ci := 6) (v := .long (lN (lowN w h))) (C := RX6) (T := TX6) (N := 20) hx hb hts hiX6 hown hKB.1 hP 0 rfl rfl 13 (by decide) fl143 (fun _ h9 => h9) rfl dX6_book_71 ?_
      refine lv_iload hx hb dX6_book_74 (lv_at hl 5 rfl) ?_
      have hPc := hP.sub (ws' := []) [] rfl
      refine r_calll hP hS (va_runS (As := [.long (lN (rwF w slip kd num h V0 V2 V1 V3)), .long (lN (lowN w h)), .int (nI V4)]) (rest := []) ⟨hx, hb, hml, hown, hts⟩ (m_X6_lowest l D cI cJ (rwF w slip kd num h V0 V2 V1 V3) (lowN w h) V4 (Nat.lt_of_le_of_lt (rwF_le hh.2 hsl (by omega)) (Nat.lt_of_le_of_lt (wh_lt hw (by rw [Nat.mul_one]; exact Nat.le_trans hh.2 (by decide))) (by decide))) (by rw [lowN_wh]; exact Nat.lt_of_le_of_lt (wh_lt hw (by rw [Nat.mul_one]; exact Nat.le_trans hh.2 (by decide))) (by decide)) (hV4)) (va_cwS 3 hts gX6_book_X6_lowest rfl rfl rfl (by decide +kernel) ⟨Nat.le_of_ble_eq_true rfl, Nat.le_of_ble_eq_true rfl⟩) ⟨PR.blind, fun U hU hW => ⟨rfl, hKB.warm hW, by rw [hU]; exact hPc⟩⟩ rfl rfl hl.1 rfl (lv_room (Nat.le_of_ble_eq_true rfl)) dX6_book_76 ⟨Nat.le_of_ble_eq_true rfl, Nat.le_of_ble_eq_true rfl⟩) (fun r9 H locs hw76 hP hS => ?_)
      have hw76 : r9 = lN (lwst (rwF w slip kd num h V0 V2 V1 V3) (lowN w h) V4) := hw76
      subst hw76
      exact w_lret hx hb hr hlk hQ hAe (u55, h, lowN w h, fun i => rwF w slip kd num h V0 (i / 8) V1 (i % 8)) hP hD hS (by refine ⟨?_, hr9⟩; simp only [c4, c11, c19, c37, c45, Bool.and_self]; rw [aLv_0, lowN_wh, tN_n (show V0 < 2 ^ 31 by omega), tN_n (show V2 < 2 ^ 31 by omega), tN_n (show V1 < 2 ^ 31 by omega), tN_n (show V3 < 2 ^ 31 by omega), tN_n (show V4 < 2 ^ 31 by omega)]) dX6_book_79
    refine lv_ldc2 hx hb hown kl122 dX6_book_48 ?_
    exact w_lret hx hb hr hlk hQ hAe (rw1, rm, lo, st0) hP hD hS (by refine ⟨?_, hr6⟩; first | (simp only [c4, c11, c19, c37, Bool.false_and, Bool.and_false, Bool.true_and, Bool.and_true]; rw [aLv_2]; done) | (simp only [c4, c11, c19, c37, c45, Bool.false_and, Bool.and_false, Bool.true_and, Bool.and_true]; rw [aLv_2]; done)) dX6_book_51
  refine lv_ldc2 hx hb hown kl117 dX6_book_22 ?_
  exact w_lret hx hb hr hlk hQ hAe (rw1, rm, lo, st0) hP hD hS (by refine ⟨?_, hr6⟩; first | (simp only [c4, Bool.false_and, Bool.and_false, Bool.true_and, Bool.and_true]; rw [aLv_1]; done) | (simp only [c4, c11, Bool.false_and, Bool.and_false, Bool.true_and, Bool.and_true]; rw [aLv_1]; done) | (simp only [c4, c11, c19, Bool.false_and, Bool.and_false, Bool.true_and, Bool.and_true]; rw [aLv_1]; done)) dX6_book_25

set_option maxHeartbeats 4000000 in
set_option maxRecDepth 100000 in
theorem m_X6_step (l : Launch) (D : va_G) (cI cJ : ClassId) (sz : Nat) (mq : Nat) (mw : Nat) (slip : Nat) (h : Nat) (kd : Nat) (ms : Nat) (cnt : Nat) (ml : Nat) (nl : Nat) (mh : Nat) (hn : Nat) (mr : Nat) (rm : Nat) (mst : Nat) (lo : Nat) (mn : Nat) (mth : Nat) (lon : Nat) (mld : Nat) (mpk : Nat) (mcm : Nat) (w : Nat → Nat) (lg : Nat → Nat) (num : Nat → Nat) (rw1 : Nat → Nat) (st0 : Nat → Nat) (p0 : Int32) (p1 : Int32) (p2 : Int32) (hh : 1 ≤ h ∧ h ≤ 4) (hw : ∀ j, j < 3 → w j ≤ 4) (hnl7 : nl ≤ 7) (hlg : okL lg nl) (hbf : ∀ t, t < 8 → bfM lg t nl 0 = num t) (hsl : slip ≤ 12) (hnum : ∀ j, j < 8 → num j < 10) (hr6 : ∀ j, j < 6 → rw1 j < 6) (hkd : kd < 3) : Met l yX6_step wsX6_step ({ frames := 5, cells := 0, slots := 0, locals := 130 }) (PX D cI cJ [(mq, .inr (6, [.ref mw, .int (nI slip), .int (nI h), .int (nI kd), .ref ms, .int (nI cnt), .ref ml, .int (nI nl), .ref mh, .int (nI hn), .ref mr, .int (nI rm), .ref mst, .long (lN lo), .ref mn, .ref mth, .long (lN lon), .ref mld, .ref mpk, .ref mcm])), (mw, .inl (cI, 3, .inl (nF w))), (ml, .inl (cI, 28, .inl (nF lg))), (mr, .inl (cI, 6, .inl (nF rw1))), (mst, .inl (cJ, 64, .inr (.inl (lF st0))))] sz [.ref mq, .int p0, .int p1, .int p2]) (QWl D (S := (Nat → Nat) × Nat × Nat × (Nat → Nat)) [(mq, .inr (6, [.ref mw, .int (nI slip), .int (nI h), .int (nI kd), .ref ms, .int (nI cnt), .ref ml, .int (nI nl), .ref mh, .int (nI hn), .ref mr, .int (nI rm), .ref mst, .long (lN lo), .ref mn, .ref mth, .long (lN lon), .ref mld, .ref mpk, .ref mcm])), (mw, .inl (cI, 3, .inl (nF w))), (ml, .inl (cI, 28, .inl (nF lg))), (mr, .inl (cI, 6, .inl (nF rw1))), (mst, .inl (cJ, 64, .inr (.inl (lF st0))))] sz (fun r u => r = aLv (rfo (inR p0 0 7 && inR p1 0 7) (inR p2 0 1)) (rwF w slip kd num h (tN p0) (tN p0) 0 (tN p1)) (wh w h 1) p2 ∧ (∀ j, j < 6 → u.1 j < 6)) (fun u => [(mq, .inr (6, [.ref mw, .int (nI slip), .int (nI h), .int (nI kd), .ref ms, .int (nI cnt), .ref ml, .int (nI nl), .ref mh, .int (nI hn), .ref mr, .int (nI (u.2.1)), .ref mst, .long (lN (u.2.2.1)), .ref mn, .ref mth, .long (lN lon), .ref mld, .ref mpk, .ref mcm])), (mw, .inl (cI, 3, .inl (nF w))), (ml, .inl (cI, 28, .inl (nF lg))), (mr, .inl (cI, 6, .inl (nF u.1))), (mst, .inl (cJ, 64, .inr (.inl (lF u.2.2.2))))])) 0 0 (va_A [(mq, .inr (6, [.ref mw, .int (nI slip), .int (nI h), .int (nI kd), .ref ms, .int (nI cnt), .ref ml, .int (nI nl), .ref mh, .int (nI hn), .ref mr, .int (nI rm), .ref mst, .long (lN lo), .ref mn, .ref mth, .long (lN lon), .ref mld, .ref mpk, .ref mcm])), (mw, .inl (cI, 3, .inl (nF w))), (ml, .inl (cI, 28, .inl (nF lg))), (mr, .inl (cI, 6, .inl (nF rw1))), (mst, .inl (cJ, 64, .inr (.inl (lF st0))))] sz) := by
  refine met_X (cc := cX6_step) (maxL := 4) (ret := (some .long)) (by decide) rfl (Nat.le_of_ble_eq_true rfl) ?_
  intro p e s m args below meth c Q ls A hQ hAe hAt hKB hP hD hA hl
  obtain ⟨hx, hb, hr, hml, hlk, hts, hown, hnm⟩ := hAt
  have hown : s.vm.findClass RX6 = some m.cls := hown
  have hS : va_S A s.heap s.heap [] := va_S.rf
  have hl : lv_has ls 4 [(0, .ref mq), (1, .int p0), (2, .int p1), (3, .int p2)] := hl
  refine lv_aload_n hx hb dX6_step_0 rfl (lv_at hl 0 rfl) ?_
  refine lv_iconst (v := nI (0)) hx hb dX6_step_1 (by decide) ?_
  refine lv_iconst (v := nI (0)) hx hb dX6_step_2 (by decide) ?_
  refine lv_iload_n hx hb dX6_step_3 rfl (lv_at hl 1 rfl) ?_
  refine lv_iload_n hx hb dX6_step_4 rfl (lv_at hl 2 rfl) ?_
  refine lv_iload_n hx hb dX6_step_5 rfl (lv_at hl 3 rfl) ?_
  have hPc := hP.sub (ws' := [(mq, .inr (6, [.ref mw, .int (nI slip), .int (nI h), .int (nI kd), .ref ms, .int (nI cnt), .ref ml, .int (nI nl), .ref mh, .int (nI hn), .ref mr, .int (nI rm), .ref mst, .long (lN lo), .ref mn, .ref mth, .long (lN lon), .ref mld, .ref mpk, .ref mcm])), (mw, .inl (cI, 3, .inl (nF w))), (ml, .inl (cI, 28, .inl (nF lg))), (mr, .inl (cI, 6, .inl (nF rw1))), (mst, .inl (cJ, 64, .inr (.inl (lF st0))))]) [0, 1, 2, 3, 4] rfl
  have hDc := hD.sub (ws' := [(mq, .inr (6, [.ref mw, .int (nI slip), .int (nI h), .int (nI kd), .ref ms, .int (nI cnt), .ref ml, .int (nI nl), .ref mh, .int (nI hn), .ref mr, .int (nI rm), .ref mst, .long (lN lo), .ref mn, .ref mth, .long (lN lon), .ref mld, .ref mpk, .ref mcm])), (mw, .inl (cI, 3, .inl (nF w))), (ml, .inl (cI, 28, .inl (nF lg))), (mr, .inl (cI, 6, .inl (nF rw1))), (mst, .inl (cJ, 64, .inr (.inl (lF st0))))]) [0, 1, 2, 3, 4] (by decide) rfl
  have hFc := va_free (wc := [(mq, .inr (6, [.ref mw, .int (nI slip), .int (nI h), .int (nI kd), .ref ms, .int (nI cnt), .ref ml, .int (nI nl), .ref mh, .int (nI hn), .ref mr, .int (nI rm), .ref mst, .long (lN lo), .ref mn, .ref mth, .long (lN lon), .ref mld, .ref mpk, .ref mcm])), (mw, .inl (cI, 3, .inl (nF w))), (ml, .inl (cI, 28, .inl (nF lg))), (mr, .inl (cI, 6, .inl (nF rw1))), (mst, .inl (cJ, 64, .inr (.inl (lF st0))))]) hD hS hA [0, 1, 2, 3, 4] rfl
  refine w_calll (wc := [(mq, .inr (6, [.ref mw, .int (nI slip), .int (nI h), .int (nI kd), .ref ms, .int (nI cnt), .ref ml, .int (nI nl), .ref mh, .int (nI hn), .ref mr, .int (nI rm), .ref mst, .long (lN lo), .ref mn, .ref mth, .long (lN lon), .ref mld, .ref mpk, .ref mcm])), (mw, .inl (cI, 3, .inl (nF w))), (ml, .inl (cI, 28, .inl (nF lg))), (mr, .inl (cI, 6, .inl (nF rw1))), (mst, .inl (cJ, 64, .inr (.inl (lF st0))))]) (wr := []) hP hD hS [0, 1, 2, 3, 4] [] rfl rfl (by decide) (by decide) hFc (va_runV (As := [.int (nI 0), .int (nI 0), .int p0, .int p1, .int p2]) (rest := []) ⟨hx, hb, hml, hown, hts⟩ (m_X6_book l D cI cJ _ mq mw slip h kd ms cnt ml nl mh hn mr rm mst lo mn mth lon mld mpk mcm w lg num rw1 st0 (nI 0) (nI 0) p0 p1 p2 (by assumption) (by assumption) (by assumption) (by assumption) (by assumption) (by assumption) (by assumption) (by assumption) (by assumption)) (cwV 5 hts gX6_step_X6_book rfl rfl rfl (by decide +kernel) ⟨Nat.le_of_ble_eq_true rfl, Nat.le_of_ble_eq_true rfl⟩) ⟨PX.blind, va_recv hKB.1 hP (ci := 6) (q0 := 0) rfl rfl, fun U hU hW => ⟨rfl, by rw [hU], hKB.warm hW, by rw [hU]; exact hPc, hDc.weaken (fun _ _ _ _ => trivial)⟩⟩ rfl rfl hl.1 rfl (lv_room (Nat.le_of_ble_eq_true rfl)) dX6_step_6 ⟨Nat.le_of_ble_eq_true rfl, Nat.le_of_ble_eq_true rfl⟩) (fun r1 u6 H locs hw6 hP hD hS => ?_)
  obtain ⟨rw9_6, rm9_6, lo9_6, st9_6⟩ := u6
  have hP : va_P D vwCl [(mq, .inr (6, [.ref mw, .int (nI slip), .int (nI h), .int (nI kd), .ref ms, .int (nI cnt), .ref ml, .int (nI nl), .ref mh, .int (nI hn), .ref mr, .int (nI rm9_6), .ref mst, .long (lN lo9_6), .ref mn, .ref mth, .long (lN lon), .ref mld, .ref mpk, .ref mcm])), (mw, .inl (cI, 3, .inl (nF w))), (ml, .inl (cI, 28, .inl (nF lg))), (mr, .inl (cI, 6, .inl (nF rw9_6))), (mst, .inl (cJ, 64, .inr (.inl (lF st9_6))))] _ := hP
  have hD : va_D A [(mq, .inr (6, [.ref mw, .int (nI slip), .int (nI h), .int (nI kd), .ref ms, .int (nI cnt), .ref ml, .int (nI nl), .ref mh, .int (nI hn), .ref mr, .int (nI rm9_6), .ref mst, .long (lN lo9_6), .ref mn, .ref mth, .long (lN lon), .ref mld, .ref mpk, .ref mcm])), (mw, .inl (cI, 3, .inl (nF w))), (ml, .inl (cI, 28, .inl (nF lg))), (mr, .inl (cI, 6, .inl (nF rw9_6))), (mst, .inl (cJ, 64, .inr (.inl (lF st9_6))))] := hD
  have hw6 : r1 = aLv (rfo (inR (nI 0) 0 7 && inR p0 0 7 && inR p1 0 7) (inR (nI 0) 0 h && inR p2 0 1)) (rwF w slip kd num h (tN (nI 0)) (tN p0) (tN (nI 0)) (tN p1)) (wh w h 1) p2 ∧ (∀ j, j < 6 → rw9_6 j < 6) := hw6
  obtain ⟨hw6, hE6⟩ := hw6
  subst hw6
  have hP : va_P D vwCl [(mq, .inr (6, [.ref mw, .int (nI slip), .int (nI h), .int (nI kd), .ref ms, .int (nI cnt), .ref ml, .int (nI nl), .ref mh, .int (nI hn), .ref mr, .int (nI rm9_6), .ref mst, .long (lN lo9_6), .ref mn, .ref mth, .long (lN lon), .ref mld, .ref mpk, .ref mcm])), (mw, .inl (cI, 3, .inl (nF w))), (ml, .inl (cI, 28, .inl (nF lg))), (mr, .inl (cI, 6, .inl (nF rw9_6))), (mst, .inl (cJ, 64, .inr (.inl (lF st9_6))))] _ := hP
  have hD : va_D A [(mq, .inr (6, [.ref mw, .int (nI slip), .int (nI h), .int (nI kd), .ref ms, .int (nI cnt), .ref ml, .int (nI nl), .ref mh, .int (nI hn), .ref mr, .int (nI rm9_6), .ref mst, .long (lN lo9_6), .ref mn, .ref mth, .long (lN lon), .ref mld, .ref mpk, .ref mcm])), (mw, .inl (cI, 3, .inl (nF w))), (ml, .inl (cI, 28, .inl (nF lg))), (mr, .inl (cI, 6, .inl (nF rw9_6))), (mst, .inl (cJ, 64, .inr (.inl (lF st9_6))))] := hD
  have hr9 := hE6
  exact w_lret hx hb hr hlk hQ hAe (rw9_6, rm9_6, lo9_6, st9_6) hP hD hS (by refine ⟨?_, hr9⟩; rw [show inR (nI 0) 0 7 = true from rfl, inR_n (T := 0) (by omega) (Nat.zero_le _) (by decide), tN_n (show 0 < 2 ^ 31 by decide), rwF_b0 (bk := 0) (bk2 := tN p0) hh.2]; simp) dX6_step_9


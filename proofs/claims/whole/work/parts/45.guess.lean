set_option maxHeartbeats 4000000 in
set_option maxRecDepth 100000 in
theorem m_X6_told (l : Launch) (D : va_G) (cI cJ : ClassId) (mq : Nat) (mw : Nat) (slip : Nat) (h : Nat) (kd : Nat) (ms : Nat) (cnt : Nat) (ml : Nat) (nl : Nat) (mh : Nat) (hn : Nat) (mr : Nat) (rm : Nat) (mst : Nat) (lo : Nat) (mn : Nat) (mth : Nat) (lon : Nat) (mld : Nat) (mpk : Nat) (mcm : Nat) (w : Nat → Nat) (p0 : Int32) : Met l yX6_told wsX6_told ({ frames := 1, cells := 0, slots := 0, locals := 25 }) (PR D cI cJ [(mq, .inr (6, [.ref mw, .int (nI slip), .int (nI h), .int (nI kd), .ref ms, .int (nI cnt), .ref ml, .int (nI nl), .ref mh, .int (nI hn), .ref mr, .int (nI rm), .ref mst, .long (lN lo), .ref mn, .ref mth, .long (lN lon), .ref mld, .ref mpk, .ref mcm])), (mw, .inl (cI, 3, .inl (nF w)))] [.ref mq, .int p0]) (QRi (fun r => r = aTo w slip h kd cnt hn p0)) 0 0 NA := by
  refine met_R (cc := cX6_told) (maxL := 2) (ret := (some .int)) (by decide) rfl (Nat.le_of_ble_eq_true rfl) ?_
  intro p e s m args below meth c Q ls hQ hAt hKB hP hl
  obtain ⟨hx, hb, hr, hml, hlk, hts, hown, hnm⟩ := hAt
  have hown : s.vm.findClass RX6 = some m.cls := hown
  have hS : va_S NA s.heap s.heap [] := va_S.rf
  have hl : lv_has ls 2 [(0, .ref mq), (1, .int p0)] := hl
  have kl182 := hts (.constantLong RX6 182 (lN (10))) (by decide +kernel)
  have kl137 := hts (.constantLong RX6 137 (lN (12))) (by decide +kernel)
  have kl51 := hts (.constantLong RX6 51 (lN (2))) (by decide +kernel)
  have hiX6 : ∀ w ∈ u_ws RX6 TX6 20, w ∈ wsX6_told := by decide +kernel
  have fl98 := hts (.fieldLink RX6 98 "TaughtTonguesModel" "heardMany" "I") (by decide +kernel)
  have fl78 := hts (.fieldLink RX6 78 "TaughtTonguesModel" "signMany" "I") (by decide +kernel)
  have fl7 := hts (.fieldLink RX6 7 "TaughtTonguesModel" "weights" "[I") (by decide +kernel)
  refine lv_iload_n hx hb dX6_told_0 rfl (lv_at hl 1 rfl) ?_
  refine lv_i2l (v := p0.toInt64) hx hb dX6_told_1 rfl ?_
  refine lv_ldc2 hx hb hown kl182 dX6_told_2 ?_
  refine lv_ldc2 hx hb hown kl137 dX6_told_5 ?_
  have hPc := hP.sub (ws' := []) [] rfl
  refine r_calli hP hS (va_runS (As := [.long (p0.toInt64), .long (lN 10), .long (lN 12)]) (rest := []) ⟨hx, hb, hml, hown, hts⟩ (m_X6_in l D cI cJ (p0.toInt64) (lN (10)) (lN (12))) (va_cwS 3 hts gX6_told_X6_in rfl rfl rfl (by decide +kernel) ⟨Nat.le_of_ble_eq_true rfl, Nat.le_of_ble_eq_true rfl⟩) ⟨PR.blind, fun U hU hW => ⟨rfl, hKB.warm hW, by rw [hU]; exact hPc⟩⟩ rfl rfl hl.1 rfl (lv_room (Nat.le_of_ble_eq_true rfl)) dX6_told_8 ⟨Nat.le_of_ble_eq_true rfl, Nat.le_of_ble_eq_true rfl⟩) (fun r1 H locs hw8 hP hS => ?_)
  have hw8 : r1 = bI (inL (p0.toInt64) (lN (10)) (lN (12))) := hw8
  subst hw8
  refine lv_topi (fun z2 ez2 => ?_)
  obtain rfl : z2 = bI (inR p0 10 12) := ez2.trans (congrArg bI (inL_R (by decide) (by decide)))
  refine r_bif_eq (b := inR p0 10 12) (tgt := 24) hx hb dX6_told_11 (by decide) (fun c11 => ?_) (fun c11 => ?_)
  · skip
    refine lv_iload_n hx hb dX6_told_24 rfl (lv_at hl 1 rfl) ?_
    refine lv_i2l (v := p0.toInt64) hx hb dX6_told_25 rfl ?_
    refine lv_lconst (v := lN (0)) hx hb dX6_told_26 (by decide) ?_
    refine lv_ldc2 hx hb hown kl51 dX6_told_27 ?_
    have hPc := hP.sub (ws' := []) [] rfl
    refine r_calli hP hS (va_runS (As := [.long (p0.toInt64), .long (lN 0), .long (lN 2)]) (rest := []) ⟨hx, hb, hml, hown, hts⟩ (m_X6_in l D cI cJ (p0.toInt64) (lN (0)) (lN (2))) (va_cwS 3 hts gX6_told_X6_in rfl rfl rfl (by decide +kernel) ⟨Nat.le_of_ble_eq_true rfl, Nat.le_of_ble_eq_true rfl⟩) ⟨PR.blind, fun U hU hW => ⟨rfl, hKB.warm hW, by rw [hU]; exact hPc⟩⟩ rfl rfl hl.1 rfl (lv_room (Nat.le_of_ble_eq_true rfl)) dX6_told_30 ⟨Nat.le_of_ble_eq_true rfl, Nat.le_of_ble_eq_true rfl⟩) (fun r3 H locs hw30 hP hS => ?_)
    have hw30 : r3 = bI (inL (p0.toInt64) (lN (0)) (lN (2))) := hw30
    subst hw30
    refine lv_topi (fun z4 ez4 => ?_)
    obtain rfl : z4 = bI (inR p0 0 2) := ez4.trans (congrArg bI (inL_R (by decide) (by decide)))
    refine r_bif_eq (b := inR p0 0 2) (tgt := 44) hx hb dX6_told_33 (by decide) (fun c33 => ?_) (fun c33 => ?_)
    · skip
      refine lv_iload_n hx hb dX6_told_44 rfl (lv_at hl 1 rfl) ?_
      refine lv_iconst (v := nI (3)) hx hb dX6_told_45 (by decide) ?_
      refine lv_icmp_ne (tgt := 56) hx hb dX6_told_46 (by decide) (fun c46 => ?_) (fun c46 => ?_)
      · skip
        refine lv_iload_n hx hb dX6_told_56 rfl (lv_at hl 1 rfl) ?_
        refine lv_iconst (v := nI (4)) hx hb dX6_told_57 (by decide) ?_
        refine lv_icmp_ne (tgt := 68) hx hb dX6_told_58 (by decide) (fun c58 => ?_) (fun c58 => ?_)
        · skip
          refine lv_bipush (v := (-2)) hx hb dX6_told_68 (by decide) ?_
          exact r_iret hx hb hr hlk hQ hS (by rw [aTo, if_neg (out3 c33 (by decide)), if_neg (out3 c33 (by decide)), if_neg (out3 c33 (by decide)), if_neg c46, if_neg c58, if_neg (by rw [c11]; decide)]) dX6_told_70
        refine lv_aload_n hx hb dX6_told_61 rfl (lv_at hl 0 rfl) ?_
        refine va_get (D := D) (ci := 6) (v := .int (nI hn)) (C := RX6) (T := TX6) (N := 20) hx hb hts hiX6 hown hKB.1 hP 0 rfl rfl 9 (by decide) fl98 (fun _ h9 => h9) rfl dX6_told_62 ?_
        refine lv_goto (tgt := 70) hx hb dX6_told_65 (by decide) ?_
        exact r_iret hx hb hr hlk hQ hS (by subst c58; rfl) dX6_told_70
      refine lv_aload_n hx hb dX6_told_49 rfl (lv_at hl 0 rfl) ?_
      refine va_get (D := D) (ci := 6) (v := .int (nI cnt)) (C := RX6) (T := TX6) (N := 20) hx hb hts hiX6 hown hKB.1 hP 0 rfl rfl 5 (by decide) fl78 (fun _ h9 => h9) rfl dX6_told_50 ?_
      refine lv_goto (tgt := 70) hx hb dX6_told_53 (by decide) ?_
      exact r_iret hx hb hr hlk hQ hS (by subst c46; rfl) dX6_told_70
    obtain ⟨V, -, hV, rfl⟩ := inR_t (by decide) (by decide) (c33)
    refine lv_aload_n hx hb dX6_told_36 rfl (lv_at hl 0 rfl) ?_
    refine lv_iload_n hx hb dX6_told_37 rfl (lv_at hl 1 rfl) ?_
    have hPc := hP.sub (ws' := [(mq, .inr (6, [.ref mw, .int (nI slip), .int (nI h), .int (nI kd), .ref ms, .int (nI cnt), .ref ml, .int (nI nl), .ref mh, .int (nI hn), .ref mr, .int (nI rm), .ref mst, .long (lN lo), .ref mn, .ref mth, .long (lN lon), .ref mld, .ref mpk, .ref mcm]))]) [0] rfl
    refine r_calli hP hS (va_runV (As := [.int (nI V)]) (rest := []) ⟨hx, hb, hml, hown, hts⟩ (m_X6_numberIs l D cI cJ mq mw slip h kd ms cnt ml nl mh hn mr rm mst lo mn mth lon mld mpk mcm V (by omega)) (cwV 1 hts gX6_told_X6_numberIs rfl rfl rfl (by decide +kernel) ⟨Nat.le_of_ble_eq_true rfl, Nat.le_of_ble_eq_true rfl⟩) ⟨PR.blind, va_recv hKB.1 hP (ci := 6) (q0 := 0) rfl rfl, fun U hU hW => ⟨rfl, hKB.warm hW, by rw [hU]; exact hPc⟩⟩ rfl rfl hl.1 rfl (lv_room (Nat.le_of_ble_eq_true rfl)) dX6_told_38 ⟨Nat.le_of_ble_eq_true rfl, Nat.le_of_ble_eq_true rfl⟩) (fun r5 H locs hw38 hP hS => ?_)
    have hw38 : r5 = nI (if V = 0 then slip else if V = 1 then h else kd) := hw38
    subst hw38
    refine lv_goto (tgt := 70) hx hb dX6_told_41 (by decide) ?_
    exact r_iret hx hb hr hlk hQ hS (by rcases (show V = 0 ∨ V = 1 ∨ V = 2 by omega) with rfl | rfl | rfl <;> rfl) dX6_told_70
  obtain ⟨V, hV0, hV, rfl⟩ := inR_t (by decide) (by decide) c11
  refine lv_aload_n hx hb dX6_told_14 rfl (lv_at hl 0 rfl) ?_
  refine va_get (D := D) (ci := 6) (v := .ref mw) (C := RX6) (T := TX6) (N := 20) hx hb hts hiX6 hown hKB.1 hP 0 rfl rfl 0 (by decide) fl7 (fun _ h9 => h9) rfl dX6_told_15 ?_
  refine lv_iload_n hx hb dX6_told_18 rfl (lv_at hl 1 rfl) ?_
  refine lv_bipush (v := nI (10)) hx hb dX6_told_19 (by decide) ?_
  refine r_isub (a := V) (b := 10) hx hb dX6_told_21 (by omega) ?_
  refine r_iald (i := V - 10) (v := nI (w (V - 10))) hx hb hKB.1 hP 1 0 rfl rfl (by omega) (by decide) (rfl) dX6_told_22 ?_
  exact r_iret hx hb hr hlk hQ hS (by rw [aTo, if_neg (nI_nn (by omega) (by decide) (by omega)), if_neg (nI_nn (by omega) (by decide) (by omega)), if_neg (nI_nn (by omega) (by decide) (by omega)), if_neg (nI_nn (by omega) (by decide) (by omega)), if_neg (nI_nn (by omega) (by decide) (by omega)), if_pos c11, tN_n (show V < 2 ^ 31 by omega)]) dX6_told_23

set_option maxHeartbeats 1000000 in
set_option maxRecDepth 100000 in
theorem m_X6_guess (l : Launch) (D : va_G) (cI cJ : ClassId) (sz : Nat) (mq : Nat) (mw : Nat) (slip : Nat) (h : Nat) (kd : Nat) (ms : Nat) (cnt : Nat) (ml : Nat) (nl : Nat) (mh : Nat) (hn : Nat) (mr : Nat) (rm : Nat) (mst : Nat) (lo : Nat) (mn : Nat) (mth : Nat) (lon : Nat) (mld : Nat) (mpk : Nat) (mcm : Nat) (w : Nat → Nat) (lg : Nat → Nat) (num : Nat → Nat) (rw1 : Nat → Nat) (st0 : Nat → Nat) (n0 : Nat → Nat) (th0 : Nat → Nat) (cm0 : Nat → Nat) (p0 : Int32) (p1 : Int32) (p2 : Int32) (hh : 1 ≤ h ∧ h ≤ 4) (hw : ∀ j, j < 3 → w j ≤ 4) (hnl7 : nl ≤ 7) (hlg : okL lg nl) (hbf : ∀ t, t < 8 → bfM lg t nl 0 = num t) (hsl : slip ≤ 12) (hnum : ∀ j, j < 8 → num j < 10) (hr6 : ∀ j, j < 6 → rw1 j < 6) (hkd : kd < 3) : Met l yX6_guess wsX6_guess ({ frames := 5, cells := 0, slots := 0, locals := 130 }) (PX D cI cJ [(mq, .inr (6, [.ref mw, .int (nI slip), .int (nI h), .int (nI kd), .ref ms, .int (nI cnt), .ref ml, .int (nI nl), .ref mh, .int (nI hn), .ref mr, .int (nI rm), .ref mst, .long (lN lo), .ref mn, .ref mth, .long (lN lon), .ref mld, .ref mpk, .ref mcm])), (mw, .inl (cI, 3, .inl (nF w))), (ml, .inl (cI, 28, .inl (nF lg))), (mr, .inl (cI, 6, .inl (nF rw1))), (mst, .inl (cJ, 64, .inr (.inl (lF st0)))), (mn, .inl (cJ, 8, .inr (.inl (lF n0)))), (mth, .inl (cJ, 8, .inr (.inl (lF th0)))), (mcm, .inl (cJ, 8, .inr (.inl (lF cm0))))] sz [.ref mq, .int p0, .int p1, .int p2]) (QWi D (S := (Nat → Nat) × Nat × Nat × (Nat → Nat) × Nat × (Nat → Nat) × (Nat → Nat) × (Nat → Nat)) [(mq, .inr (6, [.ref mw, .int (nI slip), .int (nI h), .int (nI kd), .ref ms, .int (nI cnt), .ref ml, .int (nI nl), .ref mh, .int (nI hn), .ref mr, .int (nI rm), .ref mst, .long (lN lo), .ref mn, .ref mth, .long (lN lon), .ref mld, .ref mpk, .ref mcm])), (mw, .inl (cI, 3, .inl (nF w))), (ml, .inl (cI, 28, .inl (nF lg))), (mr, .inl (cI, 6, .inl (nF rw1))), (mst, .inl (cJ, 64, .inr (.inl (lF st0)))), (mn, .inl (cJ, 8, .inr (.inl (lF n0)))), (mth, .inl (cJ, 8, .inr (.inl (lF th0)))), (mcm, .inl (cJ, 8, .inr (.inl (lF cm0))))] sz (fun r u => r = aGu (rfL (inR p0 0 7) (inR p2 0 1) h p1) (bwd (stp w slip kd num h) (tN p0) (tN p1)) p2 ∧ (∀ j, j < 6 → u.1 j < 6)) (fun u => [(mq, .inr (6, [.ref mw, .int (nI slip), .int (nI h), .int (nI kd), .ref ms, .int (nI cnt), .ref ml, .int (nI nl), .ref mh, .int (nI hn), .ref mr, .int (nI (u.2.1)), .ref mst, .long (lN (u.2.2.1)), .ref mn, .ref mth, .long (lN (u.2.2.2.2.1)), .ref mld, .ref mpk, .ref mcm])), (mw, .inl (cI, 3, .inl (nF w))), (ml, .inl (cI, 28, .inl (nF lg))), (mr, .inl (cI, 6, .inl (nF u.1))), (mst, .inl (cJ, 64, .inr (.inl (lF u.2.2.2.1)))), (mn, .inl (cJ, 8, .inr (.inl (lF u.2.2.2.2.2.1)))), (mth, .inl (cJ, 8, .inr (.inl (lF u.2.2.2.2.2.2.1)))), (mcm, .inl (cJ, 8, .inr (.inl (lF u.2.2.2.2.2.2.2))))])) 0 0 (va_A [(mq, .inr (6, [.ref mw, .int (nI slip), .int (nI h), .int (nI kd), .ref ms, .int (nI cnt), .ref ml, .int (nI nl), .ref mh, .int (nI hn), .ref mr, .int (nI rm), .ref mst, .long (lN lo), .ref mn, .ref mth, .long (lN lon), .ref mld, .ref mpk, .ref mcm])), (mw, .inl (cI, 3, .inl (nF w))), (ml, .inl (cI, 28, .inl (nF lg))), (mr, .inl (cI, 6, .inl (nF rw1))), (mst, .inl (cJ, 64, .inr (.inl (lF st0)))), (mn, .inl (cJ, 8, .inr (.inl (lF n0)))), (mth, .inl (cJ, 8, .inr (.inl (lF th0)))), (mcm, .inl (cJ, 8, .inr (.inl (lF cm0))))] sz) := by
  refine met_X (cc := cX6_guess) (maxL := 9) (ret := (some .int)) (by decide) rfl (Nat.le_of_ble_eq_true rfl) ?_
  intro p e s m args below meth c Q ls A hQ hAe hAt hKB hP hD hA hl
  obtain ⟨hx, hb, hr, hml, hlk, hts, hown, hnm⟩ := hAt
  have hown : s.vm.findClass RX6 = some m.cls := hown
  have hS : va_S A s.heap s.heap [] := va_S.rf
  have hl : lv_has ls 9 [(0, .ref mq), (1, .int p0), (2, .int p1), (3, .int p2)] := hl
  have hiX6 : ∀ w ∈ u_ws RX6 TX6 20, w ∈ wsX6_guess := by decide +kernel
  have fl48 := hts (.fieldLink RX6 48 "TaughtTonguesModel" "hearsIs" "I") (by decide +kernel)
  have fl41 := hts (.fieldLink RX6 41 "TaughtTonguesModel" "came" "[J") (by decide +kernel)
  refine lv_iload_n hx hb dX6_guess_0 rfl (lv_at hl 1 rfl) ?_
  have hPc := hP.sub (ws' := []) [] rfl
  refine r_calli hP hS (va_runS (As := [.int p0]) (rest := []) ⟨hx, hb, hml, hown, hts⟩ (m_X6_isTongue l D cI cJ p0) (va_cwS 1 hts gX6_guess_X6_isTongue rfl rfl rfl (by decide +kernel) ⟨Nat.le_of_ble_eq_true rfl, Nat.le_of_ble_eq_true rfl⟩) ⟨PR.blind, fun U hU hW => ⟨rfl, hKB.warm hW, by rw [hU]; exact hPc⟩⟩ rfl rfl hl.1 rfl (lv_room (Nat.le_of_ble_eq_true rfl)) dX6_guess_1 ⟨Nat.le_of_ble_eq_true rfl, Nat.le_of_ble_eq_true rfl⟩) (fun r1 H locs hw1 hP hS => ?_)
  have hw1 : r1 = bI (inR p0 0 7) := hw1
  subst hw1
  refine r_bif_ne (b := inR p0 0 7) (tgt := 9) hx hb dX6_guess_4 (by decide) (fun c4 => ?_) (fun c4 => ?_)
  · skip
    refine lv_iload_n hx hb dX6_guess_9 rfl (lv_at hl 2 rfl) ?_
    have hPc := hP.sub (ws' := []) [] rfl
    refine r_calli hP hS (va_runS (As := [.int p1]) (rest := []) ⟨hx, hb, hml, hown, hts⟩ (m_X6_isLives l D cI cJ p1) (va_cwS 1 hts gX6_guess_X6_isLives rfl rfl rfl (by decide +kernel) ⟨Nat.le_of_ble_eq_true rfl, Nat.le_of_ble_eq_true rfl⟩) ⟨PR.blind, fun U hU hW => ⟨rfl, hKB.warm hW, by rw [hU]; exact hPc⟩⟩ rfl rfl hl.1 rfl (lv_room (Nat.le_of_ble_eq_true rfl)) dX6_guess_10 ⟨Nat.le_of_ble_eq_true rfl, Nat.le_of_ble_eq_true rfl⟩) (fun r2 H locs hw10 hP hS => ?_)
    have hw10 : r2 = bI (inR p1 1 4) := hw10
    subst hw10
    refine r_bif_eq (b := inR p1 1 4) (tgt := 26) hx hb dX6_guess_13 (by decide) (fun c13 => ?_) (fun c13 => ?_)
    · skip
      refine lv_bipush (v := (-2)) hx hb dX6_guess_26 (by decide) ?_
      exact w_iret hx hb hr hlk hQ hAe (rw1, rm, lo, st0, lon, n0, th0, cm0) hP hD hS (by refine ⟨?_, hr6⟩; rw [c4, rfLv2]; rfl; first | (rw [c13, Bool.and_false]; done) | (rw [c23, Bool.false_and]; done)) dX6_guess_28
    refine lv_iload_n hx hb dX6_guess_16 rfl (lv_at hl 3 rfl) ?_
    refine lv_i2l (v := p2.toInt64) hx hb dX6_guess_17 rfl ?_
    refine lv_lconst (v := lN (0)) hx hb dX6_guess_18 (by decide) ?_
    refine lv_lconst (v := lN (1)) hx hb dX6_guess_19 (by decide) ?_
    have hPc := hP.sub (ws' := []) [] rfl
    refine r_calli hP hS (va_runS (As := [.long (p2.toInt64), .long (lN 0), .long (lN 1)]) (rest := []) ⟨hx, hb, hml, hown, hts⟩ (m_X6_in l D cI cJ (p2.toInt64) (lN (0)) (lN (1))) (va_cwS 3 hts gX6_guess_X6_in rfl rfl rfl (by decide +kernel) ⟨Nat.le_of_ble_eq_true rfl, Nat.le_of_ble_eq_true rfl⟩) ⟨PR.blind, fun U hU hW => ⟨rfl, hKB.warm hW, by rw [hU]; exact hPc⟩⟩ rfl rfl hl.1 rfl (lv_room (Nat.le_of_ble_eq_true rfl)) dX6_guess_20 ⟨Nat.le_of_ble_eq_true rfl, Nat.le_of_ble_eq_true rfl⟩) (fun r3 H locs hw20 hP hS => ?_)
    have hw20 : r3 = bI (inL (p2.toInt64) (lN (0)) (lN (1))) := hw20
    subst hw20
    refine lv_topi (fun z4 ez4 => ?_)
    obtain rfl : z4 = bI (inR p2 0 1) := ez4.trans (congrArg bI (inL_R (by decide) (by decide)))
    refine r_bif_ne (b := inR p2 0 1) (tgt := 29) hx hb dX6_guess_23 (by decide) (fun c23 => ?_) (fun c23 => ?_)
    · skip
      obtain ⟨V0, -, hV0, rfl⟩ := inR_t (by decide) (by decide) (c4)
      obtain ⟨V1, -, hV1, rfl⟩ := inR_t (by decide) (by decide) (c13)
      obtain ⟨V2, -, hV2, rfl⟩ := inR_t (by decide) (by decide) (c23)
      refine lv_aload_n hx hb dX6_guess_29 rfl (lv_at hl 0 rfl) ?_
      refine va_get (D := D) (ci := 6) (v := .int (nI h)) (C := RX6) (T := TX6) (N := 20) hx hb hts hiX6 hown hKB.1 hP 0 rfl rfl 2 (by decide) fl48 (fun _ h9 => h9) rfl dX6_guess_30 ?_
      refine lv_iload_n hx hb dX6_guess_33 rfl (lv_at hl 2 rfl) ?_
      refine r_imul (a := h) (b := V1) hx hb dX6_guess_34  ?_
      refine lv_bipush (v := nI (8)) hx hb dX6_guess_35 (by decide) ?_
      refine r_icmp_le (a := h * V1) (b := 8) (tgt := 43) hx hb dX6_guess_37 (by decide) (Nat.lt_of_le_of_lt (Nat.mul_le_mul hh.2 hV1) (by decide)) (by decide)  (fun c37 => ?_) (fun c37 => ?_)
      · skip
        have hBl : ∀ t, t < 8 → bwd (stp w slip kd num h) V0 V1 t < 2 ^ 63 := fun t ht => Nat.lt_of_le_of_lt (Nat.le_trans (bwd_le hh.2 hsl (by omega) ht) (wh_lt hw c37)) (by decide)
        have hBs : sm 8 (bwd (stp w slip kd num h) V0 V1) < 2 ^ 63 := Nat.lt_of_le_of_lt (sm8_lt (fun t ht => Nat.le_trans (bwd_le hh.2 hsl (by omega) ht) (wh_lt hw c37))) (by decide)
        refine lv_aload_n hx hb dX6_guess_43 rfl (lv_at hl 0 rfl) ?_
        refine lv_iload_n hx hb dX6_guess_44 rfl (lv_at hl 1 rfl) ?_
        refine lv_iload_n hx hb dX6_guess_45 rfl (lv_at hl 2 rfl) ?_
        have hPc := hP.sub (ws' := [(mq, .inr (6, [.ref mw, .int (nI slip), .int (nI h), .int (nI kd), .ref ms, .int (nI cnt), .ref ml, .int (nI nl), .ref mh, .int (nI hn), .ref mr, .int (nI rm), .ref mst, .long (lN lo), .ref mn, .ref mth, .long (lN lon), .ref mld, .ref mpk, .ref mcm])), (mw, .inl (cI, 3, .inl (nF w))), (ml, .inl (cI, 28, .inl (nF lg))), (mr, .inl (cI, 6, .inl (nF rw1))), (mst, .inl (cJ, 64, .inr (.inl (lF st0)))), (mn, .inl (cJ, 8, .inr (.inl (lF n0)))), (mth, .inl (cJ, 8, .inr (.inl (lF th0)))), (mcm, .inl (cJ, 8, .inr (.inl (lF cm0))))]) [0, 1, 2, 3, 4, 5, 6, 7] rfl
        have hDc := hD.sub (ws' := [(mq, .inr (6, [.ref mw, .int (nI slip), .int (nI h), .int (nI kd), .ref ms, .int (nI cnt), .ref ml, .int (nI nl), .ref mh, .int (nI hn), .ref mr, .int (nI rm), .ref mst, .long (lN lo), .ref mn, .ref mth, .long (lN lon), .ref mld, .ref mpk, .ref mcm])), (mw, .inl (cI, 3, .inl (nF w))), (ml, .inl (cI, 28, .inl (nF lg))), (mr, .inl (cI, 6, .inl (nF rw1))), (mst, .inl (cJ, 64, .inr (.inl (lF st0)))), (mn, .inl (cJ, 8, .inr (.inl (lF n0)))), (mth, .inl (cJ, 8, .inr (.inl (lF th0)))), (mcm, .inl (cJ, 8, .inr (.inl (lF cm0))))]) [0, 1, 2, 3, 4, 5, 6, 7] (by decide) rfl
        have hFc := va_free (wc := [(mq, .inr (6, [.ref mw, .int (nI slip), .int (nI h), .int (nI kd), .ref ms, .int (nI cnt), .ref ml, .int (nI nl), .ref mh, .int (nI hn), .ref mr, .int (nI rm), .ref mst, .long (lN lo), .ref mn, .ref mth, .long (lN lon), .ref mld, .ref mpk, .ref mcm])), (mw, .inl (cI, 3, .inl (nF w))), (ml, .inl (cI, 28, .inl (nF lg))), (mr, .inl (cI, 6, .inl (nF rw1))), (mst, .inl (cJ, 64, .inr (.inl (lF st0)))), (mn, .inl (cJ, 8, .inr (.inl (lF n0)))), (mth, .inl (cJ, 8, .inr (.inl (lF th0)))), (mcm, .inl (cJ, 8, .inr (.inl (lF cm0))))]) hD hS hA [0, 1, 2, 3, 4, 5, 6, 7] rfl
        refine w_calll (wc := [(mq, .inr (6, [.ref mw, .int (nI slip), .int (nI h), .int (nI kd), .ref ms, .int (nI cnt), .ref ml, .int (nI nl), .ref mh, .int (nI hn), .ref mr, .int (nI rm), .ref mst, .long (lN lo), .ref mn, .ref mth, .long (lN lon), .ref mld, .ref mpk, .ref mcm])), (mw, .inl (cI, 3, .inl (nF w))), (ml, .inl (cI, 28, .inl (nF lg))), (mr, .inl (cI, 6, .inl (nF rw1))), (mst, .inl (cJ, 64, .inr (.inl (lF st0)))), (mn, .inl (cJ, 8, .inr (.inl (lF n0)))), (mth, .inl (cJ, 8, .inr (.inl (lF th0)))), (mcm, .inl (cJ, 8, .inr (.inl (lF cm0))))]) (wr := []) hP hD hS [0, 1, 2, 3, 4, 5, 6, 7] [] rfl rfl (by decide) (by decide) hFc (va_runV (As := [.int (nI V0), .int (nI V1)]) (rest := []) ⟨hx, hb, hml, hown, hts⟩ (m_X6_findCame l D cI cJ _ mq mw slip h kd ms cnt ml nl mh hn mr rm mst lo mn mth lon mld mpk mcm w lg num rw1 st0 n0 th0 cm0 V0 V1 (by omega) (by omega) (by assumption) (by assumption) (by assumption) (by assumption) (by assumption) (by assumption) (by assumption) (by assumption) (by assumption)) (cwV 2 hts gX6_guess_X6_findCame rfl rfl rfl (by decide +kernel) ⟨Nat.le_of_ble_eq_true rfl, Nat.le_of_ble_eq_true rfl⟩) ⟨PX.blind, va_recv hKB.1 hP (ci := 6) (q0 := 0) rfl rfl, fun U hU hW => ⟨rfl, by rw [hU], hKB.warm hW, by rw [hU]; exact hPc, hDc.weaken (fun _ _ _ _ => trivial)⟩⟩ rfl rfl hl.1 rfl (lv_room (Nat.le_of_ble_eq_true rfl)) dX6_guess_46 ⟨Nat.le_of_ble_eq_true rfl, Nat.le_of_ble_eq_true rfl⟩) (fun r5 u46 H locs hw46 hP hD hS => ?_)
        obtain ⟨rw9_46, lon9_46, nw9_46, th9_46⟩ := u46
        have hP : va_P D vwCl [(mq, .inr (6, [.ref mw, .int (nI slip), .int (nI h), .int (nI kd), .ref ms, .int (nI cnt), .ref ml, .int (nI nl), .ref mh, .int (nI hn), .ref mr, .int (nI h), .ref mst, .long (lN (lowN w h)), .ref mn, .ref mth, .long (lN lon9_46), .ref mld, .ref mpk, .ref mcm])), (mw, .inl (cI, 3, .inl (nF w))), (ml, .inl (cI, 28, .inl (nF lg))), (mr, .inl (cI, 6, .inl (nF rw9_46))), (mst, .inl (cJ, 64, .inr (.inl (lF (stp w slip kd num h))))), (mn, .inl (cJ, 8, .inr (.inl (lF nw9_46)))), (mth, .inl (cJ, 8, .inr (.inl (lF th9_46)))), (mcm, .inl (cJ, 8, .inr (.inl (lF (bwd (stp w slip kd num h) V0 V1)))))] _ := hP
        have hD : va_D A [(mq, .inr (6, [.ref mw, .int (nI slip), .int (nI h), .int (nI kd), .ref ms, .int (nI cnt), .ref ml, .int (nI nl), .ref mh, .int (nI hn), .ref mr, .int (nI h), .ref mst, .long (lN (lowN w h)), .ref mn, .ref mth, .long (lN lon9_46), .ref mld, .ref mpk, .ref mcm])), (mw, .inl (cI, 3, .inl (nF w))), (ml, .inl (cI, 28, .inl (nF lg))), (mr, .inl (cI, 6, .inl (nF rw9_46))), (mst, .inl (cJ, 64, .inr (.inl (lF (stp w slip kd num h))))), (mn, .inl (cJ, 8, .inr (.inl (lF nw9_46)))), (mth, .inl (cJ, 8, .inr (.inl (lF th9_46)))), (mcm, .inl (cJ, 8, .inr (.inl (lF (bwd (stp w slip kd num h) V0 V1)))))] := hD
        have hw46 : r5 = lN (sm 8 (bwd (stp w slip kd num h) V0 V1)) ∧ (∀ j, j < 6 → rw9_46 j < 6) := hw46
        obtain ⟨hw46, hE46⟩ := hw46
        subst hw46
        have hP : va_P D vwCl [(mq, .inr (6, [.ref mw, .int (nI slip), .int (nI h), .int (nI kd), .ref ms, .int (nI cnt), .ref ml, .int (nI nl), .ref mh, .int (nI hn), .ref mr, .int (nI h), .ref mst, .long (lN (lowN w h)), .ref mn, .ref mth, .long (lN lon9_46), .ref mld, .ref mpk, .ref mcm])), (mw, .inl (cI, 3, .inl (nF w))), (ml, .inl (cI, 28, .inl (nF lg))), (mr, .inl (cI, 6, .inl (nF rw9_46))), (mst, .inl (cJ, 64, .inr (.inl (lF (stp w slip kd num h))))), (mn, .inl (cJ, 8, .inr (.inl (lF nw9_46)))), (mth, .inl (cJ, 8, .inr (.inl (lF th9_46)))), (mcm, .inl (cJ, 8, .inr (.inl (lF (bwd (stp w slip kd num h) V0 V1)))))] _ := hP
        have hD : va_D A [(mq, .inr (6, [.ref mw, .int (nI slip), .int (nI h), .int (nI kd), .ref ms, .int (nI cnt), .ref ml, .int (nI nl), .ref mh, .int (nI hn), .ref mr, .int (nI h), .ref mst, .long (lN (lowN w h)), .ref mn, .ref mth, .long (lN lon9_46), .ref mld, .ref mpk, .ref mcm])), (mw, .inl (cI, 3, .inl (nF w))), (ml, .inl (cI, 28, .inl (nF lg))), (mr, .inl (cI, 6, .inl (nF rw9_46))), (mst, .inl (cJ, 64, .inr (.inl (lF (stp w slip kd num h))))), (mn, .inl (cJ, 8, .inr (.inl (lF nw9_46)))), (mth, .inl (cJ, 8, .inr (.inl (lF th9_46)))), (mcm, .inl (cJ, 8, .inr (.inl (lF (bwd (stp w slip kd num h) V0 V1)))))] := hD
        have hr9 := hE46
        refine lv_lstore (lv' := [(4, .long (lN (sm 8 (bwd (stp w slip kd num h) V0 V1)))), (0, .ref mq), (1, .int (nI V0)), (2, .int (nI V1)), (3, .int (nI V2))]) hx hb dX6_guess_49 hl (by decide) rfl (fun ls hl => ?_)
        refine lv_iconst (v := nI (0)) hx hb dX6_guess_51 (by decide) ?_
        refine lv_istore (lv' := [(6, .int (nI 0)), (4, .long (lN (sm 8 (bwd (stp w slip kd num h) V0 V1)))), (0, .ref mq), (1, .int (nI V0)), (2, .int (nI V1)), (3, .int (nI V2))]) hx hb dX6_guess_52 hl (by decide) rfl (fun ls hl => ?_)
        refine lv_iconst (v := nI (1)) hx hb dX6_guess_54 (by decide) ?_
        refine lv_istore (lv' := [(7, .int (nI 1)), (6, .int (nI 0)), (4, .long (lN (sm 8 (bwd (stp w slip kd num h) V0 V1)))), (0, .ref mq), (1, .int (nI V0)), (2, .int (nI V1)), (3, .int (nI V2))]) hx hb dX6_guess_55 hl (by decide) rfl (fun ls hl => ?_)
        refine lv_iconst (v := nI (1)) hx hb dX6_guess_57 (by decide) ?_
        refine lv_istore (lv' := [(8, .int (nI 1)), (7, .int (nI 1)), (6, .int (nI 0)), (4, .long (lN (sm 8 (bwd (stp w slip kd num h) V0 V1)))), (0, .ref mq), (1, .int (nI V0)), (2, .int (nI V1)), (3, .int (nI V2))]) hx hb dX6_guess_58 hl (by decide) rfl (fun ls hl => ?_)
        have hl := lv_ch hl 2 (v2 := .int (nI (gB (bwd (stp w slip kd num h) V0 V1) 1))) (l2 := [(8, .int (nI 1)), (7, .int (nI 1)), (6, .int (nI (gB (bwd (stp w slip kd num h) V0 V1) 1))), (4, .long (lN (sm 8 (bwd (stp w slip kd num h) V0 V1)))), (0, .ref mq), (1, .int (nI V0)), (2, .int (nI V1)), (3, .int (nI V2))]) rfl (congrArg Value.int (congrArg nI (gB_1 _).symm)) rfl
        have hl := lv_ch hl 1 (v2 := .int (nI (dfN (bwd (stp w slip kd num h) V0 V1) 1))) (l2 := [(8, .int (nI 1)), (7, .int (nI (dfN (bwd (stp w slip kd num h) V0 V1) 1))), (6, .int (nI (gB (bwd (stp w slip kd num h) V0 V1) 1))), (4, .long (lN (sm 8 (bwd (stp w slip kd num h) V0 V1)))), (0, .ref mq), (1, .int (nI V0)), (2, .int (nI V1)), (3, .int (nI V2))]) rfl (congrArg Value.int (congrArg nI (dfN_1 _).symm)) rfl
        have L60 : ∀ (n : Nat) (k : Nat) (H : Heap) (locs : List Loc) (ls : Array Slot), 8 - k < n → (1 ≤ k ∧ k ≤ 8) → va_P D vwCl [(mq, .inr (6, [.ref mw, .int (nI slip), .int (nI h), .int (nI kd), .ref ms, .int (nI cnt), .ref ml, .int (nI nl), .ref mh, .int (nI hn), .ref mr, .int (nI h), .ref mst, .long (lN (lowN w h)), .ref mn, .ref mth, .long (lN lon9_46), .ref mld, .ref mpk, .ref mcm])), (mw, .inl (cI, 3, .inl (nF w))), (ml, .inl (cI, 28, .inl (nF lg))), (mr, .inl (cI, 6, .inl (nF rw9_46))), (mst, .inl (cJ, 64, .inr (.inl (lF (stp w slip kd num h))))), (mn, .inl (cJ, 8, .inr (.inl (lF nw9_46)))), (mth, .inl (cJ, 8, .inr (.inl (lF th9_46)))), (mcm, .inl (cJ, 8, .inr (.inl (lF (bwd (stp w slip kd num h) V0 V1)))))] H → va_D A [(mq, .inr (6, [.ref mw, .int (nI slip), .int (nI h), .int (nI kd), .ref ms, .int (nI cnt), .ref ml, .int (nI nl), .ref mh, .int (nI hn), .ref mr, .int (nI h), .ref mst, .long (lN (lowN w h)), .ref mn, .ref mth, .long (lN lon9_46), .ref mld, .ref mpk, .ref mcm])), (mw, .inl (cI, 3, .inl (nF w))), (ml, .inl (cI, 28, .inl (nF lg))), (mr, .inl (cI, 6, .inl (nF rw9_46))), (mst, .inl (cJ, 64, .inr (.inl (lF (stp w slip kd num h))))), (mn, .inl (cJ, 8, .inr (.inl (lF nw9_46)))), (mth, .inl (cJ, 8, .inr (.inl (lF th9_46)))), (mcm, .inl (cJ, 8, .inr (.inl (lF (bwd (stp w slip kd num h) V0 V1)))))] → va_S A s.heap H locs → lv_has ls 9 [(8, .int (nI k)), (7, .int (nI (dfN (bwd (stp w slip kd num h) V0 V1) k))), (6, .int (nI (gB (bwd (stp w slip kd num h) V0 V1) k))), (4, .long (lN (sm 8 (bwd (stp w slip kd num h) V0 V1)))), (0, .ref mq), (1, .int (nI V0)), (2, .int (nI V1)), (3, .int (nI V2))] → W p l e ({ frames := 5, cells := 0, slots := 0, locals := 130 }) s m args below meth c H locs 0 0 Q (F0 m 60 ls []) := by
          intro n
          induction n with
          | zero => intro k H locs ls hm; exact absurd hm (Nat.not_lt_zero _)
          | succ n ih60 =>
            intro k H locs ls hm hk hP hD hS hl
            refine lv_iload hx hb dX6_guess_60 (lv_at hl 0 rfl) ?_
            refine lv_bipush (v := nI (8)) hx hb dX6_guess_62 (by decide) ?_
            refine r_icmp_ge (a := k) (b := 8) (tgt := 129) hx hb dX6_guess_64 (by decide) (by omega) (by omega)  (fun c64 => ?_) (fun c64 => ?_)
            · skip
              obtain rfl : 8 = k := by omega
              have hg8 := gB_lt (g := bwd (stp w slip kd num h) V0 V1) 8 (by decide)
              have hd1 := dfN_le (g := bwd (stp w slip kd num h) V0 V1) 8
              refine lv_iload_n hx hb dX6_guess_129 rfl (lv_at hl 7 rfl) ?_
              refine lv_iconst (v := nI (1)) hx hb dX6_guess_130 (by decide) ?_
              refine r_icmp_ne (a := V2) (b := 1) (tgt := 147) hx hb dX6_guess_131 (by decide) (by omega) (by omega)  (fun c131 => ?_) (fun c131 => ?_)
              · skip
                refine lv_lload hx hb dX6_guess_147 (lv_at hl 3 rfl) ?_
                refine lv_lconst (v := lN (0)) hx hb dX6_guess_149 (by decide) ?_
                refine r_lcmp_ne (x := lN (sm 8 (bwd (stp w slip kd num h) V0 V1))) (y := lN (0)) (tgt := 159) hx hb dX6_guess_150 dX6_guess_151 (by decide) (fun c150 => ?_) (fun c150 => ?_)
                · skip
                  refine lv_iload hx hb dX6_guess_159 (lv_at hl 2 rfl) ?_
                  exact w_iret hx hb hr hlk hQ hAe (rw9_46, h, lowN w h, stp w slip kd num h, lon9_46, nw9_46, th9_46, bwd (stp w slip kd num h) V0 V1) hP hD hS (by refine ⟨?_, hr9⟩; rw [c4, rfLv0 (by rw [c13, c23]; rfl) (by rw [tN_n (show V1 < 2 ^ 31 by omega)]; omega), aGu, if_pos rfl, tN_n (show V0 < 2 ^ 31 by omega), tN_n (show V1 < 2 ^ 31 by omega), if_neg (fun q => c131 ((nI_eq (by omega) (by decide)).mp q)), if_neg (fun q => c150 (by rw [sm0_iff.mpr q]))]) dX6_guess_161
                refine lv_bipush (v := (-6)) hx hb dX6_guess_154 (by decide) ?_
                refine lv_goto (tgt := 161) hx hb dX6_guess_156 (by decide) ?_
                exact w_iret hx hb hr hlk hQ hAe (rw9_46, h, lowN w h, stp w slip kd num h, lon9_46, nw9_46, th9_46, bwd (stp w slip kd num h) V0 V1) hP hD hS (by refine ⟨?_, hr9⟩; rw [c4, rfLv0 (by rw [c13, c23]; rfl) (by rw [tN_n (show V1 < 2 ^ 31 by omega)]; omega), aGu, if_pos rfl, tN_n (show V0 < 2 ^ 31 by omega), tN_n (show V1 < 2 ^ 31 by omega), if_neg (fun q => c131 ((nI_eq (by omega) (by decide)).mp q)), if_pos (sm0_iff.mp (lN_eq0 hBs c150))]) dX6_guess_161
              refine lv_iload hx hb dX6_guess_134 (lv_at hl 1 rfl) ?_
              refine r_if_eq (a := dfN (bwd (stp w slip kd num h) V0 V1) 8) (tgt := 143) hx hb dX6_guess_136 (by decide) (by omega) (fun c136 => ?_) (fun c136 => ?_)
              · skip
                refine lv_iconst (v := nI (0)) hx hb dX6_guess_143 (by decide) ?_
                refine lv_goto (tgt := 161) hx hb dX6_guess_144 (by decide) ?_
                exact w_iret hx hb hr hlk hQ hAe (rw9_46, h, lowN w h, stp w slip kd num h, lon9_46, nw9_46, th9_46, bwd (stp w slip kd num h) V0 V1) hP hD hS (by refine ⟨?_, hr9⟩; rw [c4, rfLv0 (by rw [c13, c23]; rfl) (by rw [tN_n (show V1 < 2 ^ 31 by omega)]; omega), aGu, if_pos rfl, tN_n (show V0 < 2 ^ 31 by omega), tN_n (show V1 < 2 ^ 31 by omega), if_pos (by rw [c131]), show dfN (bwd (stp w slip kd num h) V0 V1) 8 = 0 by omega]) dX6_guess_161
              refine lv_iconst (v := nI (1)) hx hb dX6_guess_139 (by decide) ?_
              refine lv_goto (tgt := 161) hx hb dX6_guess_140 (by decide) ?_
              exact w_iret hx hb hr hlk hQ hAe (rw9_46, h, lowN w h, stp w slip kd num h, lon9_46, nw9_46, th9_46, bwd (stp w slip kd num h) V0 V1) hP hD hS (by refine ⟨?_, hr9⟩; rw [c4, rfLv0 (by rw [c13, c23]; rfl) (by rw [tN_n (show V1 < 2 ^ 31 by omega)]; omega), aGu, if_pos rfl, tN_n (show V0 < 2 ^ 31 by omega), tN_n (show V1 < 2 ^ 31 by omega), if_pos (by rw [c131]), show dfN (bwd (stp w slip kd num h) V0 V1) 8 = 1 by omega]) dX6_guess_161
            have hg8 := gB_lt (g := bwd (stp w slip kd num h) V0 V1) k (by omega)
            have hd1 := dfN_le (g := bwd (stp w slip kd num h) V0 V1) k
            refine lv_aload_n hx hb dX6_guess_67 rfl (lv_at hl 4 rfl) ?_
            refine va_get (D := D) (ci := 6) (v := .ref mcm) (C := RX6) (T := TX6) (N := 20) hx hb hts hiX6 hown hKB.1 hP 0 rfl rfl 19 (by decide) fl41 (fun _ h9 => h9) rfl dX6_guess_68 ?_
            refine lv_iload hx hb dX6_guess_71 (lv_at hl 0 rfl) ?_
            refine r_lald (i := k) (v := lN ((bwd (stp w slip kd num h) V0 V1) k)) hx hb hKB.1 hP 7 1 rfl rfl (by omega) (by decide) (rfl) dX6_guess_73 ?_
            refine lv_aload_n hx hb dX6_guess_74 rfl (lv_at hl 4 rfl) ?_
            refine va_get (D := D) (ci := 6) (v := .ref mcm) (C := RX6) (T := TX6) (N := 20) hx hb hts hiX6 hown hKB.1 hP 0 rfl rfl 19 (by decide) fl41 (fun _ h9 => h9) rfl dX6_guess_75 ?_
            refine lv_iload hx hb dX6_guess_78 (lv_at hl 2 rfl) ?_
            refine r_lald (i := gB (bwd (stp w slip kd num h) V0 V1) k) (v := lN ((bwd (stp w slip kd num h) V0 V1) (gB (bwd (stp w slip kd num h) V0 V1) k))) hx hb hKB.1 hP 7 1 rfl rfl (by omega) (by decide) (rfl) dX6_guess_80 ?_
            refine r_lcmp_le (x := lN ((bwd (stp w slip kd num h) V0 V1) k)) (y := lN ((bwd (stp w slip kd num h) V0 V1) (gB (bwd (stp w slip kd num h) V0 V1) k))) (tgt := 90) hx hb dX6_guess_81 dX6_guess_82 (by decide) (fun c81 => ?_) (fun c81 => ?_)
            · skip
              refine lv_iload hx hb dX6_guess_90 (lv_at hl 2 rfl) ?_
              refine lv_istore (lv' := [(6, .int (nI (gB (bwd (stp w slip kd num h) V0 V1) k))), (8, .int (nI k)), (7, .int (nI (dfN (bwd (stp w slip kd num h) V0 V1) k))), (4, .long (lN (sm 8 (bwd (stp w slip kd num h) V0 V1)))), (0, .ref mq), (1, .int (nI V0)), (2, .int (nI V1)), (3, .int (nI V2))]) hx hb dX6_guess_92 hl (by decide) rfl (fun ls hl => ?_)
              have hl := lv_ch hl 0 (v2 := .int (nI (gB (bwd (stp w slip kd num h) V0 V1) (k + 1)))) (l2 := [(6, .int (nI (gB (bwd (stp w slip kd num h) V0 V1) (k + 1)))), (8, .int (nI k)), (7, .int (nI (dfN (bwd (stp w slip kd num h) V0 V1) k))), (4, .long (lN (sm 8 (bwd (stp w slip kd num h) V0 V1)))), (0, .ref mq), (1, .int (nI V0)), (2, .int (nI V1)), (3, .int (nI V2))]) rfl (congrArg Value.int (congrArg nI (by rw [gB]; first | rw [if_neg (fun q => absurd ((pk_lLT (hBl _ (by omega)) (hBl _ c64)).mpr q) (Int64.not_lt.mpr c81))] | rw [if_pos ((pk_lLT (hBl _ (by omega)) (hBl _ c64)).mp (Int64.not_le.mp c81))]))) rfl
              refine lv_iload hx hb dX6_guess_94 (lv_at hl 2 rfl) ?_
              refine r_if_eq (a := dfN (bwd (stp w slip kd num h) V0 V1) k) (tgt := 120) hx hb dX6_guess_96 (by decide) (by omega) (fun c96 => ?_) (fun c96 => ?_)
              · skip
                refine lv_iconst (v := nI (0)) hx hb dX6_guess_120 (by decide) ?_
                refine lv_istore (lv' := [(7, .int (nI 0)), (6, .int (nI (gB (bwd (stp w slip kd num h) V0 V1) (k + 1)))), (8, .int (nI k)), (4, .long (lN (sm 8 (bwd (stp w slip kd num h) V0 V1)))), (0, .ref mq), (1, .int (nI V0)), (2, .int (nI V1)), (3, .int (nI V2))]) hx hb dX6_guess_121 hl (by decide) rfl (fun ls hl => ?_)
                have hl := lv_ch hl 0 (v2 := .int (nI (dfN (bwd (stp w slip kd num h) V0 V1) (k + 1)))) (l2 := [(7, .int (nI (dfN (bwd (stp w slip kd num h) V0 V1) (k + 1)))), (6, .int (nI (gB (bwd (stp w slip kd num h) V0 V1) (k + 1)))), (8, .int (nI k)), (4, .long (lN (sm 8 (bwd (stp w slip kd num h) V0 V1)))), (0, .ref mq), (1, .int (nI V0)), (2, .int (nI V1)), (3, .int (nI V2))]) rfl (congrArg Value.int (congrArg nI (by rw [dfN]; first | rw [if_pos c96] | rw [if_neg c96, if_neg (fun q => c112 (by rw [q]))] | rw [if_neg c96, if_pos ((pk_lEQ (hBl _ c64) (hBl _ (by decide))).mp c112)]))) rfl
                refine lv_iinc (v := nI (k + 1)) (lv' := [(8, .int (nI (k + 1))), (7, .int (nI (dfN (bwd (stp w slip kd num h) V0 V1) (k + 1)))), (6, .int (nI (gB (bwd (stp w slip kd num h) V0 V1) (k + 1)))), (4, .long (lN (sm 8 (bwd (stp w slip kd num h) V0 V1)))), (0, .ref mq), (1, .int (nI V0)), (2, .int (nI V1)), (3, .int (nI V2))]) hx hb dX6_guess_123 hl (k := 2) rfl (n_inc _ 1) (by decide) rfl (fun ls hl => ?_)
                refine lv_goto (tgt := 60) hx hb dX6_guess_126 (by decide) ?_
                exact ih60 (k + 1) _ _ _ (by omega) (by omega) hP hD hS hl
              refine lv_aload_n hx hb dX6_guess_99 rfl (lv_at hl 4 rfl) ?_
              refine va_get (D := D) (ci := 6) (v := .ref mcm) (C := RX6) (T := TX6) (N := 20) hx hb hts hiX6 hown hKB.1 hP 0 rfl rfl 19 (by decide) fl41 (fun _ h9 => h9) rfl dX6_guess_100 ?_
              refine lv_iload hx hb dX6_guess_103 (lv_at hl 1 rfl) ?_
              refine r_lald (i := k) (v := lN ((bwd (stp w slip kd num h) V0 V1) k)) hx hb hKB.1 hP 7 1 rfl rfl (by omega) (by decide) (rfl) dX6_guess_105 ?_
              refine lv_aload_n hx hb dX6_guess_106 rfl (lv_at hl 4 rfl) ?_
              refine va_get (D := D) (ci := 6) (v := .ref mcm) (C := RX6) (T := TX6) (N := 20) hx hb hts hiX6 hown hKB.1 hP 0 rfl rfl 19 (by decide) fl41 (fun _ h9 => h9) rfl dX6_guess_107 ?_
              refine lv_iconst (v := nI (0)) hx hb dX6_guess_110 (by decide) ?_
              refine r_lald (i := 0) (v := lN ((bwd (stp w slip kd num h) V0 V1) 0)) hx hb hKB.1 hP 7 1 rfl rfl (by omega) (by decide) (rfl) dX6_guess_111 ?_
              refine r_lcmp_ne (x := lN ((bwd (stp w slip kd num h) V0 V1) k)) (y := lN ((bwd (stp w slip kd num h) V0 V1) 0)) (tgt := 120) hx hb dX6_guess_112 dX6_guess_113 (by decide) (fun c112 => ?_) (fun c112 => ?_)
              · skip
                refine lv_iconst (v := nI (0)) hx hb dX6_guess_120 (by decide) ?_
                refine lv_istore (lv' := [(7, .int (nI 0)), (6, .int (nI (gB (bwd (stp w slip kd num h) V0 V1) (k + 1)))), (8, .int (nI k)), (4, .long (lN (sm 8 (bwd (stp w slip kd num h) V0 V1)))), (0, .ref mq), (1, .int (nI V0)), (2, .int (nI V1)), (3, .int (nI V2))]) hx hb dX6_guess_121 hl (by decide) rfl (fun ls hl => ?_)
                have hl := lv_ch hl 0 (v2 := .int (nI (dfN (bwd (stp w slip kd num h) V0 V1) (k + 1)))) (l2 := [(7, .int (nI (dfN (bwd (stp w slip kd num h) V0 V1) (k + 1)))), (6, .int (nI (gB (bwd (stp w slip kd num h) V0 V1) (k + 1)))), (8, .int (nI k)), (4, .long (lN (sm 8 (bwd (stp w slip kd num h) V0 V1)))), (0, .ref mq), (1, .int (nI V0)), (2, .int (nI V1)), (3, .int (nI V2))]) rfl (congrArg Value.int (congrArg nI (by rw [dfN]; first | rw [if_pos c96] | rw [if_neg c96, if_neg (fun q => c112 (by rw [q]))] | rw [if_neg c96, if_pos ((pk_lEQ (hBl _ c64) (hBl _ (by decide))).mp c112)]))) rfl
                refine lv_iinc (v := nI (k + 1)) (lv' := [(8, .int (nI (k + 1))), (7, .int (nI (dfN (bwd (stp w slip kd num h) V0 V1) (k + 1)))), (6, .int (nI (gB (bwd (stp w slip kd num h) V0 V1) (k + 1)))), (4, .long (lN (sm 8 (bwd (stp w slip kd num h) V0 V1)))), (0, .ref mq), (1, .int (nI V0)), (2, .int (nI V1)), (3, .int (nI V2))]) hx hb dX6_guess_123 hl (k := 2) rfl (n_inc _ 1) (by decide) rfl (fun ls hl => ?_)
                refine lv_goto (tgt := 60) hx hb dX6_guess_126 (by decide) ?_
                exact ih60 (k + 1) _ _ _ (by omega) (by omega) hP hD hS hl
              refine lv_iconst (v := nI (1)) hx hb dX6_guess_116 (by decide) ?_
              refine lv_goto (tgt := 121) hx hb dX6_guess_117 (by decide) ?_
              refine lv_istore (lv' := [(7, .int (nI 1)), (6, .int (nI (gB (bwd (stp w slip kd num h) V0 V1) (k + 1)))), (8, .int (nI k)), (4, .long (lN (sm 8 (bwd (stp w slip kd num h) V0 V1)))), (0, .ref mq), (1, .int (nI V0)), (2, .int (nI V1)), (3, .int (nI V2))]) hx hb dX6_guess_121 hl (by decide) rfl (fun ls hl => ?_)
              have hl := lv_ch hl 0 (v2 := .int (nI (dfN (bwd (stp w slip kd num h) V0 V1) (k + 1)))) (l2 := [(7, .int (nI (dfN (bwd (stp w slip kd num h) V0 V1) (k + 1)))), (6, .int (nI (gB (bwd (stp w slip kd num h) V0 V1) (k + 1)))), (8, .int (nI k)), (4, .long (lN (sm 8 (bwd (stp w slip kd num h) V0 V1)))), (0, .ref mq), (1, .int (nI V0)), (2, .int (nI V1)), (3, .int (nI V2))]) rfl (congrArg Value.int (congrArg nI (by rw [dfN]; first | rw [if_pos c96] | rw [if_neg c96, if_neg (fun q => c112 (by rw [q]))] | rw [if_neg c96, if_pos ((pk_lEQ (hBl _ c64) (hBl _ (by decide))).mp c112)]))) rfl
              refine lv_iinc (v := nI (k + 1)) (lv' := [(8, .int (nI (k + 1))), (7, .int (nI (dfN (bwd (stp w slip kd num h) V0 V1) (k + 1)))), (6, .int (nI (gB (bwd (stp w slip kd num h) V0 V1) (k + 1)))), (4, .long (lN (sm 8 (bwd (stp w slip kd num h) V0 V1)))), (0, .ref mq), (1, .int (nI V0)), (2, .int (nI V1)), (3, .int (nI V2))]) hx hb dX6_guess_123 hl (k := 2) rfl (n_inc _ 1) (by decide) rfl (fun ls hl => ?_)
              refine lv_goto (tgt := 60) hx hb dX6_guess_126 (by decide) ?_
              exact ih60 (k + 1) _ _ _ (by omega) (by omega) hP hD hS hl
            refine lv_iload hx hb dX6_guess_85 (lv_at hl 0 rfl) ?_
            refine lv_goto (tgt := 92) hx hb dX6_guess_87 (by decide) ?_
            refine lv_istore (lv' := [(6, .int (nI k)), (8, .int (nI k)), (7, .int (nI (dfN (bwd (stp w slip kd num h) V0 V1) k))), (4, .long (lN (sm 8 (bwd (stp w slip kd num h) V0 V1)))), (0, .ref mq), (1, .int (nI V0)), (2, .int (nI V1)), (3, .int (nI V2))]) hx hb dX6_guess_92 hl (by decide) rfl (fun ls hl => ?_)
            have hl := lv_ch hl 0 (v2 := .int (nI (gB (bwd (stp w slip kd num h) V0 V1) (k + 1)))) (l2 := [(6, .int (nI (gB (bwd (stp w slip kd num h) V0 V1) (k + 1)))), (8, .int (nI k)), (7, .int (nI (dfN (bwd (stp w slip kd num h) V0 V1) k))), (4, .long (lN (sm 8 (bwd (stp w slip kd num h) V0 V1)))), (0, .ref mq), (1, .int (nI V0)), (2, .int (nI V1)), (3, .int (nI V2))]) rfl (congrArg Value.int (congrArg nI (by rw [gB]; first | rw [if_neg (fun q => absurd ((pk_lLT (hBl _ (by omega)) (hBl _ c64)).mpr q) (Int64.not_lt.mpr c81))] | rw [if_pos ((pk_lLT (hBl _ (by omega)) (hBl _ c64)).mp (Int64.not_le.mp c81))]))) rfl
            refine lv_iload hx hb dX6_guess_94 (lv_at hl 2 rfl) ?_
            refine r_if_eq (a := dfN (bwd (stp w slip kd num h) V0 V1) k) (tgt := 120) hx hb dX6_guess_96 (by decide) (by omega) (fun c96 => ?_) (fun c96 => ?_)
            · skip
              refine lv_iconst (v := nI (0)) hx hb dX6_guess_120 (by decide) ?_
              refine lv_istore (lv' := [(7, .int (nI 0)), (6, .int (nI (gB (bwd (stp w slip kd num h) V0 V1) (k + 1)))), (8, .int (nI k)), (4, .long (lN (sm 8 (bwd (stp w slip kd num h) V0 V1)))), (0, .ref mq), (1, .int (nI V0)), (2, .int (nI V1)), (3, .int (nI V2))]) hx hb dX6_guess_121 hl (by decide) rfl (fun ls hl => ?_)
              have hl := lv_ch hl 0 (v2 := .int (nI (dfN (bwd (stp w slip kd num h) V0 V1) (k + 1)))) (l2 := [(7, .int (nI (dfN (bwd (stp w slip kd num h) V0 V1) (k + 1)))), (6, .int (nI (gB (bwd (stp w slip kd num h) V0 V1) (k + 1)))), (8, .int (nI k)), (4, .long (lN (sm 8 (bwd (stp w slip kd num h) V0 V1)))), (0, .ref mq), (1, .int (nI V0)), (2, .int (nI V1)), (3, .int (nI V2))]) rfl (congrArg Value.int (congrArg nI (by rw [dfN]; first | rw [if_pos c96] | rw [if_neg c96, if_neg (fun q => c112 (by rw [q]))] | rw [if_neg c96, if_pos ((pk_lEQ (hBl _ c64) (hBl _ (by decide))).mp c112)]))) rfl
              refine lv_iinc (v := nI (k + 1)) (lv' := [(8, .int (nI (k + 1))), (7, .int (nI (dfN (bwd (stp w slip kd num h) V0 V1) (k + 1)))), (6, .int (nI (gB (bwd (stp w slip kd num h) V0 V1) (k + 1)))), (4, .long (lN (sm 8 (bwd (stp w slip kd num h) V0 V1)))), (0, .ref mq), (1, .int (nI V0)), (2, .int (nI V1)), (3, .int (nI V2))]) hx hb dX6_guess_123 hl (k := 2) rfl (n_inc _ 1) (by decide) rfl (fun ls hl => ?_)
              refine lv_goto (tgt := 60) hx hb dX6_guess_126 (by decide) ?_
              exact ih60 (k + 1) _ _ _ (by omega) (by omega) hP hD hS hl
            refine lv_aload_n hx hb dX6_guess_99 rfl (lv_at hl 4 rfl) ?_
            refine va_get (D := D) (ci := 6) (v := .ref mcm) (C := RX6) (T := TX6) (N := 20) hx hb hts hiX6 hown hKB.1 hP 0 rfl rfl 19 (by decide) fl41 (fun _ h9 => h9) rfl dX6_guess_100 ?_
            refine lv_iload hx hb dX6_guess_103 (lv_at hl 1 rfl) ?_
            refine r_lald (i := k) (v := lN ((bwd (stp w slip kd num h) V0 V1) k)) hx hb hKB.1 hP 7 1 rfl rfl (by omega) (by decide) (rfl) dX6_guess_105 ?_
            refine lv_aload_n hx hb dX6_guess_106 rfl (lv_at hl 4 rfl) ?_
            refine va_get (D := D) (ci := 6) (v := .ref mcm) (C := RX6) (T := TX6) (N := 20) hx hb hts hiX6 hown hKB.1 hP 0 rfl rfl 19 (by decide) fl41 (fun _ h9 => h9) rfl dX6_guess_107 ?_
            refine lv_iconst (v := nI (0)) hx hb dX6_guess_110 (by decide) ?_
            refine r_lald (i := 0) (v := lN ((bwd (stp w slip kd num h) V0 V1) 0)) hx hb hKB.1 hP 7 1 rfl rfl (by omega) (by decide) (rfl) dX6_guess_111 ?_
            refine r_lcmp_ne (x := lN ((bwd (stp w slip kd num h) V0 V1) k)) (y := lN ((bwd (stp w slip kd num h) V0 V1) 0)) (tgt := 120) hx hb dX6_guess_112 dX6_guess_113 (by decide) (fun c112 => ?_) (fun c112 => ?_)
            · skip
              refine lv_iconst (v := nI (0)) hx hb dX6_guess_120 (by decide) ?_
              refine lv_istore (lv' := [(7, .int (nI 0)), (6, .int (nI (gB (bwd (stp w slip kd num h) V0 V1) (k + 1)))), (8, .int (nI k)), (4, .long (lN (sm 8 (bwd (stp w slip kd num h) V0 V1)))), (0, .ref mq), (1, .int (nI V0)), (2, .int (nI V1)), (3, .int (nI V2))]) hx hb dX6_guess_121 hl (by decide) rfl (fun ls hl => ?_)
              have hl := lv_ch hl 0 (v2 := .int (nI (dfN (bwd (stp w slip kd num h) V0 V1) (k + 1)))) (l2 := [(7, .int (nI (dfN (bwd (stp w slip kd num h) V0 V1) (k + 1)))), (6, .int (nI (gB (bwd (stp w slip kd num h) V0 V1) (k + 1)))), (8, .int (nI k)), (4, .long (lN (sm 8 (bwd (stp w slip kd num h) V0 V1)))), (0, .ref mq), (1, .int (nI V0)), (2, .int (nI V1)), (3, .int (nI V2))]) rfl (congrArg Value.int (congrArg nI (by rw [dfN]; first | rw [if_pos c96] | rw [if_neg c96, if_neg (fun q => c112 (by rw [q]))] | rw [if_neg c96, if_pos ((pk_lEQ (hBl _ c64) (hBl _ (by decide))).mp c112)]))) rfl
              refine lv_iinc (v := nI (k + 1)) (lv' := [(8, .int (nI (k + 1))), (7, .int (nI (dfN (bwd (stp w slip kd num h) V0 V1) (k + 1)))), (6, .int (nI (gB (bwd (stp w slip kd num h) V0 V1) (k + 1)))), (4, .long (lN (sm 8 (bwd (stp w slip kd num h) V0 V1)))), (0, .ref mq), (1, .int (nI V0)), (2, .int (nI V1)), (3, .int (nI V2))]) hx hb dX6_guess_123 hl (k := 2) rfl (n_inc _ 1) (by decide) rfl (fun ls hl => ?_)
              refine lv_goto (tgt := 60) hx hb dX6_guess_126 (by decide) ?_
              exact ih60 (k + 1) _ _ _ (by omega) (by omega) hP hD hS hl
            refine lv_iconst (v := nI (1)) hx hb dX6_guess_116 (by decide) ?_
            refine lv_goto (tgt := 121) hx hb dX6_guess_117 (by decide) ?_
            refine lv_istore (lv' := [(7, .int (nI 1)), (6, .int (nI (gB (bwd (stp w slip kd num h) V0 V1) (k + 1)))), (8, .int (nI k)), (4, .long (lN (sm 8 (bwd (stp w slip kd num h) V0 V1)))), (0, .ref mq), (1, .int (nI V0)), (2, .int (nI V1)), (3, .int (nI V2))]) hx hb dX6_guess_121 hl (by decide) rfl (fun ls hl => ?_)
            have hl := lv_ch hl 0 (v2 := .int (nI (dfN (bwd (stp w slip kd num h) V0 V1) (k + 1)))) (l2 := [(7, .int (nI (dfN (bwd (stp w slip kd num h) V0 V1) (k + 1)))), (6, .int (nI (gB (bwd (stp w slip kd num h) V0 V1) (k + 1)))), (8, .int (nI k)), (4, .long (lN (sm 8 (bwd (stp w slip kd num h) V0 V1)))), (0, .ref mq), (1, .int (nI V0)), (2, .int (nI V1)), (3, .int (nI V2))]) rfl (congrArg Value.int (congrArg nI (by rw [dfN]; first | rw [if_pos c96] | rw [if_neg c96, if_neg (fun q => c112 (by rw [q]))] | rw [if_neg c96, if_pos ((pk_lEQ (hBl _ c64) (hBl _ (by decide))).mp c112)]))) rfl
            refine lv_iinc (v := nI (k + 1)) (lv' := [(8, .int (nI (k + 1))), (7, .int (nI (dfN (bwd (stp w slip kd num h) V0 V1) (k + 1)))), (6, .int (nI (gB (bwd (stp w slip kd num h) V0 V1) (k + 1)))), (4, .long (lN (sm 8 (bwd (stp w slip kd num h) V0 V1)))), (0, .ref mq), (1, .int (nI V0)), (2, .int (nI V1)), (3, .int (nI V2))]) hx hb dX6_guess_123 hl (k := 2) rfl (n_inc _ 1) (by decide) rfl (fun ls hl => ?_)
            refine lv_goto (tgt := 60) hx hb dX6_guess_126 (by decide) ?_
            exact ih60 (k + 1) _ _ _ (by omega) (by omega) hP hD hS hl
        exact L60 (8 - 1 + 1) 1 _ _ _ (Nat.lt_succ_self _) (by omega) hP hD hS hl
      refine lv_bipush (v := (-3)) hx hb dX6_guess_40 (by decide) ?_
      exact w_iret hx hb hr hlk hQ hAe (rw1, rm, lo, st0, lon, n0, th0, cm0) hP hD hS (by refine ⟨?_, hr6⟩; rw [c4, rfLv3 (by rw [c13, c23]; rfl) (by rw [tN_n (show V1 < 2 ^ 31 by omega)]; omega)]; rfl) dX6_guess_42
    refine lv_bipush (v := (-2)) hx hb dX6_guess_26 (by decide) ?_
    exact w_iret hx hb hr hlk hQ hAe (rw1, rm, lo, st0, lon, n0, th0, cm0) hP hD hS (by refine ⟨?_, hr6⟩; rw [c4, rfLv2]; rfl; first | (rw [c13, Bool.and_false]; done) | (rw [c23, Bool.false_and]; done)) dX6_guess_28
  refine lv_iconst (v := (-1)) hx hb dX6_guess_7 (by decide) ?_
  exact w_iret hx hb hr hlk hQ hAe (rw1, rm, lo, st0, lon, n0, th0, cm0) hP hD hS (by refine ⟨?_, hr6⟩; rw [c4, rfLv1]; rfl) dX6_guess_8


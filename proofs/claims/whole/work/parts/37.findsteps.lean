set_option maxHeartbeats 2000000 in
set_option maxRecDepth 100000 in
theorem m_X6_findSteps (l : Launch) (D : va_G) (cI cJ : ClassId) (sz : Nat) (mq : Nat) (mw : Nat) (slip : Nat) (h : Nat) (kd : Nat) (ms : Nat) (cnt : Nat) (ml : Nat) (nl : Nat) (mh : Nat) (hn : Nat) (mr : Nat) (rm : Nat) (mst : Nat) (lo : Nat) (mn : Nat) (mth : Nat) (lon : Nat) (mld : Nat) (mpk : Nat) (mcm : Nat) (w : Nat → Nat) (lg : Nat → Nat) (num : Nat → Nat) (rw1 : Nat → Nat) (st0 : Nat → Nat) (bk : Nat) (b : Nat) (hbk : bk < 8) (hb4 : b < 2 ^ 31) (hh : 1 ≤ h ∧ h ≤ 4) (hw : ∀ j, j < 3 → w j ≤ 4) (hnl7 : nl ≤ 7) (hlg : okL lg nl) (hbf : ∀ t, t < 8 → bfM lg t nl 0 = num t) (hsl : slip ≤ 12) (hnum : ∀ j, j < 8 → num j < 10) (hr6 : ∀ j, j < 6 → rw1 j < 6) (hkd : kd < 3) : Met l yX6_findSteps wsX6_findSteps ({ frames := 3, cells := 0, slots := 0, locals := 75 }) (PX D cI cJ [(mq, .inr (6, [.ref mw, .int (nI slip), .int (nI h), .int (nI kd), .ref ms, .int (nI cnt), .ref ml, .int (nI nl), .ref mh, .int (nI hn), .ref mr, .int (nI rm), .ref mst, .long (lN lo), .ref mn, .ref mth, .long (lN lon), .ref mld, .ref mpk, .ref mcm])), (mw, .inl (cI, 3, .inl (nF w))), (ml, .inl (cI, 28, .inl (nF lg))), (mr, .inl (cI, 6, .inl (nF rw1))), (mst, .inl (cJ, 64, .inr (.inl (lF st0))))] sz [.ref mq, .int (nI bk), .int (nI b)]) (QWv D (S := Nat → Nat) [(mq, .inr (6, [.ref mw, .int (nI slip), .int (nI h), .int (nI kd), .ref ms, .int (nI cnt), .ref ml, .int (nI nl), .ref mh, .int (nI hn), .ref mr, .int (nI rm), .ref mst, .long (lN lo), .ref mn, .ref mth, .long (lN lon), .ref mld, .ref mpk, .ref mcm])), (mw, .inl (cI, 3, .inl (nF w))), (ml, .inl (cI, 28, .inl (nF lg))), (mr, .inl (cI, 6, .inl (nF rw1))), (mst, .inl (cJ, 64, .inr (.inl (lF st0))))] sz (fun u => (∀ j, j < 6 → u j < 6)) (fun rw9 => [(mq, .inr (6, [.ref mw, .int (nI slip), .int (nI h), .int (nI kd), .ref ms, .int (nI cnt), .ref ml, .int (nI nl), .ref mh, .int (nI hn), .ref mr, .int (nI h), .ref mst, .long (lN (lowN w h)), .ref mn, .ref mth, .long (lN lon), .ref mld, .ref mpk, .ref mcm])), (mw, .inl (cI, 3, .inl (nF w))), (ml, .inl (cI, 28, .inl (nF lg))), (mr, .inl (cI, 6, .inl (nF rw9))), (mst, .inl (cJ, 64, .inr (.inl (lF (fun i => rwF w slip kd num h bk (i / 8) b (i % 8))))))])) 0 0 (va_A [(mq, .inr (6, [.ref mw, .int (nI slip), .int (nI h), .int (nI kd), .ref ms, .int (nI cnt), .ref ml, .int (nI nl), .ref mh, .int (nI hn), .ref mr, .int (nI rm), .ref mst, .long (lN lo), .ref mn, .ref mth, .long (lN lon), .ref mld, .ref mpk, .ref mcm])), (mw, .inl (cI, 3, .inl (nF w))), (ml, .inl (cI, 28, .inl (nF lg))), (mr, .inl (cI, 6, .inl (nF rw1))), (mst, .inl (cJ, 64, .inr (.inl (lF st0))))] sz) := by
  refine met_X (cc := cX6_findSteps) (maxL := 11) (ret := none) (by decide) rfl (Nat.le_of_ble_eq_true rfl) ?_
  intro p e s m args below meth c Q ls A hQ hAe hAt hKB hP hD hA hl
  obtain ⟨hx, hb, hr, hml, hlk, hts, hown, hnm⟩ := hAt
  have hown : s.vm.findClass RX6 = some m.cls := hown
  have hS : va_S A s.heap s.heap [] := va_S.rf
  have hl : lv_has ls 11 [(0, .ref mq), (1, .int (nI bk)), (2, .int (nI b))] := hl
  have hiX6 : ∀ w ∈ u_ws RX6 TX6 20, w ∈ wsX6_findSteps := by decide +kernel
  have fl143 := hts (.fieldLink RX6 143 "TaughtTonguesModel" "lower" "J") (by decide +kernel)
  have fl48 := hts (.fieldLink RX6 48 "TaughtTonguesModel" "hearsIs" "I") (by decide +kernel)
  have fl101 := hts (.fieldLink RX6 101 "TaughtTonguesModel" "rowMany" "I") (by decide +kernel)
  have fl25 := hts (.fieldLink RX6 25 "TaughtTonguesModel" "steps" "[J") (by decide +kernel)
  have fl22 := hts (.fieldLink RX6 22 "TaughtTonguesModel" "row" "[I") (by decide +kernel)
  have h6 := pow6 hh.2
  refine lv_aload_n hx hb dX6_findSteps_0 rfl (lv_at hl 0 rfl) ?_
  refine lv_aload_n hx hb dX6_findSteps_1 rfl (lv_at hl 0 rfl) ?_
  have hPc := hP.sub (ws' := [(mq, .inr (6, [.ref mw, .int (nI slip), .int (nI h), .int (nI kd), .ref ms, .int (nI cnt), .ref ml, .int (nI nl), .ref mh, .int (nI hn), .ref mr, .int (nI rm), .ref mst, .long (lN lo), .ref mn, .ref mth, .long (lN lon), .ref mld, .ref mpk, .ref mcm])), (mw, .inl (cI, 3, .inl (nF w)))]) [0, 1] rfl
  refine r_calll hP hS (va_runV (As := []) (rest := [.ref mq]) ⟨hx, hb, hml, hown, hts⟩ (m_X6_lowerOf l D cI cJ mq mw slip h kd ms cnt ml nl mh hn mr rm mst lo mn mth lon mld mpk mcm w (by assumption) (hh.2)) (cwV 0 hts gX6_findSteps_X6_lowerOf rfl rfl rfl (by decide +kernel) ⟨Nat.le_of_ble_eq_true rfl, Nat.le_of_ble_eq_true rfl⟩) ⟨PR.blind, va_recv hKB.1 hP (ci := 6) (q0 := 0) rfl rfl, fun U hU hW => ⟨rfl, hKB.warm hW, by rw [hU]; exact hPc⟩⟩ rfl rfl hl.1 rfl (lv_room (Nat.le_of_ble_eq_true rfl)) dX6_findSteps_2 ⟨Nat.le_of_ble_eq_true rfl, Nat.le_of_ble_eq_true rfl⟩) (fun r1 H locs hw2 hP hS => ?_)
  have hw2 : r1 = lN (lowN w h) := hw2
  subst hw2
  refine va_put (D := D) (ci := 6) (v := .long (lN (lowN w h))) (ty := .long) (C := RX6) (T := TX6) (N := 20) hx hb hts hiX6 tyX6 tyX6_ok nmX6 hown hKB.1 hP hD hS 0 rfl rfl 13 (by decide) fl143 (fun _ h9 => h9) rfl (by decide +kernel) rfl rfl (Nat.le_of_ble_eq_true rfl) dX6_findSteps_5 (fun H locs hP hD hS => ?_)
  have hP : va_P D vwCl [(mq, .inr (6, [.ref mw, .int (nI slip), .int (nI h), .int (nI kd), .ref ms, .int (nI cnt), .ref ml, .int (nI nl), .ref mh, .int (nI hn), .ref mr, .int (nI rm), .ref mst, .long (lN (lowN w h)), .ref mn, .ref mth, .long (lN lon), .ref mld, .ref mpk, .ref mcm])), (mw, .inl (cI, 3, .inl (nF w))), (ml, .inl (cI, 28, .inl (nF lg))), (mr, .inl (cI, 6, .inl (nF rw1))), (mst, .inl (cJ, 64, .inr (.inl (lF st0))))] _ := hP
  have hD : va_D A [(mq, .inr (6, [.ref mw, .int (nI slip), .int (nI h), .int (nI kd), .ref ms, .int (nI cnt), .ref ml, .int (nI nl), .ref mh, .int (nI hn), .ref mr, .int (nI rm), .ref mst, .long (lN (lowN w h)), .ref mn, .ref mth, .long (lN lon), .ref mld, .ref mpk, .ref mcm])), (mw, .inl (cI, 3, .inl (nF w))), (ml, .inl (cI, 28, .inl (nF lg))), (mr, .inl (cI, 6, .inl (nF rw1))), (mst, .inl (cJ, 64, .inr (.inl (lF st0))))] := hD
  refine lv_iconst (v := nI (0)) hx hb dX6_findSteps_8 (by decide) ?_
  refine lv_istore_n (lv' := [(3, .int (nI 0)), (0, .ref mq), (1, .int (nI bk)), (2, .int (nI b))]) hx hb dX6_findSteps_9 rfl hl (by decide) rfl (fun ls hl => ?_)
  have L10 : ∀ (n : Nat) (k : Nat) (f1 : Nat → Nat) (H : Heap) (locs : List Loc) (ls : Array Slot), 64 - k < n → (k ≤ 64) → (∀ j, j < k → f1 j = 0) → va_P D vwCl [(mq, .inr (6, [.ref mw, .int (nI slip), .int (nI h), .int (nI kd), .ref ms, .int (nI cnt), .ref ml, .int (nI nl), .ref mh, .int (nI hn), .ref mr, .int (nI rm), .ref mst, .long (lN (lowN w h)), .ref mn, .ref mth, .long (lN lon), .ref mld, .ref mpk, .ref mcm])), (mw, .inl (cI, 3, .inl (nF w))), (ml, .inl (cI, 28, .inl (nF lg))), (mr, .inl (cI, 6, .inl (nF rw1))), (mst, .inl (cJ, 64, .inr (.inl (lF f1))))] H → va_D A [(mq, .inr (6, [.ref mw, .int (nI slip), .int (nI h), .int (nI kd), .ref ms, .int (nI cnt), .ref ml, .int (nI nl), .ref mh, .int (nI hn), .ref mr, .int (nI rm), .ref mst, .long (lN (lowN w h)), .ref mn, .ref mth, .long (lN lon), .ref mld, .ref mpk, .ref mcm])), (mw, .inl (cI, 3, .inl (nF w))), (ml, .inl (cI, 28, .inl (nF lg))), (mr, .inl (cI, 6, .inl (nF rw1))), (mst, .inl (cJ, 64, .inr (.inl (lF f1))))] → va_S A s.heap H locs → lv_has ls 11 [(3, .int (nI k)), (0, .ref mq), (1, .int (nI bk)), (2, .int (nI b))] → W p l e ({ frames := 3, cells := 0, slots := 0, locals := 75 }) s m args below meth c H locs 0 0 Q (F0 m 10 ls []) := by
    intro n
    induction n with
    | zero => intro k f1 H locs ls hm; exact absurd hm (Nat.not_lt_zero _)
    | succ n ih10 =>
      intro k f1 H locs ls hm hk hf hP hD hS hl
      refine lv_iload_n hx hb dX6_findSteps_10 rfl (lv_at hl 0 rfl) ?_
      refine lv_bipush (v := nI (64)) hx hb dX6_findSteps_11 (by decide) ?_
      refine r_icmp_ge (a := k) (b := 64) (tgt := 29) hx hb dX6_findSteps_13 (by decide) (by omega) (by omega)  (fun c13 => ?_) (fun c13 => ?_)
      · skip
        have hP := P_arrJ hP 4 (g := (lF (mS w slip kd num h bk b 0))) rfl (fun j hj => congrArg lN (hf j (by omega)))
        have hD := D_arrJ hD 4 (g := (lF (mS w slip kd num h bk b 0))) rfl
        have hP : va_P D vwCl [(mq, .inr (6, [.ref mw, .int (nI slip), .int (nI h), .int (nI kd), .ref ms, .int (nI cnt), .ref ml, .int (nI nl), .ref mh, .int (nI hn), .ref mr, .int (nI rm), .ref mst, .long (lN (lowN w h)), .ref mn, .ref mth, .long (lN lon), .ref mld, .ref mpk, .ref mcm])), (mw, .inl (cI, 3, .inl (nF w))), (ml, .inl (cI, 28, .inl (nF lg))), (mr, .inl (cI, 6, .inl (nF rw1))), (mst, .inl (cJ, 64, .inr (.inl (lF (mS w slip kd num h bk b 0)))))] _ := hP
        have hD : va_D A [(mq, .inr (6, [.ref mw, .int (nI slip), .int (nI h), .int (nI kd), .ref ms, .int (nI cnt), .ref ml, .int (nI nl), .ref mh, .int (nI hn), .ref mr, .int (nI rm), .ref mst, .long (lN (lowN w h)), .ref mn, .ref mth, .long (lN lon), .ref mld, .ref mpk, .ref mcm])), (mw, .inl (cI, 3, .inl (nF w))), (ml, .inl (cI, 28, .inl (nF lg))), (mr, .inl (cI, 6, .inl (nF rw1))), (mst, .inl (cJ, 64, .inr (.inl (lF (mS w slip kd num h bk b 0)))))] := hD
        refine lv_iconst (v := nI (1)) hx hb dX6_findSteps_29 (by decide) ?_
        refine lv_istore_n (lv' := [(3, .int (nI 1)), (0, .ref mq), (1, .int (nI bk)), (2, .int (nI b))]) hx hb dX6_findSteps_30 rfl hl (by decide) rfl (fun ls hl => ?_)
        refine lv_iconst (v := nI (0)) hx hb dX6_findSteps_31 (by decide) ?_
        refine lv_istore (lv' := [(4, .int (nI 0)), (3, .int (nI 1)), (0, .ref mq), (1, .int (nI bk)), (2, .int (nI b))]) hx hb dX6_findSteps_32 hl (by decide) rfl (fun ls hl => ?_)
        have hl := lv_ch hl 1 (v2 := .int (nI (6 ^ 0))) (l2 := [(4, .int (nI 0)), (3, .int (nI (6 ^ 0))), (0, .ref mq), (1, .int (nI bk)), (2, .int (nI b))]) rfl (congrArg Value.int (rfl)) rfl
        have L34 : ∀ (n : Nat) (k : Nat) (H : Heap) (locs : List Loc) (ls : Array Slot), h - k < n → (k ≤ h) → va_P D vwCl [(mq, .inr (6, [.ref mw, .int (nI slip), .int (nI h), .int (nI kd), .ref ms, .int (nI cnt), .ref ml, .int (nI nl), .ref mh, .int (nI hn), .ref mr, .int (nI rm), .ref mst, .long (lN (lowN w h)), .ref mn, .ref mth, .long (lN lon), .ref mld, .ref mpk, .ref mcm])), (mw, .inl (cI, 3, .inl (nF w))), (ml, .inl (cI, 28, .inl (nF lg))), (mr, .inl (cI, 6, .inl (nF rw1))), (mst, .inl (cJ, 64, .inr (.inl (lF (mS w slip kd num h bk b 0)))))] H → va_D A [(mq, .inr (6, [.ref mw, .int (nI slip), .int (nI h), .int (nI kd), .ref ms, .int (nI cnt), .ref ml, .int (nI nl), .ref mh, .int (nI hn), .ref mr, .int (nI rm), .ref mst, .long (lN (lowN w h)), .ref mn, .ref mth, .long (lN lon), .ref mld, .ref mpk, .ref mcm])), (mw, .inl (cI, 3, .inl (nF w))), (ml, .inl (cI, 28, .inl (nF lg))), (mr, .inl (cI, 6, .inl (nF rw1))), (mst, .inl (cJ, 64, .inr (.inl (lF (mS w slip kd num h bk b 0)))))] → va_S A s.heap H locs → lv_has ls 11 [(4, .int (nI k)), (3, .int (nI (6 ^ k))), (0, .ref mq), (1, .int (nI bk)), (2, .int (nI b))] → W p l e ({ frames := 3, cells := 0, slots := 0, locals := 75 }) s m args below meth c H locs 0 0 Q (F0 m 34 ls []) := by
          intro n
          induction n with
          | zero => intro k H locs ls hm; exact absurd hm (Nat.not_lt_zero _)
          | succ n ih34 =>
            intro k H locs ls hm hk2 hP hD hS hl
            refine lv_iload hx hb dX6_findSteps_34 (lv_at hl 0 rfl) ?_
            refine lv_aload_n hx hb dX6_findSteps_36 rfl (lv_at hl 2 rfl) ?_
            refine va_get (D := D) (ci := 6) (v := .int (nI h)) (C := RX6) (T := TX6) (N := 20) hx hb hts hiX6 hown hKB.1 hP 0 rfl rfl 2 (by decide) fl48 (fun _ h9 => h9) rfl dX6_findSteps_37 ?_
            refine r_icmp_ge (a := k) (b := h) (tgt := 54) hx hb dX6_findSteps_40 (by decide) (by omega) (by omega)  (fun c40 => ?_) (fun c40 => ?_)
            · skip
              obtain rfl : h = k := by omega
              refine lv_aload_n hx hb dX6_findSteps_54 rfl (lv_at hl 2 rfl) ?_
              refine lv_aload_n hx hb dX6_findSteps_55 rfl (lv_at hl 2 rfl) ?_
              refine va_get (D := D) (ci := 6) (v := .int (nI h)) (C := RX6) (T := TX6) (N := 20) hx hb hts hiX6 hown hKB.1 hP 0 rfl rfl 2 (by decide) fl48 (fun _ h9 => h9) rfl dX6_findSteps_56 ?_
              refine va_put (D := D) (ci := 6) (v := .int (nI h)) (ty := .int) (C := RX6) (T := TX6) (N := 20) hx hb hts hiX6 tyX6 tyX6_ok nmX6 hown hKB.1 hP hD hS 0 rfl rfl 11 (by decide) fl101 (fun _ h9 => h9) rfl (by decide +kernel) rfl rfl (Nat.le_of_ble_eq_true rfl) dX6_findSteps_59 (fun H locs hP hD hS => ?_)
              have hP : va_P D vwCl [(mq, .inr (6, [.ref mw, .int (nI slip), .int (nI h), .int (nI kd), .ref ms, .int (nI cnt), .ref ml, .int (nI nl), .ref mh, .int (nI hn), .ref mr, .int (nI h), .ref mst, .long (lN (lowN w h)), .ref mn, .ref mth, .long (lN lon), .ref mld, .ref mpk, .ref mcm])), (mw, .inl (cI, 3, .inl (nF w))), (ml, .inl (cI, 28, .inl (nF lg))), (mr, .inl (cI, 6, .inl (nF rw1))), (mst, .inl (cJ, 64, .inr (.inl (lF (mS w slip kd num h bk b 0)))))] _ := hP
              have hD : va_D A [(mq, .inr (6, [.ref mw, .int (nI slip), .int (nI h), .int (nI kd), .ref ms, .int (nI cnt), .ref ml, .int (nI nl), .ref mh, .int (nI hn), .ref mr, .int (nI h), .ref mst, .long (lN (lowN w h)), .ref mn, .ref mth, .long (lN lon), .ref mld, .ref mpk, .ref mcm])), (mw, .inl (cI, 3, .inl (nF w))), (ml, .inl (cI, 28, .inl (nF lg))), (mr, .inl (cI, 6, .inl (nF rw1))), (mst, .inl (cJ, 64, .inr (.inl (lF (mS w slip kd num h bk b 0)))))] := hD
              refine lv_iconst (v := nI (0)) hx hb dX6_findSteps_62 (by decide) ?_
              refine lv_istore (lv' := [(4, .int (nI 0)), (3, .int (nI (6 ^ h))), (0, .ref mq), (1, .int (nI bk)), (2, .int (nI b))]) hx hb dX6_findSteps_63 hl (by decide) rfl (fun ls hl => ?_)
              have L65 : ∀ (n : Nat) (R : Nat) (rw3 : Nat → Nat) (H : Heap) (locs : List Loc) (ls : Array Slot), 6 ^ h - R < n → (R ≤ 6 ^ h) → (∀ j, j < 6 → rw3 j < 6) → va_P D vwCl [(mq, .inr (6, [.ref mw, .int (nI slip), .int (nI h), .int (nI kd), .ref ms, .int (nI cnt), .ref ml, .int (nI nl), .ref mh, .int (nI hn), .ref mr, .int (nI h), .ref mst, .long (lN (lowN w h)), .ref mn, .ref mth, .long (lN lon), .ref mld, .ref mpk, .ref mcm])), (mw, .inl (cI, 3, .inl (nF w))), (ml, .inl (cI, 28, .inl (nF lg))), (mr, .inl (cI, 6, .inl (nF rw3))), (mst, .inl (cJ, 64, .inr (.inl (lF (mS w slip kd num h bk b R)))))] H → va_D A [(mq, .inr (6, [.ref mw, .int (nI slip), .int (nI h), .int (nI kd), .ref ms, .int (nI cnt), .ref ml, .int (nI nl), .ref mh, .int (nI hn), .ref mr, .int (nI h), .ref mst, .long (lN (lowN w h)), .ref mn, .ref mth, .long (lN lon), .ref mld, .ref mpk, .ref mcm])), (mw, .inl (cI, 3, .inl (nF w))), (ml, .inl (cI, 28, .inl (nF lg))), (mr, .inl (cI, 6, .inl (nF rw3))), (mst, .inl (cJ, 64, .inr (.inl (lF (mS w slip kd num h bk b R)))))] → va_S A s.heap H locs → lv_has ls 11 [(4, .int (nI R)), (3, .int (nI (6 ^ h))), (0, .ref mq), (1, .int (nI bk)), (2, .int (nI b))] → W p l e ({ frames := 3, cells := 0, slots := 0, locals := 75 }) s m args below meth c H locs 0 0 Q (F0 m 65 ls []) := by
                intro n
                induction n with
                | zero => intro R rw3 H locs ls hm; exact absurd hm (Nat.not_lt_zero _)
                | succ n ih65 =>
                  intro R rw3 H locs ls hm hR hr3 hP hD hS hl
                  refine lv_iload hx hb dX6_findSteps_65 (lv_at hl 0 rfl) ?_
                  refine lv_iload_n hx hb dX6_findSteps_67 rfl (lv_at hl 1 rfl) ?_
                  refine r_icmp_ge (a := R) (b := 6 ^ h) (tgt := 208) hx hb dX6_findSteps_68 (by decide) (by omega) (by omega)  (fun c68 => ?_) (fun c68 => ?_)
                  · skip
                    obtain rfl : 6 ^ h = R := by omega
                    have hP := P_arrJ hP 4 (g := (lF (fun i => rwF w slip kd num h bk (i / 8) b (i % 8)))) rfl (fun i hi => congrArg lN (mS_end hh.2))
                    have hD := D_arrJ hD 4 (g := (lF (fun i => rwF w slip kd num h bk (i / 8) b (i % 8)))) rfl
                    have hP : va_P D vwCl [(mq, .inr (6, [.ref mw, .int (nI slip), .int (nI h), .int (nI kd), .ref ms, .int (nI cnt), .ref ml, .int (nI nl), .ref mh, .int (nI hn), .ref mr, .int (nI h), .ref mst, .long (lN (lowN w h)), .ref mn, .ref mth, .long (lN lon), .ref mld, .ref mpk, .ref mcm])), (mw, .inl (cI, 3, .inl (nF w))), (ml, .inl (cI, 28, .inl (nF lg))), (mr, .inl (cI, 6, .inl (nF rw3))), (mst, .inl (cJ, 64, .inr (.inl (lF (fun i => rwF w slip kd num h bk (i / 8) b (i % 8))))))] _ := hP
                    have hD : va_D A [(mq, .inr (6, [.ref mw, .int (nI slip), .int (nI h), .int (nI kd), .ref ms, .int (nI cnt), .ref ml, .int (nI nl), .ref mh, .int (nI hn), .ref mr, .int (nI h), .ref mst, .long (lN (lowN w h)), .ref mn, .ref mth, .long (lN lon), .ref mld, .ref mpk, .ref mcm])), (mw, .inl (cI, 3, .inl (nF w))), (ml, .inl (cI, 28, .inl (nF lg))), (mr, .inl (cI, 6, .inl (nF rw3))), (mst, .inl (cJ, 64, .inr (.inl (lF (fun i => rwF w slip kd num h bk (i / 8) b (i % 8))))))] := hD
                    exact w_vret hx hb hr hlk hQ hAe rw3 hP hD hS (hr3) dX6_findSteps_208
                  refine lv_iload hx hb dX6_findSteps_71 (lv_at hl 0 rfl) ?_
                  refine lv_istore (lv' := [(5, .int (nI R)), (4, .int (nI R)), (3, .int (nI (6 ^ h))), (0, .ref mq), (1, .int (nI bk)), (2, .int (nI b))]) hx hb dX6_findSteps_73 hl (by decide) rfl (fun ls hl => ?_)
                  refine lv_aload_n hx hb dX6_findSteps_75 rfl (lv_at hl 3 rfl) ?_
                  refine va_get (D := D) (ci := 6) (v := .int (nI h)) (C := RX6) (T := TX6) (N := 20) hx hb hts hiX6 hown hKB.1 hP 0 rfl rfl 2 (by decide) fl48 (fun _ h9 => h9) rfl dX6_findSteps_76 ?_
                  refine lv_iconst (v := nI (1)) hx hb dX6_findSteps_79 (by decide) ?_
                  refine r_isub (a := h) (b := 1) hx hb dX6_findSteps_80 (by omega) ?_
                  refine lv_istore (lv' := [(6, .int (nI (h - 1))), (5, .int (nI R)), (4, .int (nI R)), (3, .int (nI (6 ^ h))), (0, .ref mq), (1, .int (nI bk)), (2, .int (nI b))]) hx hb dX6_findSteps_81 hl (by decide) rfl (fun ls hl => ?_)
                  have hl := lv_ch hl 0 (v2 := .int (nI h - nI 1)) (l2 := [(6, .int (nI h - nI 1)), (5, .int (nI R)), (4, .int (nI R)), (3, .int (nI (6 ^ h))), (0, .ref mq), (1, .int (nI bk)), (2, .int (nI b))]) rfl (congrArg Value.int ((pk_sub (by omega)).symm)) rfl
                  have L83 : ∀ (n : Nat) (j : Nat) (lf : Nat) (rw4 : Nat → Nat) (H : Heap) (locs : List Loc) (ls : Array Slot), j < n → (j ≤ h) → (lf ≤ R) → (∀ x, x < j → dig h R x = dig j lf x) → (∀ x, j ≤ x → x < h → rw4 x = dig h R x) → (∀ x, x < 6 → rw4 x < 6) → va_P D vwCl [(mq, .inr (6, [.ref mw, .int (nI slip), .int (nI h), .int (nI kd), .ref ms, .int (nI cnt), .ref ml, .int (nI nl), .ref mh, .int (nI hn), .ref mr, .int (nI h), .ref mst, .long (lN (lowN w h)), .ref mn, .ref mth, .long (lN lon), .ref mld, .ref mpk, .ref mcm])), (mw, .inl (cI, 3, .inl (nF w))), (ml, .inl (cI, 28, .inl (nF lg))), (mr, .inl (cI, 6, .inl (nF rw4))), (mst, .inl (cJ, 64, .inr (.inl (lF (mS w slip kd num h bk b R)))))] H → va_D A [(mq, .inr (6, [.ref mw, .int (nI slip), .int (nI h), .int (nI kd), .ref ms, .int (nI cnt), .ref ml, .int (nI nl), .ref mh, .int (nI hn), .ref mr, .int (nI h), .ref mst, .long (lN (lowN w h)), .ref mn, .ref mth, .long (lN lon), .ref mld, .ref mpk, .ref mcm])), (mw, .inl (cI, 3, .inl (nF w))), (ml, .inl (cI, 28, .inl (nF lg))), (mr, .inl (cI, 6, .inl (nF rw4))), (mst, .inl (cJ, 64, .inr (.inl (lF (mS w slip kd num h bk b R)))))] → va_S A s.heap H locs → lv_has ls 11 [(6, .int (nI j - nI 1)), (5, .int (nI lf)), (4, .int (nI R)), (3, .int (nI (6 ^ h))), (0, .ref mq), (1, .int (nI bk)), (2, .int (nI b))] → W p l e ({ frames := 3, cells := 0, slots := 0, locals := 75 }) s m args below meth c H locs 0 0 Q (F0 m 83 ls []) := by
                    intro n
                    induction n with
                    | zero => intro j lf rw4 H locs ls hm; exact absurd hm (Nat.not_lt_zero _)
                    | succ n ih83 =>
                      intro j lf rw4 H locs ls hm hj hlf hd hdn hr4 hP hD hS hl
                      refine lv_iload hx hb dX6_findSteps_83 (lv_at hl 0 rfl) ?_
                      refine lv_if_lt (tgt := 113) hx hb dX6_findSteps_85 (by decide) (fun c85 => ?_) (fun c85 => ?_)
                      · skip
                        obtain rfl := dec_zero c85 (by omega)
                        have hall : ∀ x, x < h → rw4 x = dig h R x := fun x hx => hdn x (Nat.zero_le _) hx
                        refine lv_aload_n hx hb dX6_findSteps_113 rfl (lv_at hl 4 rfl) ?_
                        have hPc := hP.sub (ws' := [(mq, .inr (6, [.ref mw, .int (nI slip), .int (nI h), .int (nI kd), .ref ms, .int (nI cnt), .ref ml, .int (nI nl), .ref mh, .int (nI hn), .ref mr, .int (nI h), .ref mst, .long (lN (lowN w h)), .ref mn, .ref mth, .long (lN lon), .ref mld, .ref mpk, .ref mcm])), (ml, .inl (cI, 28, .inl (nF lg))), (mr, .inl (cI, 6, .inl (nF rw4)))]) [0, 2, 3] rfl
                        refine r_calli hP hS (va_runV (As := []) (rest := []) ⟨hx, hb, hml, hown, hts⟩ (m_X6_taken l D cI cJ mq mw slip h kd ms cnt ml nl mh hn mr h mst (lowN w h) mn mth lon mld mpk mcm lg num rw4 (by assumption) (by assumption) (by assumption) (by assumption) (by assumption) (by omega) (hr4) (by assumption)) (cwV 0 hts gX6_findSteps_X6_taken rfl rfl rfl (by decide +kernel) ⟨Nat.le_of_ble_eq_true rfl, Nat.le_of_ble_eq_true rfl⟩) ⟨PR.blind, va_recv hKB.1 hP (ci := 6) (q0 := 0) rfl rfl, fun U hU hW => ⟨rfl, hKB.warm hW, by rw [hU]; exact hPc⟩⟩ rfl rfl hl.1 rfl (lv_room (Nat.le_of_ble_eq_true rfl)) dX6_findSteps_114 ⟨Nat.le_of_ble_eq_true rfl, Nat.le_of_ble_eq_true rfl⟩) (fun r2 H locs hw114 hP hS => ?_)
                        have hw114 : r2 = nI (tkM num slip kd rw4 h) := hw114
                        subst hw114
                        refine lv_topi (fun z3 ez3 => ?_)
                        obtain rfl : z3 = nI (chF num slip kd (lotOf h R)) := ez3.trans (congrArg nI ((tkM_cong hall).trans (tk_lot hh.2)))
                        refine lv_istore (lv' := [(6, .int (nI (chF num slip kd (lotOf h R)))), (5, .int (nI lf)), (4, .int (nI R)), (3, .int (nI (6 ^ h))), (0, .ref mq), (1, .int (nI bk)), (2, .int (nI b))]) hx hb dX6_findSteps_117 hl (by decide) rfl (fun ls hl => ?_)
                        refine lv_iconst (v := nI (0)) hx hb dX6_findSteps_119 (by decide) ?_
                        refine lv_istore (lv' := [(7, .int (nI 0)), (6, .int (nI (chF num slip kd (lotOf h R)))), (5, .int (nI lf)), (4, .int (nI R)), (3, .int (nI (6 ^ h))), (0, .ref mq), (1, .int (nI bk)), (2, .int (nI b))]) hx hb dX6_findSteps_120 hl (by decide) rfl (fun ls hl => ?_)
                        have L122 : ∀ (n : Nat) (f : Nat) (st4 : Nat → Nat) (H : Heap) (locs : List Loc) (ls : Array Slot), 8 - f < n → (f ≤ 8) → (∀ i, i < 64 → st4 i = mS w slip kd num h bk b R i + (if i / 8 < f then mT w slip kd num h bk b R i else 0)) → va_P D vwCl [(mq, .inr (6, [.ref mw, .int (nI slip), .int (nI h), .int (nI kd), .ref ms, .int (nI cnt), .ref ml, .int (nI nl), .ref mh, .int (nI hn), .ref mr, .int (nI h), .ref mst, .long (lN (lowN w h)), .ref mn, .ref mth, .long (lN lon), .ref mld, .ref mpk, .ref mcm])), (mw, .inl (cI, 3, .inl (nF w))), (ml, .inl (cI, 28, .inl (nF lg))), (mr, .inl (cI, 6, .inl (nF rw4))), (mst, .inl (cJ, 64, .inr (.inl (lF st4))))] H → va_D A [(mq, .inr (6, [.ref mw, .int (nI slip), .int (nI h), .int (nI kd), .ref ms, .int (nI cnt), .ref ml, .int (nI nl), .ref mh, .int (nI hn), .ref mr, .int (nI h), .ref mst, .long (lN (lowN w h)), .ref mn, .ref mth, .long (lN lon), .ref mld, .ref mpk, .ref mcm])), (mw, .inl (cI, 3, .inl (nF w))), (ml, .inl (cI, 28, .inl (nF lg))), (mr, .inl (cI, 6, .inl (nF rw4))), (mst, .inl (cJ, 64, .inr (.inl (lF st4))))] → va_S A s.heap H locs → lv_has ls 11 [(7, .int (nI f)), (6, .int (nI (chF num slip kd (lotOf h R)))), (5, .int (nI lf)), (4, .int (nI R)), (3, .int (nI (6 ^ h))), (0, .ref mq), (1, .int (nI bk)), (2, .int (nI b))] → W p l e ({ frames := 3, cells := 0, slots := 0, locals := 75 }) s m args below meth c H locs 0 0 Q (F0 m 122 ls []) := by
                          intro n
                          induction n with
                          | zero => intro f st4 H locs ls hm; exact absurd hm (Nat.not_lt_zero _)
                          | succ n ih122 =>
                            intro f st4 H locs ls hm hf8 hst hP hD hS hl
                            refine lv_iload hx hb dX6_findSteps_122 (lv_at hl 0 rfl) ?_
                            refine lv_bipush (v := nI (8)) hx hb dX6_findSteps_124 (by decide) ?_
                            refine r_icmp_ge (a := f) (b := 8) (tgt := 202) hx hb dX6_findSteps_126 (by decide) (by omega) (by omega)  (fun c126 => ?_) (fun c126 => ?_)
                            · skip
                              obtain rfl : 8 = f := by omega
                              have hP := P_arrJ hP 4 (g := (lF (mS w slip kd num h bk b (R + 1)))) rfl (fun i hi => congrArg lN ((hst i hi).trans (by rw [if_pos (by omega)]; rfl)))
                              have hD := D_arrJ hD 4 (g := (lF (mS w slip kd num h bk b (R + 1)))) rfl
                              have hP : va_P D vwCl [(mq, .inr (6, [.ref mw, .int (nI slip), .int (nI h), .int (nI kd), .ref ms, .int (nI cnt), .ref ml, .int (nI nl), .ref mh, .int (nI hn), .ref mr, .int (nI h), .ref mst, .long (lN (lowN w h)), .ref mn, .ref mth, .long (lN lon), .ref mld, .ref mpk, .ref mcm])), (mw, .inl (cI, 3, .inl (nF w))), (ml, .inl (cI, 28, .inl (nF lg))), (mr, .inl (cI, 6, .inl (nF rw4))), (mst, .inl (cJ, 64, .inr (.inl (lF (mS w slip kd num h bk b (R + 1))))))] _ := hP
                              have hD : va_D A [(mq, .inr (6, [.ref mw, .int (nI slip), .int (nI h), .int (nI kd), .ref ms, .int (nI cnt), .ref ml, .int (nI nl), .ref mh, .int (nI hn), .ref mr, .int (nI h), .ref mst, .long (lN (lowN w h)), .ref mn, .ref mth, .long (lN lon), .ref mld, .ref mpk, .ref mcm])), (mw, .inl (cI, 3, .inl (nF w))), (ml, .inl (cI, 28, .inl (nF lg))), (mr, .inl (cI, 6, .inl (nF rw4))), (mst, .inl (cJ, 64, .inr (.inl (lF (mS w slip kd num h bk b (R + 1))))))] := hD
                              refine lv_iinc (v := nI (R + 1)) (lv' := [(4, .int (nI (R + 1))), (7, .int (nI 8)), (6, .int (nI (chF num slip kd (lotOf h R)))), (5, .int (nI lf)), (3, .int (nI (6 ^ h))), (0, .ref mq), (1, .int (nI bk)), (2, .int (nI b))]) hx hb dX6_findSteps_202 hl (k := 3) rfl (n_inc _ 1) (by decide) rfl (fun ls hl => ?_)
                              refine lv_goto (tgt := 65) hx hb dX6_findSteps_205 (by decide) ?_
                              exact ih65 (R + 1) rw4 _ _ _ (by omega) (by omega) (hr4) hP hD hS (lv_sub hl [0, 4, 5, 6, 7] rfl)
                            refine lv_lconst (v := lN (1)) hx hb dX6_findSteps_129 (by decide) ?_
                            refine lv_lstore (lv' := [(8, .long (lN 1)), (7, .int (nI f)), (6, .int (nI (chF num slip kd (lotOf h R)))), (5, .int (nI lf)), (4, .int (nI R)), (3, .int (nI (6 ^ h))), (0, .ref mq), (1, .int (nI bk)), (2, .int (nI b))]) hx hb dX6_findSteps_130 hl (by decide) rfl (fun ls hl => ?_)
                            refine lv_iconst (v := nI (0)) hx hb dX6_findSteps_132 (by decide) ?_
                            refine lv_istore (lv' := [(10, .int (nI 0)), (8, .long (lN 1)), (7, .int (nI f)), (6, .int (nI (chF num slip kd (lotOf h R)))), (5, .int (nI lf)), (4, .int (nI R)), (3, .int (nI (6 ^ h))), (0, .ref mq), (1, .int (nI bk)), (2, .int (nI b))]) hx hb dX6_findSteps_133 hl (by decide) rfl (fun ls hl => ?_)
                            have L135 : ∀ (n : Nat) (i : Nat) (H : Heap) (locs : List Loc) (ls : Array Slot), h - i < n → (i ≤ h) → va_P D vwCl [(mq, .inr (6, [.ref mw, .int (nI slip), .int (nI h), .int (nI kd), .ref ms, .int (nI cnt), .ref ml, .int (nI nl), .ref mh, .int (nI hn), .ref mr, .int (nI h), .ref mst, .long (lN (lowN w h)), .ref mn, .ref mth, .long (lN lon), .ref mld, .ref mpk, .ref mcm])), (mw, .inl (cI, 3, .inl (nF w))), (ml, .inl (cI, 28, .inl (nF lg))), (mr, .inl (cI, 6, .inl (nF rw4))), (mst, .inl (cJ, 64, .inr (.inl (lF st4))))] H → va_D A [(mq, .inr (6, [.ref mw, .int (nI slip), .int (nI h), .int (nI kd), .ref ms, .int (nI cnt), .ref ml, .int (nI nl), .ref mh, .int (nI hn), .ref mr, .int (nI h), .ref mst, .long (lN (lowN w h)), .ref mn, .ref mth, .long (lN lon), .ref mld, .ref mpk, .ref mcm])), (mw, .inl (cI, 3, .inl (nF w))), (ml, .inl (cI, 28, .inl (nF lg))), (mr, .inl (cI, 6, .inl (nF rw4))), (mst, .inl (cJ, 64, .inr (.inl (lF st4))))] → va_S A s.heap H locs → lv_has ls 11 [(10, .int (nI i)), (8, .long (lN (Pd (odk w slip bk f b) rw4 i))), (7, .int (nI f)), (6, .int (nI (chF num slip kd (lotOf h R)))), (5, .int (nI lf)), (4, .int (nI R)), (3, .int (nI (6 ^ h))), (0, .ref mq), (1, .int (nI bk)), (2, .int (nI b))] → W p l e ({ frames := 3, cells := 0, slots := 0, locals := 75 }) s m args below meth c H locs 0 0 Q (F0 m 135 ls []) := by
                              intro n
                              induction n with
                              | zero => intro i H locs ls hm; exact absurd hm (Nat.not_lt_zero _)
                              | succ n ih135 =>
                                intro i H locs ls hm hi hP hD hS hl
                                refine lv_iload hx hb dX6_findSteps_135 (lv_at hl 0 rfl) ?_
                                refine lv_aload_n hx hb dX6_findSteps_137 rfl (lv_at hl 7 rfl) ?_
                                refine va_get (D := D) (ci := 6) (v := .int (nI h)) (C := RX6) (T := TX6) (N := 20) hx hb hts hiX6 hown hKB.1 hP 0 rfl rfl 2 (by decide) fl48 (fun _ h9 => h9) rfl dX6_findSteps_138 ?_
                                refine r_icmp_ge (a := i) (b := h) (tgt := 178) hx hb dX6_findSteps_141 (by decide) (by omega) (by omega)  (fun c141 => ?_) (fun c141 => ?_)
                                · skip
                                  obtain rfl : h = i := by omega
                                  have hPd : Pd (odk w slip bk f b) rw4 h = Pk (odk w slip bk f b) h R := (Pd_cong h hall).trans (Pd_dig h R)
                                  have hcf := chF_lt (num := num) (slip := slip) (kd := kd) (lt := lotOf h R)
                                  refine lv_aload_n hx hb dX6_findSteps_178 rfl (lv_at hl 7 rfl) ?_
                                  refine va_get (D := D) (ci := 6) (v := .ref mst) (C := RX6) (T := TX6) (N := 20) hx hb hts hiX6 hown hKB.1 hP 0 rfl rfl 12 (by decide) fl25 (fun _ h9 => h9) rfl dX6_findSteps_179 ?_
                                  refine lv_bipush (v := nI (8)) hx hb dX6_findSteps_182 (by decide) ?_
                                  refine lv_iload hx hb dX6_findSteps_184 (lv_at hl 2 rfl) ?_
                                  refine r_imul (a := 8) (b := f) hx hb dX6_findSteps_186  ?_
                                  refine lv_iload hx hb dX6_findSteps_187 (lv_at hl 3 rfl) ?_
                                  refine r_iadd (a := 8 * f) (b := chF num slip kd (lotOf h R)) hx hb dX6_findSteps_189  ?_
                                  refine lv_dup2_11 hx hb dX6_findSteps_190 rfl rfl ?_
                                  refine r_lald (i := (8 * f) + (chF num slip kd (lotOf h R))) (v := lN (st4 ((8 * f) + (chF num slip kd (lotOf h R))))) hx hb hKB.1 hP 4 1 rfl rfl (by omega) (by decide) (rfl) dX6_findSteps_191 ?_
                                  refine lv_lload hx hb dX6_findSteps_192 (lv_at hl 1 rfl) ?_
                                  refine r_ladd (a := st4 ((8 * f) + (chF num slip kd (lotOf h R)))) (b := Pd (odk w slip bk f b) rw4 h) hx hb dX6_findSteps_194  ?_
                                  refine r_lastN (i := (8 * f) + (chF num slip kd (lotOf h R))) hx hb hKB.1 hP hD hS 4 1 rfl rfl (by omega) (by decide) dX6_findSteps_195 (fun H locs hP hD hS => ?_)
                                  have hP : va_P D vwCl [(mq, .inr (6, [.ref mw, .int (nI slip), .int (nI h), .int (nI kd), .ref ms, .int (nI cnt), .ref ml, .int (nI nl), .ref mh, .int (nI hn), .ref mr, .int (nI h), .ref mst, .long (lN (lowN w h)), .ref mn, .ref mth, .long (lN lon), .ref mld, .ref mpk, .ref mcm])), (mw, .inl (cI, 3, .inl (nF w))), (ml, .inl (cI, 28, .inl (nF lg))), (mr, .inl (cI, 6, .inl (nF rw4))), (mst, .inl (cJ, 64, .inr (.inl (lF (nu st4 ((8 * f) + (chF num slip kd (lotOf h R))) ((st4 ((8 * f) + (chF num slip kd (lotOf h R)))) + (Pd (odk w slip bk f b) rw4 h)))))))] _ := hP
                                  have hD : va_D A [(mq, .inr (6, [.ref mw, .int (nI slip), .int (nI h), .int (nI kd), .ref ms, .int (nI cnt), .ref ml, .int (nI nl), .ref mh, .int (nI hn), .ref mr, .int (nI h), .ref mst, .long (lN (lowN w h)), .ref mn, .ref mth, .long (lN lon), .ref mld, .ref mpk, .ref mcm])), (mw, .inl (cI, 3, .inl (nF w))), (ml, .inl (cI, 28, .inl (nF lg))), (mr, .inl (cI, 6, .inl (nF rw4))), (mst, .inl (cJ, 64, .inr (.inl (lF (nu st4 ((8 * f) + (chF num slip kd (lotOf h R))) ((st4 ((8 * f) + (chF num slip kd (lotOf h R)))) + (Pd (odk w slip bk f b) rw4 h)))))))] := hD
                                  refine lv_iinc (v := nI (f + 1)) (lv' := [(7, .int (nI (f + 1))), (10, .int (nI h)), (8, .long (lN (Pd (odk w slip bk f b) rw4 h))), (6, .int (nI (chF num slip kd (lotOf h R)))), (5, .int (nI lf)), (4, .int (nI R)), (3, .int (nI (6 ^ h))), (0, .ref mq), (1, .int (nI bk)), (2, .int (nI b))]) hx hb dX6_findSteps_196 hl (k := 2) rfl (n_inc _ 1) (by decide) rfl (fun ls hl => ?_)
                                  refine lv_goto (tgt := 122) hx hb dX6_findSteps_199 (by decide) ?_
                                  exact ih122 (f + 1) (nu st4 ((8 * f) + (chF num slip kd (lotOf h R))) ((st4 ((8 * f) + (chF num slip kd (lotOf h R)))) + (Pd (odk w slip bk f b) rw4 h))) _ _ _ (by omega) (by omega) (mS_s hst c126 hPd) hP hD hS (lv_sub hl [0, 3, 4, 5, 6, 7, 8, 9] rfl)
                                refine lv_lload hx hb dX6_findSteps_144 (lv_at hl 1 rfl) ?_
                                refine lv_aload_n hx hb dX6_findSteps_146 rfl (lv_at hl 7 rfl) ?_
                                refine lv_iload hx hb dX6_findSteps_147 (lv_at hl 0 rfl) ?_
                                refine lv_iload_n hx hb dX6_findSteps_149 rfl (lv_at hl 9 rfl) ?_
                                refine r_icmp_ge (a := i) (b := b) (tgt := 157) hx hb dX6_findSteps_150 (by decide) (by omega) (by omega)  (fun c150 => ?_) (fun c150 => ?_)
                                · skip
                                  refine lv_iload hx hb dX6_findSteps_157 (lv_at hl 2 rfl) ?_
                                  refine lv_aload_n hx hb dX6_findSteps_159 rfl (lv_at hl 7 rfl) ?_
                                  refine va_get (D := D) (ci := 6) (v := .ref mr) (C := RX6) (T := TX6) (N := 20) hx hb hts hiX6 hown hKB.1 hP 0 rfl rfl 10 (by decide) fl22 (fun _ h9 => h9) rfl dX6_findSteps_160 ?_
                                  refine lv_iload hx hb dX6_findSteps_163 (lv_at hl 0 rfl) ?_
                                  refine r_iald (i := i) (v := nI (rw4 i)) hx hb hKB.1 hP 3 0 rfl rfl (by omega) (by decide) (rfl) dX6_findSteps_165 ?_
                                  have hPc := hP.sub (ws' := [(mq, .inr (6, [.ref mw, .int (nI slip), .int (nI h), .int (nI kd), .ref ms, .int (nI cnt), .ref ml, .int (nI nl), .ref mh, .int (nI hn), .ref mr, .int (nI h), .ref mst, .long (lN (lowN w h)), .ref mn, .ref mth, .long (lN lon), .ref mld, .ref mpk, .ref mcm])), (mw, .inl (cI, 3, .inl (nF w)))]) [0, 1] rfl
                                  refine r_calll hP hS (va_runV (As := [.int (nI f), .int (nI (rw4 i))]) (rest := [.long (lN (Pd (odk w slip bk f b) rw4 i))]) ⟨hx, hb, hml, hown, hts⟩ (m_X6_oddsOf l D cI cJ mq mw slip h kd ms cnt ml nl mh hn mr h mst (lowN w h) mn mth lon mld mpk mcm w (by assumption) (by assumption) f (rw4 i) (by omega) (hr4 i (by omega))) (cwV 2 hts gX6_findSteps_X6_oddsOf rfl rfl rfl (by decide +kernel) ⟨Nat.le_of_ble_eq_true rfl, Nat.le_of_ble_eq_true rfl⟩) ⟨PR.blind, va_recv hKB.1 hP (ci := 6) (q0 := 0) rfl rfl, fun U hU hW => ⟨rfl, hKB.warm hW, by rw [hU]; exact hPc⟩⟩ rfl rfl hl.1 rfl (lv_room (Nat.le_of_ble_eq_true rfl)) dX6_findSteps_166 ⟨Nat.le_of_ble_eq_true rfl, Nat.le_of_ble_eq_true rfl⟩) (fun r4 H locs hw166 hP hS => ?_)
                                  have hw166 : r4 = lN (odS w slip f (rw4 i)) := hw166
                                  subst hw166
                                  refine r_lmul (a := Pd (odk w slip bk f b) rw4 i) (b := odS w slip f (rw4 i)) hx hb dX6_findSteps_169  ?_
                                  refine lv_lstore (lv' := [(8, .long (lN ((Pd (odk w slip bk f b) rw4 i) * (odS w slip f (rw4 i))))), (10, .int (nI i)), (7, .int (nI f)), (6, .int (nI (chF num slip kd (lotOf h R)))), (5, .int (nI lf)), (4, .int (nI R)), (3, .int (nI (6 ^ h))), (0, .ref mq), (1, .int (nI bk)), (2, .int (nI b))]) hx hb dX6_findSteps_170 hl (by decide) rfl (fun ls hl => ?_)
                                  have hl := lv_ch hl 0 (v2 := .long (lN (Pd (odk w slip bk f b) rw4 (i + 1)))) (l2 := [(8, .long (lN (Pd (odk w slip bk f b) rw4 (i + 1)))), (10, .int (nI i)), (7, .int (nI f)), (6, .int (nI (chF num slip kd (lotOf h R)))), (5, .int (nI lf)), (4, .int (nI R)), (3, .int (nI (6 ^ h))), (0, .ref mq), (1, .int (nI bk)), (2, .int (nI b))]) rfl (congrArg Value.long (congrArg lN (by first | exact Pd_b c150 | exact Pd_f c150))) rfl
                                  refine lv_iinc (v := nI (i + 1)) (lv' := [(10, .int (nI (i + 1))), (8, .long (lN (Pd (odk w slip bk f b) rw4 (i + 1)))), (7, .int (nI f)), (6, .int (nI (chF num slip kd (lotOf h R)))), (5, .int (nI lf)), (4, .int (nI R)), (3, .int (nI (6 ^ h))), (0, .ref mq), (1, .int (nI bk)), (2, .int (nI b))]) hx hb dX6_findSteps_172 hl (k := 1) rfl (n_inc _ 1) (by decide) rfl (fun ls hl => ?_)
                                  refine lv_goto (tgt := 135) hx hb dX6_findSteps_175 (by decide) ?_
                                  exact ih135 (i + 1) _ _ _ (by omega) (by omega) hP hD hS hl
                                refine lv_iload_n hx hb dX6_findSteps_153 rfl (lv_at hl 8 rfl) ?_
                                refine lv_goto (tgt := 159) hx hb dX6_findSteps_154 (by decide) ?_
                                refine lv_aload_n hx hb dX6_findSteps_159 rfl (lv_at hl 7 rfl) ?_
                                refine va_get (D := D) (ci := 6) (v := .ref mr) (C := RX6) (T := TX6) (N := 20) hx hb hts hiX6 hown hKB.1 hP 0 rfl rfl 10 (by decide) fl22 (fun _ h9 => h9) rfl dX6_findSteps_160 ?_
                                refine lv_iload hx hb dX6_findSteps_163 (lv_at hl 0 rfl) ?_
                                refine r_iald (i := i) (v := nI (rw4 i)) hx hb hKB.1 hP 3 0 rfl rfl (by omega) (by decide) (rfl) dX6_findSteps_165 ?_
                                have hPc := hP.sub (ws' := [(mq, .inr (6, [.ref mw, .int (nI slip), .int (nI h), .int (nI kd), .ref ms, .int (nI cnt), .ref ml, .int (nI nl), .ref mh, .int (nI hn), .ref mr, .int (nI h), .ref mst, .long (lN (lowN w h)), .ref mn, .ref mth, .long (lN lon), .ref mld, .ref mpk, .ref mcm])), (mw, .inl (cI, 3, .inl (nF w)))]) [0, 1] rfl
                                refine r_calll hP hS (va_runV (As := [.int (nI bk), .int (nI (rw4 i))]) (rest := [.long (lN (Pd (odk w slip bk f b) rw4 i))]) ⟨hx, hb, hml, hown, hts⟩ (m_X6_oddsOf l D cI cJ mq mw slip h kd ms cnt ml nl mh hn mr h mst (lowN w h) mn mth lon mld mpk mcm w (by assumption) (by assumption) bk (rw4 i) (by omega) (hr4 i (by omega))) (cwV 2 hts gX6_findSteps_X6_oddsOf rfl rfl rfl (by decide +kernel) ⟨Nat.le_of_ble_eq_true rfl, Nat.le_of_ble_eq_true rfl⟩) ⟨PR.blind, va_recv hKB.1 hP (ci := 6) (q0 := 0) rfl rfl, fun U hU hW => ⟨rfl, hKB.warm hW, by rw [hU]; exact hPc⟩⟩ rfl rfl hl.1 rfl (lv_room (Nat.le_of_ble_eq_true rfl)) dX6_findSteps_166 ⟨Nat.le_of_ble_eq_true rfl, Nat.le_of_ble_eq_true rfl⟩) (fun r5 H locs hw166 hP hS => ?_)
                                have hw166 : r5 = lN (odS w slip bk (rw4 i)) := hw166
                                subst hw166
                                refine r_lmul (a := Pd (odk w slip bk f b) rw4 i) (b := odS w slip bk (rw4 i)) hx hb dX6_findSteps_169  ?_
                                refine lv_lstore (lv' := [(8, .long (lN ((Pd (odk w slip bk f b) rw4 i) * (odS w slip bk (rw4 i))))), (10, .int (nI i)), (7, .int (nI f)), (6, .int (nI (chF num slip kd (lotOf h R)))), (5, .int (nI lf)), (4, .int (nI R)), (3, .int (nI (6 ^ h))), (0, .ref mq), (1, .int (nI bk)), (2, .int (nI b))]) hx hb dX6_findSteps_170 hl (by decide) rfl (fun ls hl => ?_)
                                have hl := lv_ch hl 0 (v2 := .long (lN (Pd (odk w slip bk f b) rw4 (i + 1)))) (l2 := [(8, .long (lN (Pd (odk w slip bk f b) rw4 (i + 1)))), (10, .int (nI i)), (7, .int (nI f)), (6, .int (nI (chF num slip kd (lotOf h R)))), (5, .int (nI lf)), (4, .int (nI R)), (3, .int (nI (6 ^ h))), (0, .ref mq), (1, .int (nI bk)), (2, .int (nI b))]) rfl (congrArg Value.long (congrArg lN (by first | exact Pd_b c150 | exact Pd_f c150))) rfl
                                refine lv_iinc (v := nI (i + 1)) (lv' := [(10, .int (nI (i + 1))), (8, .long (lN (Pd (odk w slip bk f b) rw4 (i + 1)))), (7, .int (nI f)), (6, .int (nI (chF num slip kd (lotOf h R)))), (5, .int (nI lf)), (4, .int (nI R)), (3, .int (nI (6 ^ h))), (0, .ref mq), (1, .int (nI bk)), (2, .int (nI b))]) hx hb dX6_findSteps_172 hl (k := 1) rfl (n_inc _ 1) (by decide) rfl (fun ls hl => ?_)
                                refine lv_goto (tgt := 135) hx hb dX6_findSteps_175 (by decide) ?_
                                exact ih135 (i + 1) _ _ _ (by omega) (by omega) hP hD hS hl
                            exact L135 (h - 0 + 1) 0 _ _ _ (Nat.lt_succ_self _) (by omega) hP hD hS hl
                        exact L122 (8 - 0 + 1) 0 (mS w slip kd num h bk b R) _ _ _ (Nat.lt_succ_self _) (by omega) (fun i _ => by rw [if_neg (Nat.not_lt_zero _), Nat.add_zero]) hP hD hS hl
                      obtain ⟨j9, rfl⟩ := dec_pos c85
                      have hl := lv_ch hl 0 (v2 := .int (nI j9)) (l2 := [(6, .int (nI j9)), (5, .int (nI lf)), (4, .int (nI R)), (3, .int (nI (6 ^ h))), (0, .ref mq), (1, .int (nI bk)), (2, .int (nI b))]) rfl (congrArg Value.int (nI_pred j9)) rfl
                      refine lv_aload_n hx hb dX6_findSteps_88 rfl (lv_at hl 4 rfl) ?_
                      refine va_get (D := D) (ci := 6) (v := .ref mr) (C := RX6) (T := TX6) (N := 20) hx hb hts hiX6 hown hKB.1 hP 0 rfl rfl 10 (by decide) fl22 (fun _ h9 => h9) rfl dX6_findSteps_89 ?_
                      refine lv_iload hx hb dX6_findSteps_92 (lv_at hl 0 rfl) ?_
                      refine lv_iload hx hb dX6_findSteps_94 (lv_at hl 1 rfl) ?_
                      refine lv_bipush (v := nI (6)) hx hb dX6_findSteps_96 (by decide) ?_
                      refine r_irem (a := lf) (b := 6) hx hb dX6_findSteps_98 (by omega) (by omega) (by omega) ?_
                      refine r_iastN (i := j9) hx hb hKB.1 hP hD hS 3 0 rfl rfl (by omega) (by decide) dX6_findSteps_99 (fun H locs hP hD hS => ?_)
                      have hP : va_P D vwCl [(mq, .inr (6, [.ref mw, .int (nI slip), .int (nI h), .int (nI kd), .ref ms, .int (nI cnt), .ref ml, .int (nI nl), .ref mh, .int (nI hn), .ref mr, .int (nI h), .ref mst, .long (lN (lowN w h)), .ref mn, .ref mth, .long (lN lon), .ref mld, .ref mpk, .ref mcm])), (mw, .inl (cI, 3, .inl (nF w))), (ml, .inl (cI, 28, .inl (nF lg))), (mr, .inl (cI, 6, .inl (nF (nu rw4 j9 (lf % 6))))), (mst, .inl (cJ, 64, .inr (.inl (lF (mS w slip kd num h bk b R)))))] _ := hP
                      have hD : va_D A [(mq, .inr (6, [.ref mw, .int (nI slip), .int (nI h), .int (nI kd), .ref ms, .int (nI cnt), .ref ml, .int (nI nl), .ref mh, .int (nI hn), .ref mr, .int (nI h), .ref mst, .long (lN (lowN w h)), .ref mn, .ref mth, .long (lN lon), .ref mld, .ref mpk, .ref mcm])), (mw, .inl (cI, 3, .inl (nF w))), (ml, .inl (cI, 28, .inl (nF lg))), (mr, .inl (cI, 6, .inl (nF (nu rw4 j9 (lf % 6))))), (mst, .inl (cJ, 64, .inr (.inl (lF (mS w slip kd num h bk b R)))))] := hD
                      refine lv_iload hx hb dX6_findSteps_100 (lv_at hl 1 rfl) ?_
                      refine lv_bipush (v := nI (6)) hx hb dX6_findSteps_102 (by decide) ?_
                      refine r_idiv (a := lf) (b := 6) hx hb dX6_findSteps_104 (by omega) (by omega) (by omega) ?_
                      refine lv_istore (lv' := [(5, .int (nI (lf / 6))), (6, .int (nI j9)), (4, .int (nI R)), (3, .int (nI (6 ^ h))), (0, .ref mq), (1, .int (nI bk)), (2, .int (nI b))]) hx hb dX6_findSteps_105 hl (by decide) rfl (fun ls hl => ?_)
                      refine lv_iinc (v := (nI (j9)) + (-1)) (lv' := [(6, .int ((nI (j9)) + (-1))), (5, .int (nI (lf / 6))), (4, .int (nI R)), (3, .int (nI (6 ^ h))), (0, .ref mq), (1, .int (nI bk)), (2, .int (nI b))]) hx hb dX6_findSteps_107 hl (k := 1) rfl (rfl) (by decide) rfl (fun ls hl => ?_)
                      have hl := lv_ch hl 0 (v2 := .int (nI j9 - nI 1)) (l2 := [(6, .int (nI j9 - nI 1)), (5, .int (nI (lf / 6))), (4, .int (nI R)), (3, .int (nI (6 ^ h))), (0, .ref mq), (1, .int (nI bk)), (2, .int (nI b))]) rfl (congrArg Value.int (i_dec _)) rfl
                      refine lv_goto (tgt := 83) hx hb dX6_findSteps_110 (by decide) ?_
                      exact ih83 j9 (lf / 6) (nu rw4 j9 (lf % 6)) _ _ _ (by omega) (by omega) (by omega) (fun x hx => (hd x (by omega)).trans (dig_l hx)) (dg_s hd hdn) (lt6_nu hr4 (Nat.mod_lt _ (by decide))) hP hD hS hl
                  exact L83 (h + 1) h R rw3 _ _ _ (Nat.lt_succ_self _) (Nat.le_refl _) (Nat.le_refl _) (fun _ _ => rfl) (fun x h1 h2 => absurd h2 (by omega)) (hr3) hP hD hS hl
              exact L65 (6 ^ h - 0 + 1) 0 rw1 _ _ _ (Nat.lt_succ_self _) (Nat.zero_le _) (hr6) hP hD hS hl
            refine lv_iload_n hx hb dX6_findSteps_43 rfl (lv_at hl 1 rfl) ?_
            refine lv_bipush (v := nI (6)) hx hb dX6_findSteps_44 (by decide) ?_
            refine r_imul (a := 6 ^ k) (b := 6) hx hb dX6_findSteps_46  ?_
            refine lv_istore_n (lv' := [(3, .int (nI ((6 ^ k) * 6))), (4, .int (nI k)), (0, .ref mq), (1, .int (nI bk)), (2, .int (nI b))]) hx hb dX6_findSteps_47 rfl hl (by decide) rfl (fun ls hl => ?_)
            have hl := lv_ch hl 0 (v2 := .int (nI (6 ^ (k + 1)))) (l2 := [(3, .int (nI (6 ^ (k + 1)))), (4, .int (nI k)), (0, .ref mq), (1, .int (nI bk)), (2, .int (nI b))]) rfl (congrArg Value.int (rfl)) rfl
            refine lv_iinc (v := nI (k + 1)) (lv' := [(4, .int (nI (k + 1))), (3, .int (nI (6 ^ (k + 1)))), (0, .ref mq), (1, .int (nI bk)), (2, .int (nI b))]) hx hb dX6_findSteps_48 hl (k := 1) rfl (n_inc _ 1) (by decide) rfl (fun ls hl => ?_)
            refine lv_goto (tgt := 34) hx hb dX6_findSteps_51 (by decide) ?_
            exact ih34 (k + 1) _ _ _ (by omega) (by omega) hP hD hS hl
        exact L34 (h - 0 + 1) 0 _ _ _ (Nat.lt_succ_self _) (by omega) hP hD hS hl
      refine lv_aload_n hx hb dX6_findSteps_16 rfl (lv_at hl 1 rfl) ?_
      refine va_get (D := D) (ci := 6) (v := .ref mst) (C := RX6) (T := TX6) (N := 20) hx hb hts hiX6 hown hKB.1 hP 0 rfl rfl 12 (by decide) fl25 (fun _ h9 => h9) rfl dX6_findSteps_17 ?_
      refine lv_iload_n hx hb dX6_findSteps_20 rfl (lv_at hl 0 rfl) ?_
      refine lv_lconst (v := lN (0)) hx hb dX6_findSteps_21 (by decide) ?_
      refine r_lastN (i := k) hx hb hKB.1 hP hD hS 4 1 rfl rfl (by omega) (by decide) dX6_findSteps_22 (fun H locs hP hD hS => ?_)
      have hP : va_P D vwCl [(mq, .inr (6, [.ref mw, .int (nI slip), .int (nI h), .int (nI kd), .ref ms, .int (nI cnt), .ref ml, .int (nI nl), .ref mh, .int (nI hn), .ref mr, .int (nI rm), .ref mst, .long (lN (lowN w h)), .ref mn, .ref mth, .long (lN lon), .ref mld, .ref mpk, .ref mcm])), (mw, .inl (cI, 3, .inl (nF w))), (ml, .inl (cI, 28, .inl (nF lg))), (mr, .inl (cI, 6, .inl (nF rw1))), (mst, .inl (cJ, 64, .inr (.inl (lF (nu f1 k 0)))))] _ := hP
      have hD : va_D A [(mq, .inr (6, [.ref mw, .int (nI slip), .int (nI h), .int (nI kd), .ref ms, .int (nI cnt), .ref ml, .int (nI nl), .ref mh, .int (nI hn), .ref mr, .int (nI rm), .ref mst, .long (lN (lowN w h)), .ref mn, .ref mth, .long (lN lon), .ref mld, .ref mpk, .ref mcm])), (mw, .inl (cI, 3, .inl (nF w))), (ml, .inl (cI, 28, .inl (nF lg))), (mr, .inl (cI, 6, .inl (nF rw1))), (mst, .inl (cJ, 64, .inr (.inl (lF (nu f1 k 0)))))] := hD
      refine lv_iinc (v := nI (k + 1)) (lv' := [(3, .int (nI (k + 1))), (0, .ref mq), (1, .int (nI bk)), (2, .int (nI b))]) hx hb dX6_findSteps_23 hl (k := 0) rfl (n_inc _ 1) (by decide) rfl (fun ls hl => ?_)
      refine lv_goto (tgt := 10) hx hb dX6_findSteps_26 (by decide) ?_
      exact ih10 (k + 1) (nu f1 k 0) _ _ _ (by omega) (by omega) (ag_s (g := fun _ => 0) hf rfl) hP hD hS hl
  exact L10 (64 - 0 + 1) 0 st0 _ _ _ (Nat.lt_succ_self _) (by omega) (fun j hj => absurd hj (Nat.not_lt_zero j)) hP hD hS hl


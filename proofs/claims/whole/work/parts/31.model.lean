set_option maxHeartbeats 4000000 in
set_option maxRecDepth 100000 in
theorem m_X6_init (l : Launch) (D : va_G) (cI cJ : ClassId) (sz : Nat) (mq : Nat) : Met l yX6_init wsX6_init ({ frames := 1, cells := 11, slots := 187, locals := 12 }) (PX D cI cJ [(mq, .inr (6, [.null, .int 0, .int 0, .int 0, .null, .int 0, .null, .int 0, .null, .int 0, .null, .int 0, .null, .long 0, .null, .null, .long 0, .null, .null, .null]))] sz [.ref mq]) (QWv D (S := Nat × Nat × Nat × Nat × Nat × Nat × Nat × Nat × Nat × Nat × Nat) [(mq, .inr (6, [.null, .int 0, .int 0, .int 0, .null, .int 0, .null, .int 0, .null, .int 0, .null, .int 0, .null, .long 0, .null, .null, .long 0, .null, .null, .null]))] sz (fun _ => True) (fun u => [(mq, .inr (6, [.ref u.1, .int (nI 1), .int (nI 2), .int (nI 0), .ref u.2.1, .int (nI 0), .ref u.2.2.1, .int (nI 0), .ref u.2.2.2.1, .int (nI 0), .ref u.2.2.2.2.1, .int (nI 0), .ref u.2.2.2.2.2.1, .long (lN 0), .ref u.2.2.2.2.2.2.1, .ref u.2.2.2.2.2.2.2.1, .long (lN 0), .ref u.2.2.2.2.2.2.2.2.1, .ref u.2.2.2.2.2.2.2.2.2.1, .ref u.2.2.2.2.2.2.2.2.2.2])), (u.1, .inl (cI, 3, .inl (nF (fun _ => 1)))), (u.2.1, .inl (cI, 40, .inl (nF (fun _ => 0)))), (u.2.2.1, .inl (cI, 28, .inl (nF (fun _ => 0)))), (u.2.2.2.1, .inl (cI, 6, .inl (nF (fun _ => 0)))), (u.2.2.2.2.1, .inl (cI, 6, .inl (nF (fun _ => 0)))), (u.2.2.2.2.2.1, .inl (cJ, 64, .inr (.inl (lF (fun _ => 0))))), (u.2.2.2.2.2.2.1, .inl (cJ, 8, .inr (.inl (lF (fun _ => 0))))), (u.2.2.2.2.2.2.2.1, .inl (cJ, 8, .inr (.inl (lF (fun _ => 0))))), (u.2.2.2.2.2.2.2.2.1, .inl (cI, 8, .inl (nF (fun _ => 0)))), (u.2.2.2.2.2.2.2.2.2.1, .inl (cI, 4, .inl (nF (fun _ => 0)))), (u.2.2.2.2.2.2.2.2.2.2, .inl (cJ, 8, .inr (.inl (lF (fun _ => 0)))))])) 11 187 (va_A [(mq, .inr (6, [.null, .int 0, .int 0, .int 0, .null, .int 0, .null, .int 0, .null, .int 0, .null, .int 0, .null, .long 0, .null, .null, .long 0, .null, .null, .null]))] sz) := by
  refine met_X (cc := cX6_init) (maxL := 2) (ret := none) (by decide) rfl (Nat.le_of_ble_eq_true rfl) ?_
  intro p e s m args below meth c Q ls A hQ hAe hAt hKB hP hD hA hl
  obtain ⟨hx, hb, hr, hml, hlk, hts, hown, hnm⟩ := hAt
  have hown : s.vm.findClass RX6 = some m.cls := hown
  have hS : va_S A s.heap s.heap [] := va_S.rf
  have hl : lv_has ls 2 [(0, .ref mq)] := hl
  have oi1 := hts (.methodLink RX6 1 objectInit) (by decide +kernel)
  have oi2 := hts (.instanceMethod objectInit) (by decide +kernel)
  have oi3 := hts (.code objectInit ⟨#[0xb1]⟩ 1 none) (by decide +kernel)
  have acI := hts (.arrayClass .int) (by decide +kernel)
  have hiX6 : ∀ w ∈ u_ws RX6 TX6 20, w ∈ wsX6_init := by decide +kernel
  have fl7 := hts (.fieldLink RX6 7 "TaughtTonguesModel" "weights" "[I") (by decide +kernel)
  have fl13 := hts (.fieldLink RX6 13 "TaughtTonguesModel" "signs" "[I") (by decide +kernel)
  have fl16 := hts (.fieldLink RX6 16 "TaughtTonguesModel" "lineSigns" "[I") (by decide +kernel)
  have fl19 := hts (.fieldLink RX6 19 "TaughtTonguesModel" "heard" "[I") (by decide +kernel)
  have fl22 := hts (.fieldLink RX6 22 "TaughtTonguesModel" "row" "[I") (by decide +kernel)
  have acJ := hts (.arrayClass .long) (by decide +kernel)
  have fl25 := hts (.fieldLink RX6 25 "TaughtTonguesModel" "steps" "[J") (by decide +kernel)
  have fl29 := hts (.fieldLink RX6 29 "TaughtTonguesModel" "now" "[J") (by decide +kernel)
  have fl32 := hts (.fieldLink RX6 32 "TaughtTonguesModel" "then" "[J") (by decide +kernel)
  have fl35 := hts (.fieldLink RX6 35 "TaughtTonguesModel" "led" "[I") (by decide +kernel)
  have fl38 := hts (.fieldLink RX6 38 "TaughtTonguesModel" "picked" "[I") (by decide +kernel)
  have fl41 := hts (.fieldLink RX6 41 "TaughtTonguesModel" "came" "[J") (by decide +kernel)
  have fl44 := hts (.fieldLink RX6 44 "TaughtTonguesModel" "slipIs" "I") (by decide +kernel)
  have fl48 := hts (.fieldLink RX6 48 "TaughtTonguesModel" "hearsIs" "I") (by decide +kernel)
  refine lv_aload_n hx hb dX6_init_0 rfl (lv_at hl 0 rfl) ?_
  refine W.objInit hx hb hown oi1 oi2 oi3 rfl (by rw [hml]; exact hl.1) rfl dX6_init_1 (Nat.le_of_ble_eq_true rfl) (Nat.le_of_ble_eq_true rfl) ?_
  refine W.eq (g2 := F0 m 4 ls []) rfl ?_
  refine lv_aload_n hx hb dX6_init_4 rfl (lv_at hl 0 rfl) ?_
  refine lv_iconst (v := nI (3)) hx hb dX6_init_5 (by decide) ?_
  refine r_newI (n := 3) hx hb acI hKB.1 hP hD hS hA (by decide) (by decide) (Nat.le_of_ble_eq_true rfl) (Nat.le_of_ble_eq_true rfl) dX6_init_6 (fun mw H hP hD hS => ?_)
  have hP : va_P D vwCl [(mq, .inr (6, [.null, .int 0, .int 0, .int 0, .null, .int 0, .null, .int 0, .null, .int 0, .null, .int 0, .null, .long 0, .null, .null, .long 0, .null, .null, .null])), (mw, .inl (cI, 3, .inl (fun _ => 0)))] _ := hP
  have hD : va_D A [(mq, .inr (6, [.null, .int 0, .int 0, .int 0, .null, .int 0, .null, .int 0, .null, .int 0, .null, .int 0, .null, .long 0, .null, .null, .long 0, .null, .null, .null])), (mw, .inl (cI, 3, .inl (fun _ => 0)))] := hD
  refine W.widen (k := 1) (n := 3) (by decide) (by decide) ?_
  refine va_putF (D := D) (ci := 6) (v := .ref mw) (ty := .array .int) (C := RX6) (T := TX6) (N := 20) hx hb hts hiX6 tyX6 tyX6_ok nmX6 hown hKB.1 hP hD hS 0 rfl rfl 0 (by decide) fl7 (fun _ h9 => h9) rfl hnm rfl (by decide +kernel) rfl rfl (Nat.le_of_ble_eq_true rfl) dX6_init_8 (fun H locs hP hD hS => ?_)
  have hP : va_P D vwCl [(mq, .inr (6, [.ref mw, .int 0, .int 0, .int 0, .null, .int 0, .null, .int 0, .null, .int 0, .null, .int 0, .null, .long 0, .null, .null, .long 0, .null, .null, .null])), (mw, .inl (cI, 3, .inl (fun _ => 0)))] _ := hP
  have hD : va_D A [(mq, .inr (6, [.ref mw, .int 0, .int 0, .int 0, .null, .int 0, .null, .int 0, .null, .int 0, .null, .int 0, .null, .long 0, .null, .null, .long 0, .null, .null, .null])), (mw, .inl (cI, 3, .inl (fun _ => 0)))] := hD
  refine lv_aload_n hx hb dX6_init_11 rfl (lv_at hl 0 rfl) ?_
  refine lv_bipush (v := nI (40)) hx hb dX6_init_12 (by decide) ?_
  refine r_newI (n := 40) hx hb acI hKB.1 hP hD hS hA (by decide) (by decide) (Nat.le_of_ble_eq_true rfl) (Nat.le_of_ble_eq_true rfl) dX6_init_14 (fun ms H hP hD hS => ?_)
  have hP : va_P D vwCl [(mq, .inr (6, [.ref mw, .int 0, .int 0, .int 0, .null, .int 0, .null, .int 0, .null, .int 0, .null, .int 0, .null, .long 0, .null, .null, .long 0, .null, .null, .null])), (mw, .inl (cI, 3, .inl (fun _ => 0))), (ms, .inl (cI, 40, .inl (fun _ => 0)))] _ := hP
  have hD : va_D A [(mq, .inr (6, [.ref mw, .int 0, .int 0, .int 0, .null, .int 0, .null, .int 0, .null, .int 0, .null, .int 0, .null, .long 0, .null, .null, .long 0, .null, .null, .null])), (mw, .inl (cI, 3, .inl (fun _ => 0))), (ms, .inl (cI, 40, .inl (fun _ => 0)))] := hD
  refine W.widen (k := 2) (n := 43) (by decide) (by decide) ?_
  refine va_putF (D := D) (ci := 6) (v := .ref ms) (ty := .array .int) (C := RX6) (T := TX6) (N := 20) hx hb hts hiX6 tyX6 tyX6_ok nmX6 hown hKB.1 hP hD hS 0 rfl rfl 4 (by decide) fl13 (fun _ h9 => h9) rfl hnm rfl (by decide +kernel) rfl rfl (Nat.le_of_ble_eq_true rfl) dX6_init_16 (fun H locs hP hD hS => ?_)
  have hP : va_P D vwCl [(mq, .inr (6, [.ref mw, .int 0, .int 0, .int 0, .ref ms, .int 0, .null, .int 0, .null, .int 0, .null, .int 0, .null, .long 0, .null, .null, .long 0, .null, .null, .null])), (mw, .inl (cI, 3, .inl (fun _ => 0))), (ms, .inl (cI, 40, .inl (fun _ => 0)))] _ := hP
  have hD : va_D A [(mq, .inr (6, [.ref mw, .int 0, .int 0, .int 0, .ref ms, .int 0, .null, .int 0, .null, .int 0, .null, .int 0, .null, .long 0, .null, .null, .long 0, .null, .null, .null])), (mw, .inl (cI, 3, .inl (fun _ => 0))), (ms, .inl (cI, 40, .inl (fun _ => 0)))] := hD
  refine lv_aload_n hx hb dX6_init_19 rfl (lv_at hl 0 rfl) ?_
  refine lv_bipush (v := nI (28)) hx hb dX6_init_20 (by decide) ?_
  refine r_newI (n := 28) hx hb acI hKB.1 hP hD hS hA (by decide) (by decide) (Nat.le_of_ble_eq_true rfl) (Nat.le_of_ble_eq_true rfl) dX6_init_22 (fun ml H hP hD hS => ?_)
  have hP : va_P D vwCl [(mq, .inr (6, [.ref mw, .int 0, .int 0, .int 0, .ref ms, .int 0, .null, .int 0, .null, .int 0, .null, .int 0, .null, .long 0, .null, .null, .long 0, .null, .null, .null])), (mw, .inl (cI, 3, .inl (fun _ => 0))), (ms, .inl (cI, 40, .inl (fun _ => 0))), (ml, .inl (cI, 28, .inl (fun _ => 0)))] _ := hP
  have hD : va_D A [(mq, .inr (6, [.ref mw, .int 0, .int 0, .int 0, .ref ms, .int 0, .null, .int 0, .null, .int 0, .null, .int 0, .null, .long 0, .null, .null, .long 0, .null, .null, .null])), (mw, .inl (cI, 3, .inl (fun _ => 0))), (ms, .inl (cI, 40, .inl (fun _ => 0))), (ml, .inl (cI, 28, .inl (fun _ => 0)))] := hD
  refine W.widen (k := 3) (n := 71) (by decide) (by decide) ?_
  refine va_putF (D := D) (ci := 6) (v := .ref ml) (ty := .array .int) (C := RX6) (T := TX6) (N := 20) hx hb hts hiX6 tyX6 tyX6_ok nmX6 hown hKB.1 hP hD hS 0 rfl rfl 6 (by decide) fl16 (fun _ h9 => h9) rfl hnm rfl (by decide +kernel) rfl rfl (Nat.le_of_ble_eq_true rfl) dX6_init_24 (fun H locs hP hD hS => ?_)
  have hP : va_P D vwCl [(mq, .inr (6, [.ref mw, .int 0, .int 0, .int 0, .ref ms, .int 0, .ref ml, .int 0, .null, .int 0, .null, .int 0, .null, .long 0, .null, .null, .long 0, .null, .null, .null])), (mw, .inl (cI, 3, .inl (fun _ => 0))), (ms, .inl (cI, 40, .inl (fun _ => 0))), (ml, .inl (cI, 28, .inl (fun _ => 0)))] _ := hP
  have hD : va_D A [(mq, .inr (6, [.ref mw, .int 0, .int 0, .int 0, .ref ms, .int 0, .ref ml, .int 0, .null, .int 0, .null, .int 0, .null, .long 0, .null, .null, .long 0, .null, .null, .null])), (mw, .inl (cI, 3, .inl (fun _ => 0))), (ms, .inl (cI, 40, .inl (fun _ => 0))), (ml, .inl (cI, 28, .inl (fun _ => 0)))] := hD
  refine lv_aload_n hx hb dX6_init_27 rfl (lv_at hl 0 rfl) ?_
  refine lv_bipush (v := nI (6)) hx hb dX6_init_28 (by decide) ?_
  refine r_newI (n := 6) hx hb acI hKB.1 hP hD hS hA (by decide) (by decide) (Nat.le_of_ble_eq_true rfl) (Nat.le_of_ble_eq_true rfl) dX6_init_30 (fun mh H hP hD hS => ?_)
  have hP : va_P D vwCl [(mq, .inr (6, [.ref mw, .int 0, .int 0, .int 0, .ref ms, .int 0, .ref ml, .int 0, .null, .int 0, .null, .int 0, .null, .long 0, .null, .null, .long 0, .null, .null, .null])), (mw, .inl (cI, 3, .inl (fun _ => 0))), (ms, .inl (cI, 40, .inl (fun _ => 0))), (ml, .inl (cI, 28, .inl (fun _ => 0))), (mh, .inl (cI, 6, .inl (fun _ => 0)))] _ := hP
  have hD : va_D A [(mq, .inr (6, [.ref mw, .int 0, .int 0, .int 0, .ref ms, .int 0, .ref ml, .int 0, .null, .int 0, .null, .int 0, .null, .long 0, .null, .null, .long 0, .null, .null, .null])), (mw, .inl (cI, 3, .inl (fun _ => 0))), (ms, .inl (cI, 40, .inl (fun _ => 0))), (ml, .inl (cI, 28, .inl (fun _ => 0))), (mh, .inl (cI, 6, .inl (fun _ => 0)))] := hD
  refine W.widen (k := 4) (n := 77) (by decide) (by decide) ?_
  refine va_putF (D := D) (ci := 6) (v := .ref mh) (ty := .array .int) (C := RX6) (T := TX6) (N := 20) hx hb hts hiX6 tyX6 tyX6_ok nmX6 hown hKB.1 hP hD hS 0 rfl rfl 8 (by decide) fl19 (fun _ h9 => h9) rfl hnm rfl (by decide +kernel) rfl rfl (Nat.le_of_ble_eq_true rfl) dX6_init_32 (fun H locs hP hD hS => ?_)
  have hP : va_P D vwCl [(mq, .inr (6, [.ref mw, .int 0, .int 0, .int 0, .ref ms, .int 0, .ref ml, .int 0, .ref mh, .int 0, .null, .int 0, .null, .long 0, .null, .null, .long 0, .null, .null, .null])), (mw, .inl (cI, 3, .inl (fun _ => 0))), (ms, .inl (cI, 40, .inl (fun _ => 0))), (ml, .inl (cI, 28, .inl (fun _ => 0))), (mh, .inl (cI, 6, .inl (fun _ => 0)))] _ := hP
  have hD : va_D A [(mq, .inr (6, [.ref mw, .int 0, .int 0, .int 0, .ref ms, .int 0, .ref ml, .int 0, .ref mh, .int 0, .null, .int 0, .null, .long 0, .null, .null, .long 0, .null, .null, .null])), (mw, .inl (cI, 3, .inl (fun _ => 0))), (ms, .inl (cI, 40, .inl (fun _ => 0))), (ml, .inl (cI, 28, .inl (fun _ => 0))), (mh, .inl (cI, 6, .inl (fun _ => 0)))] := hD
  refine lv_aload_n hx hb dX6_init_35 rfl (lv_at hl 0 rfl) ?_
  refine lv_bipush (v := nI (6)) hx hb dX6_init_36 (by decide) ?_
  refine r_newI (n := 6) hx hb acI hKB.1 hP hD hS hA (by decide) (by decide) (Nat.le_of_ble_eq_true rfl) (Nat.le_of_ble_eq_true rfl) dX6_init_38 (fun mr H hP hD hS => ?_)
  have hP : va_P D vwCl [(mq, .inr (6, [.ref mw, .int 0, .int 0, .int 0, .ref ms, .int 0, .ref ml, .int 0, .ref mh, .int 0, .null, .int 0, .null, .long 0, .null, .null, .long 0, .null, .null, .null])), (mw, .inl (cI, 3, .inl (fun _ => 0))), (ms, .inl (cI, 40, .inl (fun _ => 0))), (ml, .inl (cI, 28, .inl (fun _ => 0))), (mh, .inl (cI, 6, .inl (fun _ => 0))), (mr, .inl (cI, 6, .inl (fun _ => 0)))] _ := hP
  have hD : va_D A [(mq, .inr (6, [.ref mw, .int 0, .int 0, .int 0, .ref ms, .int 0, .ref ml, .int 0, .ref mh, .int 0, .null, .int 0, .null, .long 0, .null, .null, .long 0, .null, .null, .null])), (mw, .inl (cI, 3, .inl (fun _ => 0))), (ms, .inl (cI, 40, .inl (fun _ => 0))), (ml, .inl (cI, 28, .inl (fun _ => 0))), (mh, .inl (cI, 6, .inl (fun _ => 0))), (mr, .inl (cI, 6, .inl (fun _ => 0)))] := hD
  refine W.widen (k := 5) (n := 83) (by decide) (by decide) ?_
  refine va_putF (D := D) (ci := 6) (v := .ref mr) (ty := .array .int) (C := RX6) (T := TX6) (N := 20) hx hb hts hiX6 tyX6 tyX6_ok nmX6 hown hKB.1 hP hD hS 0 rfl rfl 10 (by decide) fl22 (fun _ h9 => h9) rfl hnm rfl (by decide +kernel) rfl rfl (Nat.le_of_ble_eq_true rfl) dX6_init_40 (fun H locs hP hD hS => ?_)
  have hP : va_P D vwCl [(mq, .inr (6, [.ref mw, .int 0, .int 0, .int 0, .ref ms, .int 0, .ref ml, .int 0, .ref mh, .int 0, .ref mr, .int 0, .null, .long 0, .null, .null, .long 0, .null, .null, .null])), (mw, .inl (cI, 3, .inl (fun _ => 0))), (ms, .inl (cI, 40, .inl (fun _ => 0))), (ml, .inl (cI, 28, .inl (fun _ => 0))), (mh, .inl (cI, 6, .inl (fun _ => 0))), (mr, .inl (cI, 6, .inl (fun _ => 0)))] _ := hP
  have hD : va_D A [(mq, .inr (6, [.ref mw, .int 0, .int 0, .int 0, .ref ms, .int 0, .ref ml, .int 0, .ref mh, .int 0, .ref mr, .int 0, .null, .long 0, .null, .null, .long 0, .null, .null, .null])), (mw, .inl (cI, 3, .inl (fun _ => 0))), (ms, .inl (cI, 40, .inl (fun _ => 0))), (ml, .inl (cI, 28, .inl (fun _ => 0))), (mh, .inl (cI, 6, .inl (fun _ => 0))), (mr, .inl (cI, 6, .inl (fun _ => 0)))] := hD
  refine lv_aload_n hx hb dX6_init_43 rfl (lv_at hl 0 rfl) ?_
  refine lv_bipush (v := nI (64)) hx hb dX6_init_44 (by decide) ?_
  refine r_newJ (n := 64) hx hb acJ hKB.1 hP hD hS hA (by decide) (by decide) (Nat.le_of_ble_eq_true rfl) (Nat.le_of_ble_eq_true rfl) dX6_init_46 (fun mst H hP hD hS => ?_)
  have hP : va_P D vwCl [(mq, .inr (6, [.ref mw, .int 0, .int 0, .int 0, .ref ms, .int 0, .ref ml, .int 0, .ref mh, .int 0, .ref mr, .int 0, .null, .long 0, .null, .null, .long 0, .null, .null, .null])), (mw, .inl (cI, 3, .inl (fun _ => 0))), (ms, .inl (cI, 40, .inl (fun _ => 0))), (ml, .inl (cI, 28, .inl (fun _ => 0))), (mh, .inl (cI, 6, .inl (fun _ => 0))), (mr, .inl (cI, 6, .inl (fun _ => 0))), (mst, .inl (cJ, 64, .inr (.inl (fun _ => 0))))] _ := hP
  have hD : va_D A [(mq, .inr (6, [.ref mw, .int 0, .int 0, .int 0, .ref ms, .int 0, .ref ml, .int 0, .ref mh, .int 0, .ref mr, .int 0, .null, .long 0, .null, .null, .long 0, .null, .null, .null])), (mw, .inl (cI, 3, .inl (fun _ => 0))), (ms, .inl (cI, 40, .inl (fun _ => 0))), (ml, .inl (cI, 28, .inl (fun _ => 0))), (mh, .inl (cI, 6, .inl (fun _ => 0))), (mr, .inl (cI, 6, .inl (fun _ => 0))), (mst, .inl (cJ, 64, .inr (.inl (fun _ => 0))))] := hD
  refine W.widen (k := 6) (n := 147) (by decide) (by decide) ?_
  refine va_putF (D := D) (ci := 6) (v := .ref mst) (ty := .array .long) (C := RX6) (T := TX6) (N := 20) hx hb hts hiX6 tyX6 tyX6_ok nmX6 hown hKB.1 hP hD hS 0 rfl rfl 12 (by decide) fl25 (fun _ h9 => h9) rfl hnm rfl (by decide +kernel) rfl rfl (Nat.le_of_ble_eq_true rfl) dX6_init_48 (fun H locs hP hD hS => ?_)
  have hP : va_P D vwCl [(mq, .inr (6, [.ref mw, .int 0, .int 0, .int 0, .ref ms, .int 0, .ref ml, .int 0, .ref mh, .int 0, .ref mr, .int 0, .ref mst, .long 0, .null, .null, .long 0, .null, .null, .null])), (mw, .inl (cI, 3, .inl (fun _ => 0))), (ms, .inl (cI, 40, .inl (fun _ => 0))), (ml, .inl (cI, 28, .inl (fun _ => 0))), (mh, .inl (cI, 6, .inl (fun _ => 0))), (mr, .inl (cI, 6, .inl (fun _ => 0))), (mst, .inl (cJ, 64, .inr (.inl (fun _ => 0))))] _ := hP
  have hD : va_D A [(mq, .inr (6, [.ref mw, .int 0, .int 0, .int 0, .ref ms, .int 0, .ref ml, .int 0, .ref mh, .int 0, .ref mr, .int 0, .ref mst, .long 0, .null, .null, .long 0, .null, .null, .null])), (mw, .inl (cI, 3, .inl (fun _ => 0))), (ms, .inl (cI, 40, .inl (fun _ => 0))), (ml, .inl (cI, 28, .inl (fun _ => 0))), (mh, .inl (cI, 6, .inl (fun _ => 0))), (mr, .inl (cI, 6, .inl (fun _ => 0))), (mst, .inl (cJ, 64, .inr (.inl (fun _ => 0))))] := hD
  refine lv_aload_n hx hb dX6_init_51 rfl (lv_at hl 0 rfl) ?_
  refine lv_bipush (v := nI (8)) hx hb dX6_init_52 (by decide) ?_
  refine r_newJ (n := 8) hx hb acJ hKB.1 hP hD hS hA (by decide) (by decide) (Nat.le_of_ble_eq_true rfl) (Nat.le_of_ble_eq_true rfl) dX6_init_54 (fun mn H hP hD hS => ?_)
  have hP : va_P D vwCl [(mq, .inr (6, [.ref mw, .int 0, .int 0, .int 0, .ref ms, .int 0, .ref ml, .int 0, .ref mh, .int 0, .ref mr, .int 0, .ref mst, .long 0, .null, .null, .long 0, .null, .null, .null])), (mw, .inl (cI, 3, .inl (fun _ => 0))), (ms, .inl (cI, 40, .inl (fun _ => 0))), (ml, .inl (cI, 28, .inl (fun _ => 0))), (mh, .inl (cI, 6, .inl (fun _ => 0))), (mr, .inl (cI, 6, .inl (fun _ => 0))), (mst, .inl (cJ, 64, .inr (.inl (fun _ => 0)))), (mn, .inl (cJ, 8, .inr (.inl (fun _ => 0))))] _ := hP
  have hD : va_D A [(mq, .inr (6, [.ref mw, .int 0, .int 0, .int 0, .ref ms, .int 0, .ref ml, .int 0, .ref mh, .int 0, .ref mr, .int 0, .ref mst, .long 0, .null, .null, .long 0, .null, .null, .null])), (mw, .inl (cI, 3, .inl (fun _ => 0))), (ms, .inl (cI, 40, .inl (fun _ => 0))), (ml, .inl (cI, 28, .inl (fun _ => 0))), (mh, .inl (cI, 6, .inl (fun _ => 0))), (mr, .inl (cI, 6, .inl (fun _ => 0))), (mst, .inl (cJ, 64, .inr (.inl (fun _ => 0)))), (mn, .inl (cJ, 8, .inr (.inl (fun _ => 0))))] := hD
  refine W.widen (k := 7) (n := 155) (by decide) (by decide) ?_
  refine va_putF (D := D) (ci := 6) (v := .ref mn) (ty := .array .long) (C := RX6) (T := TX6) (N := 20) hx hb hts hiX6 tyX6 tyX6_ok nmX6 hown hKB.1 hP hD hS 0 rfl rfl 14 (by decide) fl29 (fun _ h9 => h9) rfl hnm rfl (by decide +kernel) rfl rfl (Nat.le_of_ble_eq_true rfl) dX6_init_56 (fun H locs hP hD hS => ?_)
  have hP : va_P D vwCl [(mq, .inr (6, [.ref mw, .int 0, .int 0, .int 0, .ref ms, .int 0, .ref ml, .int 0, .ref mh, .int 0, .ref mr, .int 0, .ref mst, .long 0, .ref mn, .null, .long 0, .null, .null, .null])), (mw, .inl (cI, 3, .inl (fun _ => 0))), (ms, .inl (cI, 40, .inl (fun _ => 0))), (ml, .inl (cI, 28, .inl (fun _ => 0))), (mh, .inl (cI, 6, .inl (fun _ => 0))), (mr, .inl (cI, 6, .inl (fun _ => 0))), (mst, .inl (cJ, 64, .inr (.inl (fun _ => 0)))), (mn, .inl (cJ, 8, .inr (.inl (fun _ => 0))))] _ := hP
  have hD : va_D A [(mq, .inr (6, [.ref mw, .int 0, .int 0, .int 0, .ref ms, .int 0, .ref ml, .int 0, .ref mh, .int 0, .ref mr, .int 0, .ref mst, .long 0, .ref mn, .null, .long 0, .null, .null, .null])), (mw, .inl (cI, 3, .inl (fun _ => 0))), (ms, .inl (cI, 40, .inl (fun _ => 0))), (ml, .inl (cI, 28, .inl (fun _ => 0))), (mh, .inl (cI, 6, .inl (fun _ => 0))), (mr, .inl (cI, 6, .inl (fun _ => 0))), (mst, .inl (cJ, 64, .inr (.inl (fun _ => 0)))), (mn, .inl (cJ, 8, .inr (.inl (fun _ => 0))))] := hD
  refine lv_aload_n hx hb dX6_init_59 rfl (lv_at hl 0 rfl) ?_
  refine lv_bipush (v := nI (8)) hx hb dX6_init_60 (by decide) ?_
  refine r_newJ (n := 8) hx hb acJ hKB.1 hP hD hS hA (by decide) (by decide) (Nat.le_of_ble_eq_true rfl) (Nat.le_of_ble_eq_true rfl) dX6_init_62 (fun mth H hP hD hS => ?_)
  have hP : va_P D vwCl [(mq, .inr (6, [.ref mw, .int 0, .int 0, .int 0, .ref ms, .int 0, .ref ml, .int 0, .ref mh, .int 0, .ref mr, .int 0, .ref mst, .long 0, .ref mn, .null, .long 0, .null, .null, .null])), (mw, .inl (cI, 3, .inl (fun _ => 0))), (ms, .inl (cI, 40, .inl (fun _ => 0))), (ml, .inl (cI, 28, .inl (fun _ => 0))), (mh, .inl (cI, 6, .inl (fun _ => 0))), (mr, .inl (cI, 6, .inl (fun _ => 0))), (mst, .inl (cJ, 64, .inr (.inl (fun _ => 0)))), (mn, .inl (cJ, 8, .inr (.inl (fun _ => 0)))), (mth, .inl (cJ, 8, .inr (.inl (fun _ => 0))))] _ := hP
  have hD : va_D A [(mq, .inr (6, [.ref mw, .int 0, .int 0, .int 0, .ref ms, .int 0, .ref ml, .int 0, .ref mh, .int 0, .ref mr, .int 0, .ref mst, .long 0, .ref mn, .null, .long 0, .null, .null, .null])), (mw, .inl (cI, 3, .inl (fun _ => 0))), (ms, .inl (cI, 40, .inl (fun _ => 0))), (ml, .inl (cI, 28, .inl (fun _ => 0))), (mh, .inl (cI, 6, .inl (fun _ => 0))), (mr, .inl (cI, 6, .inl (fun _ => 0))), (mst, .inl (cJ, 64, .inr (.inl (fun _ => 0)))), (mn, .inl (cJ, 8, .inr (.inl (fun _ => 0)))), (mth, .inl (cJ, 8, .inr (.inl (fun _ => 0))))] := hD
  refine W.widen (k := 8) (n := 163) (by decide) (by decide) ?_
  refine va_putF (D := D) (ci := 6) (v := .ref mth) (ty := .array .long) (C := RX6) (T := TX6) (N := 20) hx hb hts hiX6 tyX6 tyX6_ok nmX6 hown hKB.1 hP hD hS 0 rfl rfl 15 (by decide) fl32 (fun _ h9 => h9) rfl hnm rfl (by decide +kernel) rfl rfl (Nat.le_of_ble_eq_true rfl) dX6_init_64 (fun H locs hP hD hS => ?_)
  have hP : va_P D vwCl [(mq, .inr (6, [.ref mw, .int 0, .int 0, .int 0, .ref ms, .int 0, .ref ml, .int 0, .ref mh, .int 0, .ref mr, .int 0, .ref mst, .long 0, .ref mn, .ref mth, .long 0, .null, .null, .null])), (mw, .inl (cI, 3, .inl (fun _ => 0))), (ms, .inl (cI, 40, .inl (fun _ => 0))), (ml, .inl (cI, 28, .inl (fun _ => 0))), (mh, .inl (cI, 6, .inl (fun _ => 0))), (mr, .inl (cI, 6, .inl (fun _ => 0))), (mst, .inl (cJ, 64, .inr (.inl (fun _ => 0)))), (mn, .inl (cJ, 8, .inr (.inl (fun _ => 0)))), (mth, .inl (cJ, 8, .inr (.inl (fun _ => 0))))] _ := hP
  have hD : va_D A [(mq, .inr (6, [.ref mw, .int 0, .int 0, .int 0, .ref ms, .int 0, .ref ml, .int 0, .ref mh, .int 0, .ref mr, .int 0, .ref mst, .long 0, .ref mn, .ref mth, .long 0, .null, .null, .null])), (mw, .inl (cI, 3, .inl (fun _ => 0))), (ms, .inl (cI, 40, .inl (fun _ => 0))), (ml, .inl (cI, 28, .inl (fun _ => 0))), (mh, .inl (cI, 6, .inl (fun _ => 0))), (mr, .inl (cI, 6, .inl (fun _ => 0))), (mst, .inl (cJ, 64, .inr (.inl (fun _ => 0)))), (mn, .inl (cJ, 8, .inr (.inl (fun _ => 0)))), (mth, .inl (cJ, 8, .inr (.inl (fun _ => 0))))] := hD
  refine lv_aload_n hx hb dX6_init_67 rfl (lv_at hl 0 rfl) ?_
  refine lv_bipush (v := nI (8)) hx hb dX6_init_68 (by decide) ?_
  refine r_newI (n := 8) hx hb acI hKB.1 hP hD hS hA (by decide) (by decide) (Nat.le_of_ble_eq_true rfl) (Nat.le_of_ble_eq_true rfl) dX6_init_70 (fun mld H hP hD hS => ?_)
  have hP : va_P D vwCl [(mq, .inr (6, [.ref mw, .int 0, .int 0, .int 0, .ref ms, .int 0, .ref ml, .int 0, .ref mh, .int 0, .ref mr, .int 0, .ref mst, .long 0, .ref mn, .ref mth, .long 0, .null, .null, .null])), (mw, .inl (cI, 3, .inl (fun _ => 0))), (ms, .inl (cI, 40, .inl (fun _ => 0))), (ml, .inl (cI, 28, .inl (fun _ => 0))), (mh, .inl (cI, 6, .inl (fun _ => 0))), (mr, .inl (cI, 6, .inl (fun _ => 0))), (mst, .inl (cJ, 64, .inr (.inl (fun _ => 0)))), (mn, .inl (cJ, 8, .inr (.inl (fun _ => 0)))), (mth, .inl (cJ, 8, .inr (.inl (fun _ => 0)))), (mld, .inl (cI, 8, .inl (fun _ => 0)))] _ := hP
  have hD : va_D A [(mq, .inr (6, [.ref mw, .int 0, .int 0, .int 0, .ref ms, .int 0, .ref ml, .int 0, .ref mh, .int 0, .ref mr, .int 0, .ref mst, .long 0, .ref mn, .ref mth, .long 0, .null, .null, .null])), (mw, .inl (cI, 3, .inl (fun _ => 0))), (ms, .inl (cI, 40, .inl (fun _ => 0))), (ml, .inl (cI, 28, .inl (fun _ => 0))), (mh, .inl (cI, 6, .inl (fun _ => 0))), (mr, .inl (cI, 6, .inl (fun _ => 0))), (mst, .inl (cJ, 64, .inr (.inl (fun _ => 0)))), (mn, .inl (cJ, 8, .inr (.inl (fun _ => 0)))), (mth, .inl (cJ, 8, .inr (.inl (fun _ => 0)))), (mld, .inl (cI, 8, .inl (fun _ => 0)))] := hD
  refine W.widen (k := 9) (n := 171) (by decide) (by decide) ?_
  refine va_putF (D := D) (ci := 6) (v := .ref mld) (ty := .array .int) (C := RX6) (T := TX6) (N := 20) hx hb hts hiX6 tyX6 tyX6_ok nmX6 hown hKB.1 hP hD hS 0 rfl rfl 17 (by decide) fl35 (fun _ h9 => h9) rfl hnm rfl (by decide +kernel) rfl rfl (Nat.le_of_ble_eq_true rfl) dX6_init_72 (fun H locs hP hD hS => ?_)
  have hP : va_P D vwCl [(mq, .inr (6, [.ref mw, .int 0, .int 0, .int 0, .ref ms, .int 0, .ref ml, .int 0, .ref mh, .int 0, .ref mr, .int 0, .ref mst, .long 0, .ref mn, .ref mth, .long 0, .ref mld, .null, .null])), (mw, .inl (cI, 3, .inl (fun _ => 0))), (ms, .inl (cI, 40, .inl (fun _ => 0))), (ml, .inl (cI, 28, .inl (fun _ => 0))), (mh, .inl (cI, 6, .inl (fun _ => 0))), (mr, .inl (cI, 6, .inl (fun _ => 0))), (mst, .inl (cJ, 64, .inr (.inl (fun _ => 0)))), (mn, .inl (cJ, 8, .inr (.inl (fun _ => 0)))), (mth, .inl (cJ, 8, .inr (.inl (fun _ => 0)))), (mld, .inl (cI, 8, .inl (fun _ => 0)))] _ := hP
  have hD : va_D A [(mq, .inr (6, [.ref mw, .int 0, .int 0, .int 0, .ref ms, .int 0, .ref ml, .int 0, .ref mh, .int 0, .ref mr, .int 0, .ref mst, .long 0, .ref mn, .ref mth, .long 0, .ref mld, .null, .null])), (mw, .inl (cI, 3, .inl (fun _ => 0))), (ms, .inl (cI, 40, .inl (fun _ => 0))), (ml, .inl (cI, 28, .inl (fun _ => 0))), (mh, .inl (cI, 6, .inl (fun _ => 0))), (mr, .inl (cI, 6, .inl (fun _ => 0))), (mst, .inl (cJ, 64, .inr (.inl (fun _ => 0)))), (mn, .inl (cJ, 8, .inr (.inl (fun _ => 0)))), (mth, .inl (cJ, 8, .inr (.inl (fun _ => 0)))), (mld, .inl (cI, 8, .inl (fun _ => 0)))] := hD
  refine lv_aload_n hx hb dX6_init_75 rfl (lv_at hl 0 rfl) ?_
  refine lv_iconst (v := nI (4)) hx hb dX6_init_76 (by decide) ?_
  refine r_newI (n := 4) hx hb acI hKB.1 hP hD hS hA (by decide) (by decide) (Nat.le_of_ble_eq_true rfl) (Nat.le_of_ble_eq_true rfl) dX6_init_77 (fun mpk H hP hD hS => ?_)
  have hP : va_P D vwCl [(mq, .inr (6, [.ref mw, .int 0, .int 0, .int 0, .ref ms, .int 0, .ref ml, .int 0, .ref mh, .int 0, .ref mr, .int 0, .ref mst, .long 0, .ref mn, .ref mth, .long 0, .ref mld, .null, .null])), (mw, .inl (cI, 3, .inl (fun _ => 0))), (ms, .inl (cI, 40, .inl (fun _ => 0))), (ml, .inl (cI, 28, .inl (fun _ => 0))), (mh, .inl (cI, 6, .inl (fun _ => 0))), (mr, .inl (cI, 6, .inl (fun _ => 0))), (mst, .inl (cJ, 64, .inr (.inl (fun _ => 0)))), (mn, .inl (cJ, 8, .inr (.inl (fun _ => 0)))), (mth, .inl (cJ, 8, .inr (.inl (fun _ => 0)))), (mld, .inl (cI, 8, .inl (fun _ => 0))), (mpk, .inl (cI, 4, .inl (fun _ => 0)))] _ := hP
  have hD : va_D A [(mq, .inr (6, [.ref mw, .int 0, .int 0, .int 0, .ref ms, .int 0, .ref ml, .int 0, .ref mh, .int 0, .ref mr, .int 0, .ref mst, .long 0, .ref mn, .ref mth, .long 0, .ref mld, .null, .null])), (mw, .inl (cI, 3, .inl (fun _ => 0))), (ms, .inl (cI, 40, .inl (fun _ => 0))), (ml, .inl (cI, 28, .inl (fun _ => 0))), (mh, .inl (cI, 6, .inl (fun _ => 0))), (mr, .inl (cI, 6, .inl (fun _ => 0))), (mst, .inl (cJ, 64, .inr (.inl (fun _ => 0)))), (mn, .inl (cJ, 8, .inr (.inl (fun _ => 0)))), (mth, .inl (cJ, 8, .inr (.inl (fun _ => 0)))), (mld, .inl (cI, 8, .inl (fun _ => 0))), (mpk, .inl (cI, 4, .inl (fun _ => 0)))] := hD
  refine W.widen (k := 10) (n := 175) (by decide) (by decide) ?_
  refine va_putF (D := D) (ci := 6) (v := .ref mpk) (ty := .array .int) (C := RX6) (T := TX6) (N := 20) hx hb hts hiX6 tyX6 tyX6_ok nmX6 hown hKB.1 hP hD hS 0 rfl rfl 18 (by decide) fl38 (fun _ h9 => h9) rfl hnm rfl (by decide +kernel) rfl rfl (Nat.le_of_ble_eq_true rfl) dX6_init_79 (fun H locs hP hD hS => ?_)
  have hP : va_P D vwCl [(mq, .inr (6, [.ref mw, .int 0, .int 0, .int 0, .ref ms, .int 0, .ref ml, .int 0, .ref mh, .int 0, .ref mr, .int 0, .ref mst, .long 0, .ref mn, .ref mth, .long 0, .ref mld, .ref mpk, .null])), (mw, .inl (cI, 3, .inl (fun _ => 0))), (ms, .inl (cI, 40, .inl (fun _ => 0))), (ml, .inl (cI, 28, .inl (fun _ => 0))), (mh, .inl (cI, 6, .inl (fun _ => 0))), (mr, .inl (cI, 6, .inl (fun _ => 0))), (mst, .inl (cJ, 64, .inr (.inl (fun _ => 0)))), (mn, .inl (cJ, 8, .inr (.inl (fun _ => 0)))), (mth, .inl (cJ, 8, .inr (.inl (fun _ => 0)))), (mld, .inl (cI, 8, .inl (fun _ => 0))), (mpk, .inl (cI, 4, .inl (fun _ => 0)))] _ := hP
  have hD : va_D A [(mq, .inr (6, [.ref mw, .int 0, .int 0, .int 0, .ref ms, .int 0, .ref ml, .int 0, .ref mh, .int 0, .ref mr, .int 0, .ref mst, .long 0, .ref mn, .ref mth, .long 0, .ref mld, .ref mpk, .null])), (mw, .inl (cI, 3, .inl (fun _ => 0))), (ms, .inl (cI, 40, .inl (fun _ => 0))), (ml, .inl (cI, 28, .inl (fun _ => 0))), (mh, .inl (cI, 6, .inl (fun _ => 0))), (mr, .inl (cI, 6, .inl (fun _ => 0))), (mst, .inl (cJ, 64, .inr (.inl (fun _ => 0)))), (mn, .inl (cJ, 8, .inr (.inl (fun _ => 0)))), (mth, .inl (cJ, 8, .inr (.inl (fun _ => 0)))), (mld, .inl (cI, 8, .inl (fun _ => 0))), (mpk, .inl (cI, 4, .inl (fun _ => 0)))] := hD
  refine lv_aload_n hx hb dX6_init_82 rfl (lv_at hl 0 rfl) ?_
  refine lv_bipush (v := nI (8)) hx hb dX6_init_83 (by decide) ?_
  refine r_newJ (n := 8) hx hb acJ hKB.1 hP hD hS hA (by decide) (by decide) (Nat.le_of_ble_eq_true rfl) (Nat.le_of_ble_eq_true rfl) dX6_init_85 (fun mcm H hP hD hS => ?_)
  have hP : va_P D vwCl [(mq, .inr (6, [.ref mw, .int 0, .int 0, .int 0, .ref ms, .int 0, .ref ml, .int 0, .ref mh, .int 0, .ref mr, .int 0, .ref mst, .long 0, .ref mn, .ref mth, .long 0, .ref mld, .ref mpk, .null])), (mw, .inl (cI, 3, .inl (fun _ => 0))), (ms, .inl (cI, 40, .inl (fun _ => 0))), (ml, .inl (cI, 28, .inl (fun _ => 0))), (mh, .inl (cI, 6, .inl (fun _ => 0))), (mr, .inl (cI, 6, .inl (fun _ => 0))), (mst, .inl (cJ, 64, .inr (.inl (fun _ => 0)))), (mn, .inl (cJ, 8, .inr (.inl (fun _ => 0)))), (mth, .inl (cJ, 8, .inr (.inl (fun _ => 0)))), (mld, .inl (cI, 8, .inl (fun _ => 0))), (mpk, .inl (cI, 4, .inl (fun _ => 0))), (mcm, .inl (cJ, 8, .inr (.inl (fun _ => 0))))] _ := hP
  have hD : va_D A [(mq, .inr (6, [.ref mw, .int 0, .int 0, .int 0, .ref ms, .int 0, .ref ml, .int 0, .ref mh, .int 0, .ref mr, .int 0, .ref mst, .long 0, .ref mn, .ref mth, .long 0, .ref mld, .ref mpk, .null])), (mw, .inl (cI, 3, .inl (fun _ => 0))), (ms, .inl (cI, 40, .inl (fun _ => 0))), (ml, .inl (cI, 28, .inl (fun _ => 0))), (mh, .inl (cI, 6, .inl (fun _ => 0))), (mr, .inl (cI, 6, .inl (fun _ => 0))), (mst, .inl (cJ, 64, .inr (.inl (fun _ => 0)))), (mn, .inl (cJ, 8, .inr (.inl (fun _ => 0)))), (mth, .inl (cJ, 8, .inr (.inl (fun _ => 0)))), (mld, .inl (cI, 8, .inl (fun _ => 0))), (mpk, .inl (cI, 4, .inl (fun _ => 0))), (mcm, .inl (cJ, 8, .inr (.inl (fun _ => 0))))] := hD
  refine W.widen (k := 11) (n := 183) (by decide) (by decide) ?_
  refine va_putF (D := D) (ci := 6) (v := .ref mcm) (ty := .array .long) (C := RX6) (T := TX6) (N := 20) hx hb hts hiX6 tyX6 tyX6_ok nmX6 hown hKB.1 hP hD hS 0 rfl rfl 19 (by decide) fl41 (fun _ h9 => h9) rfl hnm rfl (by decide +kernel) rfl rfl (Nat.le_of_ble_eq_true rfl) dX6_init_87 (fun H locs hP hD hS => ?_)
  have hP : va_P D vwCl [(mq, .inr (6, [.ref mw, .int 0, .int 0, .int 0, .ref ms, .int 0, .ref ml, .int 0, .ref mh, .int 0, .ref mr, .int 0, .ref mst, .long 0, .ref mn, .ref mth, .long 0, .ref mld, .ref mpk, .ref mcm])), (mw, .inl (cI, 3, .inl (fun _ => 0))), (ms, .inl (cI, 40, .inl (fun _ => 0))), (ml, .inl (cI, 28, .inl (fun _ => 0))), (mh, .inl (cI, 6, .inl (fun _ => 0))), (mr, .inl (cI, 6, .inl (fun _ => 0))), (mst, .inl (cJ, 64, .inr (.inl (fun _ => 0)))), (mn, .inl (cJ, 8, .inr (.inl (fun _ => 0)))), (mth, .inl (cJ, 8, .inr (.inl (fun _ => 0)))), (mld, .inl (cI, 8, .inl (fun _ => 0))), (mpk, .inl (cI, 4, .inl (fun _ => 0))), (mcm, .inl (cJ, 8, .inr (.inl (fun _ => 0))))] _ := hP
  have hD : va_D A [(mq, .inr (6, [.ref mw, .int 0, .int 0, .int 0, .ref ms, .int 0, .ref ml, .int 0, .ref mh, .int 0, .ref mr, .int 0, .ref mst, .long 0, .ref mn, .ref mth, .long 0, .ref mld, .ref mpk, .ref mcm])), (mw, .inl (cI, 3, .inl (fun _ => 0))), (ms, .inl (cI, 40, .inl (fun _ => 0))), (ml, .inl (cI, 28, .inl (fun _ => 0))), (mh, .inl (cI, 6, .inl (fun _ => 0))), (mr, .inl (cI, 6, .inl (fun _ => 0))), (mst, .inl (cJ, 64, .inr (.inl (fun _ => 0)))), (mn, .inl (cJ, 8, .inr (.inl (fun _ => 0)))), (mth, .inl (cJ, 8, .inr (.inl (fun _ => 0)))), (mld, .inl (cI, 8, .inl (fun _ => 0))), (mpk, .inl (cI, 4, .inl (fun _ => 0))), (mcm, .inl (cJ, 8, .inr (.inl (fun _ => 0))))] := hD
  refine lv_iconst (v := nI (0)) hx hb dX6_init_90 (by decide) ?_
  refine lv_istore_n (lv' := [(1, .int (nI 0)), (0, .ref mq)]) hx hb dX6_init_91 rfl hl (by decide) rfl (fun ls hl => ?_)
  have L92 : ∀ (n : Nat) (k : Nat) (f1 : Nat → Nat) (H : Heap) (locs : List Loc) (ls : Array Slot), 3 - k < n → (k ≤ 3) → (∀ j, j < k → f1 j = 1) → va_P D vwCl [(mq, .inr (6, [.ref mw, .int 0, .int 0, .int 0, .ref ms, .int 0, .ref ml, .int 0, .ref mh, .int 0, .ref mr, .int 0, .ref mst, .long 0, .ref mn, .ref mth, .long 0, .ref mld, .ref mpk, .ref mcm])), (mw, .inl (cI, 3, .inl (nF f1))), (ms, .inl (cI, 40, .inl (fun _ => 0))), (ml, .inl (cI, 28, .inl (fun _ => 0))), (mh, .inl (cI, 6, .inl (fun _ => 0))), (mr, .inl (cI, 6, .inl (fun _ => 0))), (mst, .inl (cJ, 64, .inr (.inl (fun _ => 0)))), (mn, .inl (cJ, 8, .inr (.inl (fun _ => 0)))), (mth, .inl (cJ, 8, .inr (.inl (fun _ => 0)))), (mld, .inl (cI, 8, .inl (fun _ => 0))), (mpk, .inl (cI, 4, .inl (fun _ => 0))), (mcm, .inl (cJ, 8, .inr (.inl (fun _ => 0))))] H → va_D A [(mq, .inr (6, [.ref mw, .int 0, .int 0, .int 0, .ref ms, .int 0, .ref ml, .int 0, .ref mh, .int 0, .ref mr, .int 0, .ref mst, .long 0, .ref mn, .ref mth, .long 0, .ref mld, .ref mpk, .ref mcm])), (mw, .inl (cI, 3, .inl (nF f1))), (ms, .inl (cI, 40, .inl (fun _ => 0))), (ml, .inl (cI, 28, .inl (fun _ => 0))), (mh, .inl (cI, 6, .inl (fun _ => 0))), (mr, .inl (cI, 6, .inl (fun _ => 0))), (mst, .inl (cJ, 64, .inr (.inl (fun _ => 0)))), (mn, .inl (cJ, 8, .inr (.inl (fun _ => 0)))), (mth, .inl (cJ, 8, .inr (.inl (fun _ => 0)))), (mld, .inl (cI, 8, .inl (fun _ => 0))), (mpk, .inl (cI, 4, .inl (fun _ => 0))), (mcm, .inl (cJ, 8, .inr (.inl (fun _ => 0))))] → va_S A s.heap H locs → lv_has ls 2 [(1, .int (nI k)), (0, .ref mq)] → W p l e ({ frames := 1, cells := 11, slots := 187, locals := 12 }) s m args below meth c H locs 11 183 Q (F0 m 92 ls []) := by
    intro n
    induction n with
    | zero => intro k f1 H locs ls hm; exact absurd hm (Nat.not_lt_zero _)
    | succ n ih92 =>
      intro k f1 H locs ls hm hk hf hP hD hS hl
      refine lv_iload_n hx hb dX6_init_92 rfl (lv_at hl 0 rfl) ?_
      refine lv_iconst (v := nI (3)) hx hb dX6_init_93 (by decide) ?_
      refine r_icmp_ge (a := k) (b := 3) (tgt := 110) hx hb dX6_init_94 (by decide) (by omega) (by omega)  (fun c94 => ?_) (fun c94 => ?_)
      · skip
        have hP := P_arrI hP 1 (g := (nF (fun _ => 1))) rfl (fun j hj => congrArg nI (hf j (by omega)))
        have hD := D_arrI hD 1 (g := (nF (fun _ => 1))) rfl
        have hP : va_P D vwCl [(mq, .inr (6, [.ref mw, .int 0, .int 0, .int 0, .ref ms, .int 0, .ref ml, .int 0, .ref mh, .int 0, .ref mr, .int 0, .ref mst, .long 0, .ref mn, .ref mth, .long 0, .ref mld, .ref mpk, .ref mcm])), (mw, .inl (cI, 3, .inl (nF (fun _ => 1)))), (ms, .inl (cI, 40, .inl (fun _ => 0))), (ml, .inl (cI, 28, .inl (fun _ => 0))), (mh, .inl (cI, 6, .inl (fun _ => 0))), (mr, .inl (cI, 6, .inl (fun _ => 0))), (mst, .inl (cJ, 64, .inr (.inl (fun _ => 0)))), (mn, .inl (cJ, 8, .inr (.inl (fun _ => 0)))), (mth, .inl (cJ, 8, .inr (.inl (fun _ => 0)))), (mld, .inl (cI, 8, .inl (fun _ => 0))), (mpk, .inl (cI, 4, .inl (fun _ => 0))), (mcm, .inl (cJ, 8, .inr (.inl (fun _ => 0))))] _ := hP
        have hD : va_D A [(mq, .inr (6, [.ref mw, .int 0, .int 0, .int 0, .ref ms, .int 0, .ref ml, .int 0, .ref mh, .int 0, .ref mr, .int 0, .ref mst, .long 0, .ref mn, .ref mth, .long 0, .ref mld, .ref mpk, .ref mcm])), (mw, .inl (cI, 3, .inl (nF (fun _ => 1)))), (ms, .inl (cI, 40, .inl (fun _ => 0))), (ml, .inl (cI, 28, .inl (fun _ => 0))), (mh, .inl (cI, 6, .inl (fun _ => 0))), (mr, .inl (cI, 6, .inl (fun _ => 0))), (mst, .inl (cJ, 64, .inr (.inl (fun _ => 0)))), (mn, .inl (cJ, 8, .inr (.inl (fun _ => 0)))), (mth, .inl (cJ, 8, .inr (.inl (fun _ => 0)))), (mld, .inl (cI, 8, .inl (fun _ => 0))), (mpk, .inl (cI, 4, .inl (fun _ => 0))), (mcm, .inl (cJ, 8, .inr (.inl (fun _ => 0))))] := hD
        refine lv_aload_n hx hb dX6_init_110 rfl (lv_at hl 1 rfl) ?_
        refine lv_iconst (v := nI (1)) hx hb dX6_init_111 (by decide) ?_
        refine va_put (D := D) (ci := 6) (v := .int (nI 1)) (ty := .int) (C := RX6) (T := TX6) (N := 20) hx hb hts hiX6 tyX6 tyX6_ok nmX6 hown hKB.1 hP hD hS 0 rfl rfl 1 (by decide) fl44 (fun _ h9 => h9) rfl (by decide +kernel) rfl rfl (Nat.le_of_ble_eq_true rfl) dX6_init_112 (fun H locs hP hD hS => ?_)
        have hP : va_P D vwCl [(mq, .inr (6, [.ref mw, .int (nI 1), .int 0, .int 0, .ref ms, .int 0, .ref ml, .int 0, .ref mh, .int 0, .ref mr, .int 0, .ref mst, .long 0, .ref mn, .ref mth, .long 0, .ref mld, .ref mpk, .ref mcm])), (mw, .inl (cI, 3, .inl (nF (fun _ => 1)))), (ms, .inl (cI, 40, .inl (fun _ => 0))), (ml, .inl (cI, 28, .inl (fun _ => 0))), (mh, .inl (cI, 6, .inl (fun _ => 0))), (mr, .inl (cI, 6, .inl (fun _ => 0))), (mst, .inl (cJ, 64, .inr (.inl (fun _ => 0)))), (mn, .inl (cJ, 8, .inr (.inl (fun _ => 0)))), (mth, .inl (cJ, 8, .inr (.inl (fun _ => 0)))), (mld, .inl (cI, 8, .inl (fun _ => 0))), (mpk, .inl (cI, 4, .inl (fun _ => 0))), (mcm, .inl (cJ, 8, .inr (.inl (fun _ => 0))))] _ := hP
        have hD : va_D A [(mq, .inr (6, [.ref mw, .int (nI 1), .int 0, .int 0, .ref ms, .int 0, .ref ml, .int 0, .ref mh, .int 0, .ref mr, .int 0, .ref mst, .long 0, .ref mn, .ref mth, .long 0, .ref mld, .ref mpk, .ref mcm])), (mw, .inl (cI, 3, .inl (nF (fun _ => 1)))), (ms, .inl (cI, 40, .inl (fun _ => 0))), (ml, .inl (cI, 28, .inl (fun _ => 0))), (mh, .inl (cI, 6, .inl (fun _ => 0))), (mr, .inl (cI, 6, .inl (fun _ => 0))), (mst, .inl (cJ, 64, .inr (.inl (fun _ => 0)))), (mn, .inl (cJ, 8, .inr (.inl (fun _ => 0)))), (mth, .inl (cJ, 8, .inr (.inl (fun _ => 0)))), (mld, .inl (cI, 8, .inl (fun _ => 0))), (mpk, .inl (cI, 4, .inl (fun _ => 0))), (mcm, .inl (cJ, 8, .inr (.inl (fun _ => 0))))] := hD
        refine lv_aload_n hx hb dX6_init_115 rfl (lv_at hl 1 rfl) ?_
        refine lv_iconst (v := nI (2)) hx hb dX6_init_116 (by decide) ?_
        refine va_put (D := D) (ci := 6) (v := .int (nI 2)) (ty := .int) (C := RX6) (T := TX6) (N := 20) hx hb hts hiX6 tyX6 tyX6_ok nmX6 hown hKB.1 hP hD hS 0 rfl rfl 2 (by decide) fl48 (fun _ h9 => h9) rfl (by decide +kernel) rfl rfl (Nat.le_of_ble_eq_true rfl) dX6_init_117 (fun H locs hP hD hS => ?_)
        have hP : va_P D vwCl [(mq, .inr (6, [.ref mw, .int (nI 1), .int (nI 2), .int 0, .ref ms, .int 0, .ref ml, .int 0, .ref mh, .int 0, .ref mr, .int 0, .ref mst, .long 0, .ref mn, .ref mth, .long 0, .ref mld, .ref mpk, .ref mcm])), (mw, .inl (cI, 3, .inl (nF (fun _ => 1)))), (ms, .inl (cI, 40, .inl (fun _ => 0))), (ml, .inl (cI, 28, .inl (fun _ => 0))), (mh, .inl (cI, 6, .inl (fun _ => 0))), (mr, .inl (cI, 6, .inl (fun _ => 0))), (mst, .inl (cJ, 64, .inr (.inl (fun _ => 0)))), (mn, .inl (cJ, 8, .inr (.inl (fun _ => 0)))), (mth, .inl (cJ, 8, .inr (.inl (fun _ => 0)))), (mld, .inl (cI, 8, .inl (fun _ => 0))), (mpk, .inl (cI, 4, .inl (fun _ => 0))), (mcm, .inl (cJ, 8, .inr (.inl (fun _ => 0))))] _ := hP
        have hD : va_D A [(mq, .inr (6, [.ref mw, .int (nI 1), .int (nI 2), .int 0, .ref ms, .int 0, .ref ml, .int 0, .ref mh, .int 0, .ref mr, .int 0, .ref mst, .long 0, .ref mn, .ref mth, .long 0, .ref mld, .ref mpk, .ref mcm])), (mw, .inl (cI, 3, .inl (nF (fun _ => 1)))), (ms, .inl (cI, 40, .inl (fun _ => 0))), (ml, .inl (cI, 28, .inl (fun _ => 0))), (mh, .inl (cI, 6, .inl (fun _ => 0))), (mr, .inl (cI, 6, .inl (fun _ => 0))), (mst, .inl (cJ, 64, .inr (.inl (fun _ => 0)))), (mn, .inl (cJ, 8, .inr (.inl (fun _ => 0)))), (mth, .inl (cJ, 8, .inr (.inl (fun _ => 0)))), (mld, .inl (cI, 8, .inl (fun _ => 0))), (mpk, .inl (cI, 4, .inl (fun _ => 0))), (mcm, .inl (cJ, 8, .inr (.inl (fun _ => 0))))] := hD
        refine W.widen (k := 11) (n := 187) (by decide) (by decide) ?_
        exact w_vret hx hb hr hlk hQ hAe (mw, ms, ml, mh, mr, mst, mn, mth, mld, mpk, mcm) hP hD hS (trivial) dX6_init_120
      refine lv_aload_n hx hb dX6_init_97 rfl (lv_at hl 1 rfl) ?_
      refine va_get (D := D) (ci := 6) (v := .ref mw) (C := RX6) (T := TX6) (N := 20) hx hb hts hiX6 hown hKB.1 hP 0 rfl rfl 0 (by decide) fl7 (fun _ h9 => h9) rfl dX6_init_98 ?_
      refine lv_iload_n hx hb dX6_init_101 rfl (lv_at hl 0 rfl) ?_
      refine lv_iconst (v := nI (1)) hx hb dX6_init_102 (by decide) ?_
      refine r_iastN (i := k) hx hb hKB.1 hP hD hS 1 0 rfl rfl (by omega) (by decide) dX6_init_103 (fun H locs hP hD hS => ?_)
      have hP : va_P D vwCl [(mq, .inr (6, [.ref mw, .int 0, .int 0, .int 0, .ref ms, .int 0, .ref ml, .int 0, .ref mh, .int 0, .ref mr, .int 0, .ref mst, .long 0, .ref mn, .ref mth, .long 0, .ref mld, .ref mpk, .ref mcm])), (mw, .inl (cI, 3, .inl (nF (nu f1 k 1)))), (ms, .inl (cI, 40, .inl (fun _ => 0))), (ml, .inl (cI, 28, .inl (fun _ => 0))), (mh, .inl (cI, 6, .inl (fun _ => 0))), (mr, .inl (cI, 6, .inl (fun _ => 0))), (mst, .inl (cJ, 64, .inr (.inl (fun _ => 0)))), (mn, .inl (cJ, 8, .inr (.inl (fun _ => 0)))), (mth, .inl (cJ, 8, .inr (.inl (fun _ => 0)))), (mld, .inl (cI, 8, .inl (fun _ => 0))), (mpk, .inl (cI, 4, .inl (fun _ => 0))), (mcm, .inl (cJ, 8, .inr (.inl (fun _ => 0))))] _ := hP
      have hD : va_D A [(mq, .inr (6, [.ref mw, .int 0, .int 0, .int 0, .ref ms, .int 0, .ref ml, .int 0, .ref mh, .int 0, .ref mr, .int 0, .ref mst, .long 0, .ref mn, .ref mth, .long 0, .ref mld, .ref mpk, .ref mcm])), (mw, .inl (cI, 3, .inl (nF (nu f1 k 1)))), (ms, .inl (cI, 40, .inl (fun _ => 0))), (ml, .inl (cI, 28, .inl (fun _ => 0))), (mh, .inl (cI, 6, .inl (fun _ => 0))), (mr, .inl (cI, 6, .inl (fun _ => 0))), (mst, .inl (cJ, 64, .inr (.inl (fun _ => 0)))), (mn, .inl (cJ, 8, .inr (.inl (fun _ => 0)))), (mth, .inl (cJ, 8, .inr (.inl (fun _ => 0)))), (mld, .inl (cI, 8, .inl (fun _ => 0))), (mpk, .inl (cI, 4, .inl (fun _ => 0))), (mcm, .inl (cJ, 8, .inr (.inl (fun _ => 0))))] := hD
      refine lv_iinc (v := nI (k + 1)) (lv' := [(1, .int (nI (k + 1))), (0, .ref mq)]) hx hb dX6_init_104 hl (k := 0) rfl (n_inc _ 1) (by decide) rfl (fun ls hl => ?_)
      refine lv_goto (tgt := 92) hx hb dX6_init_107 (by decide) ?_
      exact ih92 (k + 1) (nu f1 k 1) _ _ _ (by omega) (by omega) (ag_s (g := fun _ => 1) hf rfl) hP hD hS hl
  exact L92 (3 - 0 + 1) 0 (fun _ => 0) _ _ _ (Nat.lt_succ_self _) (by omega) (fun j hj => absurd hj (Nat.not_lt_zero j)) hP hD hS hl

set_option maxHeartbeats 4000000 in
set_option maxRecDepth 100000 in
theorem m_X6_weight (l : Launch) (D : va_G) (cI cJ : ClassId) (sz : Nat) (mq : Nat) (mw : Nat) (slip : Nat) (h : Nat) (kd : Nat) (ms : Nat) (cnt : Nat) (ml : Nat) (nl : Nat) (mh : Nat) (hn : Nat) (mr : Nat) (rm : Nat) (mst : Nat) (lo : Nat) (mn : Nat) (mth : Nat) (lon : Nat) (mld : Nat) (mpk : Nat) (mcm : Nat) (w : Nat → Nat) (p0 : Int32) (p1 : Int32) : Met l yX6_weight wsX6_weight ({ frames := 2, cells := 0, slots := 0, locals := 45 }) (PX D cI cJ [(mq, .inr (6, [.ref mw, .int (nI slip), .int (nI h), .int (nI kd), .ref ms, .int (nI cnt), .ref ml, .int (nI nl), .ref mh, .int (nI hn), .ref mr, .int (nI rm), .ref mst, .long (lN lo), .ref mn, .ref mth, .long (lN lon), .ref mld, .ref mpk, .ref mcm])), (mw, .inl (cI, 3, .inl (nF w)))] sz [.ref mq, .int p0, .int p1]) (QWi D (S := Nat → Nat) [(mq, .inr (6, [.ref mw, .int (nI slip), .int (nI h), .int (nI kd), .ref ms, .int (nI cnt), .ref ml, .int (nI nl), .ref mh, .int (nI hn), .ref mr, .int (nI rm), .ref mst, .long (lN lo), .ref mn, .ref mth, .long (lN lon), .ref mld, .ref mpk, .ref mcm])), (mw, .inl (cI, 3, .inl (nF w)))] sz (fun r u => r = aWt w p0 p1 ∧ u = uWt w p0 p1) (fun w9 => [(mq, .inr (6, [.ref mw, .int (nI slip), .int (nI h), .int (nI kd), .ref ms, .int (nI cnt), .ref ml, .int (nI nl), .ref mh, .int (nI hn), .ref mr, .int (nI rm), .ref mst, .long (lN lo), .ref mn, .ref mth, .long (lN lon), .ref mld, .ref mpk, .ref mcm])), (mw, .inl (cI, 3, .inl (nF w9)))])) 0 0 (va_A [(mq, .inr (6, [.ref mw, .int (nI slip), .int (nI h), .int (nI kd), .ref ms, .int (nI cnt), .ref ml, .int (nI nl), .ref mh, .int (nI hn), .ref mr, .int (nI rm), .ref mst, .long (lN lo), .ref mn, .ref mth, .long (lN lon), .ref mld, .ref mpk, .ref mcm])), (mw, .inl (cI, 3, .inl (nF w)))] sz) := by
  refine met_X (cc := cX6_weight) (maxL := 4) (ret := (some .int)) (by decide) rfl (Nat.le_of_ble_eq_true rfl) ?_
  intro p e s m args below meth c Q ls A hQ hAe hAt hKB hP hD hA hl
  obtain ⟨hx, hb, hr, hml, hlk, hts, hown, hnm⟩ := hAt
  have hown : s.vm.findClass RX6 = some m.cls := hown
  have hS : va_S A s.heap s.heap [] := va_S.rf
  have hl : lv_has ls 4 [(0, .ref mq), (1, .int p0), (2, .int p1)] := hl
  have kl63 := hts (.constantLong RX6 63 (lN (4))) (by decide +kernel)
  have hiX6 : ∀ w ∈ u_ws RX6 TX6 20, w ∈ wsX6_weight := by decide +kernel
  have fl7 := hts (.fieldLink RX6 7 "TaughtTonguesModel" "weights" "[I") (by decide +kernel)
  refine lv_iload_n hx hb dX6_weight_0 rfl (lv_at hl 1 rfl) ?_
  have hPc := hP.sub (ws' := []) [] rfl
  refine r_calli hP hS (va_runS (As := [.int p0]) (rest := []) ⟨hx, hb, hml, hown, hts⟩ (m_X6_isMeaning l D cI cJ p0) (va_cwS 1 hts gX6_weight_X6_isMeaning rfl rfl rfl (by decide +kernel) ⟨Nat.le_of_ble_eq_true rfl, Nat.le_of_ble_eq_true rfl⟩) ⟨PR.blind, fun U hU hW => ⟨rfl, hKB.warm hW, by rw [hU]; exact hPc⟩⟩ rfl rfl hl.1 rfl (lv_room (Nat.le_of_ble_eq_true rfl)) dX6_weight_1 ⟨Nat.le_of_ble_eq_true rfl, Nat.le_of_ble_eq_true rfl⟩) (fun r1 H locs hw1 hP hS => ?_)
  have hw1 : r1 = bI (inR p0 0 2) := hw1
  subst hw1
  refine r_bif_ne (b := inR p0 0 2) (tgt := 9) hx hb dX6_weight_4 (by decide) (fun c4 => ?_) (fun c4 => ?_)
  · skip
    obtain ⟨M, -, hM, rfl⟩ := inR_t (by decide) (by decide) (c4)
    refine lv_iload_n hx hb dX6_weight_9 rfl (lv_at hl 2 rfl) ?_
    refine lv_i2l (v := p1.toInt64) hx hb dX6_weight_10 rfl ?_
    refine lv_lconst (v := lN (1)) hx hb dX6_weight_11 (by decide) ?_
    refine lv_ldc2 hx hb hown kl63 dX6_weight_12 ?_
    have hPc := hP.sub (ws' := []) [] rfl
    refine r_calli hP hS (va_runS (As := [.long (p1.toInt64), .long (lN 1), .long (lN 4)]) (rest := []) ⟨hx, hb, hml, hown, hts⟩ (m_X6_in l D cI cJ (p1.toInt64) (lN (1)) (lN (4))) (va_cwS 3 hts gX6_weight_X6_in rfl rfl rfl (by decide +kernel) ⟨Nat.le_of_ble_eq_true rfl, Nat.le_of_ble_eq_true rfl⟩) ⟨PR.blind, fun U hU hW => ⟨rfl, hKB.warm hW, by rw [hU]; exact hPc⟩⟩ rfl rfl hl.1 rfl (lv_room (Nat.le_of_ble_eq_true rfl)) dX6_weight_15 ⟨Nat.le_of_ble_eq_true rfl, Nat.le_of_ble_eq_true rfl⟩) (fun r2 H locs hw15 hP hS => ?_)
    have hw15 : r2 = bI (inL (p1.toInt64) (lN (1)) (lN (4))) := hw15
    subst hw15
    refine lv_topi (fun z3 ez3 => ?_)
    obtain rfl : z3 = bI (inR p1 1 4) := ez3.trans (congrArg bI (inL_R (by decide) (by decide)))
    refine r_bif_ne (b := inR p1 1 4) (tgt := 24) hx hb dX6_weight_18 (by decide) (fun c18 => ?_) (fun c18 => ?_)
    · skip
      obtain ⟨V, -, hV, rfl⟩ := inR_t (by decide) (by decide) (c18)
      refine lv_aload_n hx hb dX6_weight_24 rfl (lv_at hl 0 rfl) ?_
      refine va_get (D := D) (ci := 6) (v := .ref mw) (C := RX6) (T := TX6) (N := 20) hx hb hts hiX6 hown hKB.1 hP 0 rfl rfl 0 (by decide) fl7 (fun _ h9 => h9) rfl dX6_weight_25 ?_
      refine lv_iload_n hx hb dX6_weight_28 rfl (lv_at hl 1 rfl) ?_
      refine r_iald (i := M) (v := nI (w M)) hx hb hKB.1 hP 1 0 rfl rfl (by omega) (by decide) (rfl) dX6_weight_29 ?_
      refine lv_istore_n (lv' := [(3, .int (nI (w M))), (0, .ref mq), (1, .int (nI M)), (2, .int (nI V))]) hx hb dX6_weight_30 rfl hl (by decide) rfl (fun ls hl => ?_)
      refine lv_aload_n hx hb dX6_weight_31 rfl (lv_at hl 1 rfl) ?_
      refine va_get (D := D) (ci := 6) (v := .ref mw) (C := RX6) (T := TX6) (N := 20) hx hb hts hiX6 hown hKB.1 hP 0 rfl rfl 0 (by decide) fl7 (fun _ h9 => h9) rfl dX6_weight_32 ?_
      refine lv_iload_n hx hb dX6_weight_35 rfl (lv_at hl 2 rfl) ?_
      refine lv_iload_n hx hb dX6_weight_36 rfl (lv_at hl 3 rfl) ?_
      refine r_iastN (i := M) hx hb hKB.1 hP hD hS 1 0 rfl rfl (by omega) (by decide) dX6_weight_37 (fun H locs hP hD hS => ?_)
      have hP : va_P D vwCl [(mq, .inr (6, [.ref mw, .int (nI slip), .int (nI h), .int (nI kd), .ref ms, .int (nI cnt), .ref ml, .int (nI nl), .ref mh, .int (nI hn), .ref mr, .int (nI rm), .ref mst, .long (lN lo), .ref mn, .ref mth, .long (lN lon), .ref mld, .ref mpk, .ref mcm])), (mw, .inl (cI, 3, .inl (nF (nu w M V))))] _ := hP
      have hD : va_D A [(mq, .inr (6, [.ref mw, .int (nI slip), .int (nI h), .int (nI kd), .ref ms, .int (nI cnt), .ref ml, .int (nI nl), .ref mh, .int (nI hn), .ref mr, .int (nI rm), .ref mst, .long (lN lo), .ref mn, .ref mth, .long (lN lon), .ref mld, .ref mpk, .ref mcm])), (mw, .inl (cI, 3, .inl (nF (nu w M V))))] := hD
      refine lv_iload_n hx hb dX6_weight_38 rfl (lv_at hl 0 rfl) ?_
      exact w_iret hx hb hr hlk hQ hAe (nu w M V) hP hD hS (by simp only [aWt, uWt, c4, c18, Bool.and_self, if_true, tN_n (show M < 2 ^ 31 by omega), tN_n (show V < 2 ^ 31 by omega)]; exact ⟨trivial, trivial⟩) dX6_weight_39
    refine lv_bipush (v := (-2)) hx hb dX6_weight_21 (by decide) ?_
    exact w_iret hx hb hr hlk hQ hAe w hP hD hS (by simp [aWt, uWt, c4, c18]) dX6_weight_23
  refine lv_iconst (v := (-1)) hx hb dX6_weight_7 (by decide) ?_
  exact w_iret hx hb hr hlk hQ hAe w hP hD hS (by simp [aWt, uWt, c4]) dX6_weight_8

set_option maxHeartbeats 4000000 in
set_option maxRecDepth 100000 in
theorem m_X6_numberIs (l : Launch) (D : va_G) (cI cJ : ClassId) (mq : Nat) (mw : Nat) (slip : Nat) (h : Nat) (kd : Nat) (ms : Nat) (cnt : Nat) (ml : Nat) (nl : Nat) (mh : Nat) (hn : Nat) (mr : Nat) (rm : Nat) (mst : Nat) (lo : Nat) (mn : Nat) (mth : Nat) (lon : Nat) (mld : Nat) (mpk : Nat) (mcm : Nat) (wh2 : Nat) (hwh : wh2 ≤ 2) : Met l yX6_numberIs wsX6_numberIs ({ frames := 0, cells := 0, slots := 0, locals := 0 }) (PR D cI cJ [(mq, .inr (6, [.ref mw, .int (nI slip), .int (nI h), .int (nI kd), .ref ms, .int (nI cnt), .ref ml, .int (nI nl), .ref mh, .int (nI hn), .ref mr, .int (nI rm), .ref mst, .long (lN lo), .ref mn, .ref mth, .long (lN lon), .ref mld, .ref mpk, .ref mcm]))] [.ref mq, .int (nI wh2)]) (QRi (fun r => r = nI (if wh2 = 0 then slip else if wh2 = 1 then h else kd))) 0 0 NA := by
  refine met_R (cc := cX6_numberIs) (maxL := 2) (ret := (some .int)) (by decide) rfl (Nat.le_of_ble_eq_true rfl) ?_
  intro p e s m args below meth c Q ls hQ hAt hKB hP hl
  obtain ⟨hx, hb, hr, hml, hlk, hts, hown, hnm⟩ := hAt
  have hown : s.vm.findClass RX6 = some m.cls := hown
  have hS : va_S NA s.heap s.heap [] := va_S.rf
  have hl : lv_has ls 2 [(0, .ref mq), (1, .int (nI wh2))] := hl
  have hiX6 : ∀ w ∈ u_ws RX6 TX6 20, w ∈ wsX6_numberIs := by decide +kernel
  have fl65 := hts (.fieldLink RX6 65 "TaughtTonguesModel" "learnerIs" "I") (by decide +kernel)
  have fl48 := hts (.fieldLink RX6 48 "TaughtTonguesModel" "hearsIs" "I") (by decide +kernel)
  have fl44 := hts (.fieldLink RX6 44 "TaughtTonguesModel" "slipIs" "I") (by decide +kernel)
  refine lv_iload_n hx hb dX6_numberIs_0 rfl (lv_at hl 1 rfl) ?_
  refine r_if_ne (a := wh2) (tgt := 11) hx hb dX6_numberIs_1 (by decide) (by omega) (fun c1 => ?_) (fun c1 => ?_)
  · skip
    refine lv_iload_n hx hb dX6_numberIs_11 rfl (lv_at hl 1 rfl) ?_
    refine lv_iconst (v := nI (1)) hx hb dX6_numberIs_12 (by decide) ?_
    refine r_icmp_ne (a := wh2) (b := 1) (tgt := 23) hx hb dX6_numberIs_13 (by decide) (by omega) (by omega)  (fun c13 => ?_) (fun c13 => ?_)
    · skip
      refine lv_aload_n hx hb dX6_numberIs_23 rfl (lv_at hl 0 rfl) ?_
      refine va_get (D := D) (ci := 6) (v := .int (nI kd)) (C := RX6) (T := TX6) (N := 20) hx hb hts hiX6 hown hKB.1 hP 0 rfl rfl 3 (by decide) fl65 (fun _ h9 => h9) rfl dX6_numberIs_24 ?_
      exact r_iret hx hb hr hlk hQ hS (by rw [if_neg c1, if_neg c13]) dX6_numberIs_27
    refine lv_aload_n hx hb dX6_numberIs_16 rfl (lv_at hl 0 rfl) ?_
    refine va_get (D := D) (ci := 6) (v := .int (nI h)) (C := RX6) (T := TX6) (N := 20) hx hb hts hiX6 hown hKB.1 hP 0 rfl rfl 2 (by decide) fl48 (fun _ h9 => h9) rfl dX6_numberIs_17 ?_
    refine lv_goto (tgt := 27) hx hb dX6_numberIs_20 (by decide) ?_
    exact r_iret hx hb hr hlk hQ hS (by rw [if_neg c1, if_pos c13]) dX6_numberIs_27
  refine lv_aload_n hx hb dX6_numberIs_4 rfl (lv_at hl 0 rfl) ?_
  refine va_get (D := D) (ci := 6) (v := .int (nI slip)) (C := RX6) (T := TX6) (N := 20) hx hb hts hiX6 hown hKB.1 hP 0 rfl rfl 1 (by decide) fl44 (fun _ h9 => h9) rfl dX6_numberIs_5 ?_
  refine lv_goto (tgt := 27) hx hb dX6_numberIs_8 (by decide) ?_
  exact r_iret hx hb hr hlk hQ hS (by rw [if_pos c1]) dX6_numberIs_27

set_option maxHeartbeats 4000000 in
set_option maxRecDepth 100000 in
theorem m_X6_set (l : Launch) (D : va_G) (cI cJ : ClassId) (sz : Nat) (mq : Nat) (mw : Nat) (slip : Nat) (h : Nat) (kd : Nat) (ms : Nat) (cnt : Nat) (ml : Nat) (nl : Nat) (mh : Nat) (hn : Nat) (mr : Nat) (rm : Nat) (mst : Nat) (lo : Nat) (mn : Nat) (mth : Nat) (lon : Nat) (mld : Nat) (mpk : Nat) (mcm : Nat) (p0 : Int32) (p1 : Int32) : Met l yX6_set wsX6_set ({ frames := 1, cells := 0, slots := 0, locals := 25 }) (PX D cI cJ [(mq, .inr (6, [.ref mw, .int (nI slip), .int (nI h), .int (nI kd), .ref ms, .int (nI cnt), .ref ml, .int (nI nl), .ref mh, .int (nI hn), .ref mr, .int (nI rm), .ref mst, .long (lN lo), .ref mn, .ref mth, .long (lN lon), .ref mld, .ref mpk, .ref mcm]))] sz [.ref mq, .int p0, .int p1]) (QWi D (S := Nat × Nat × Nat) [(mq, .inr (6, [.ref mw, .int (nI slip), .int (nI h), .int (nI kd), .ref ms, .int (nI cnt), .ref ml, .int (nI nl), .ref mh, .int (nI hn), .ref mr, .int (nI rm), .ref mst, .long (lN lo), .ref mn, .ref mth, .long (lN lon), .ref mld, .ref mpk, .ref mcm]))] sz (fun r u => r = aSet slip h kd p0 p1 ∧ u.1 = uSl slip p0 p1 ∧ u.2.1 = uHr h p0 p1 ∧ u.2.2 = uKd kd p0 p1) (fun u => [(mq, .inr (6, [.ref mw, .int (nI (u.1)), .int (nI (u.2.1)), .int (nI (u.2.2)), .ref ms, .int (nI cnt), .ref ml, .int (nI nl), .ref mh, .int (nI hn), .ref mr, .int (nI rm), .ref mst, .long (lN lo), .ref mn, .ref mth, .long (lN lon), .ref mld, .ref mpk, .ref mcm]))])) 0 0 (va_A [(mq, .inr (6, [.ref mw, .int (nI slip), .int (nI h), .int (nI kd), .ref ms, .int (nI cnt), .ref ml, .int (nI nl), .ref mh, .int (nI hn), .ref mr, .int (nI rm), .ref mst, .long (lN lo), .ref mn, .ref mth, .long (lN lon), .ref mld, .ref mpk, .ref mcm]))] sz) := by
  refine met_X (cc := cX6_set) (maxL := 4) (ret := (some .int)) (by decide) rfl (Nat.le_of_ble_eq_true rfl) ?_
  intro p e s m args below meth c Q ls A hQ hAe hAt hKB hP hD hA hl
  obtain ⟨hx, hb, hr, hml, hlk, hts, hown, hnm⟩ := hAt
  have hown : s.vm.findClass RX6 = some m.cls := hown
  have hS : va_S A s.heap s.heap [] := va_S.rf
  have hl : lv_has ls 4 [(0, .ref mq), (1, .int p0), (2, .int p1)] := hl
  have kl51 := hts (.constantLong RX6 51 (lN (2))) (by decide +kernel)
  have kl68 := hts (.constantLong RX6 68 (lN (5))) (by decide +kernel)
  have hiX6 : ∀ w ∈ u_ws RX6 TX6 20, w ∈ wsX6_set := by decide +kernel
  have fl44 := hts (.fieldLink RX6 44 "TaughtTonguesModel" "slipIs" "I") (by decide +kernel)
  have kl63 := hts (.constantLong RX6 63 (lN (4))) (by decide +kernel)
  have fl48 := hts (.fieldLink RX6 48 "TaughtTonguesModel" "hearsIs" "I") (by decide +kernel)
  have fl65 := hts (.fieldLink RX6 65 "TaughtTonguesModel" "learnerIs" "I") (by decide +kernel)
  refine lv_iload_n hx hb dX6_set_0 rfl (lv_at hl 1 rfl) ?_
  refine lv_i2l (v := p0.toInt64) hx hb dX6_set_1 rfl ?_
  refine lv_lconst (v := lN (0)) hx hb dX6_set_2 (by decide) ?_
  refine lv_ldc2 hx hb hown kl51 dX6_set_3 ?_
  have hPc := hP.sub (ws' := []) [] rfl
  refine r_calli hP hS (va_runS (As := [.long (p0.toInt64), .long (lN 0), .long (lN 2)]) (rest := []) ⟨hx, hb, hml, hown, hts⟩ (m_X6_in l D cI cJ (p0.toInt64) (lN (0)) (lN (2))) (va_cwS 3 hts gX6_set_X6_in rfl rfl rfl (by decide +kernel) ⟨Nat.le_of_ble_eq_true rfl, Nat.le_of_ble_eq_true rfl⟩) ⟨PR.blind, fun U hU hW => ⟨rfl, hKB.warm hW, by rw [hU]; exact hPc⟩⟩ rfl rfl hl.1 rfl (lv_room (Nat.le_of_ble_eq_true rfl)) dX6_set_6 ⟨Nat.le_of_ble_eq_true rfl, Nat.le_of_ble_eq_true rfl⟩) (fun r1 H locs hw6 hP hS => ?_)
  have hw6 : r1 = bI (inL (p0.toInt64) (lN (0)) (lN (2))) := hw6
  subst hw6
  refine lv_topi (fun z2 ez2 => ?_)
  obtain rfl : z2 = bI (inR p0 0 2) := ez2.trans (congrArg bI (inL_R (by decide) (by decide)))
  refine r_bif_eq (b := inR p0 0 2) (tgt := 54) hx hb dX6_set_9 (by decide) (fun c9 => ?_) (fun c9 => ?_)
  · skip
    refine lv_bipush (v := (-2)) hx hb dX6_set_54 (by decide) ?_
    exact w_iret hx hb hr hlk hQ hAe (slip, h, kd) hP hD hS (set3 (set_o (out3 c9 (by decide)) (out3 c9 (by decide)) (out3 c9 (by decide)) trivial)) dX6_set_56
  obtain ⟨V0, -, hV0, rfl⟩ := inR_t (by decide) (by decide) (c9)
  rcases (show V0 = 0 ∨ V0 = 1 ∨ V0 = 2 by omega) with rfl | rfl | rfl
  · skip
    refine lv_iload_n hx hb dX6_set_12 rfl (lv_at hl 2 rfl) ?_
    refine lv_i2l (v := p1.toInt64) hx hb dX6_set_13 rfl ?_
    refine lv_iload_n hx hb dX6_set_14 rfl (lv_at hl 1 rfl) ?_
    refine lv_iconst (v := nI (1)) hx hb dX6_set_15 (by decide) ?_
    refine r_icmp_ne (a := 0) (b := 1) (tgt := 23) hx hb dX6_set_16 (by decide) (by decide) (by decide) (fun c16 => ?_) (fun c16 => ?_)
    · skip
      refine lv_lconst (v := lN (0)) hx hb dX6_set_23 (by decide) ?_
      refine lv_iload_n hx hb dX6_set_24 rfl (lv_at hl 1 rfl) ?_
      refine r_if_ne (a := 0) (tgt := 34) hx hb dX6_set_25 (by decide) (by decide) (fun c25 => ?_) (fun c25 => ?_)
      · exact absurd c25 (by decide)
      refine lv_ldc2 hx hb hown kl68 dX6_set_28 ?_
      refine lv_goto (tgt := 48) hx hb dX6_set_31 (by decide) ?_
      have hPc := hP.sub (ws' := []) [] rfl
      refine r_calli hP hS (va_runS (As := [.long (p1.toInt64), .long (lN 0), .long (lN 5)]) (rest := []) ⟨hx, hb, hml, hown, hts⟩ (m_X6_in l D cI cJ (p1.toInt64) (lN (0)) (lN (5))) (va_cwS 3 hts gX6_set_X6_in rfl rfl rfl (by decide +kernel) ⟨Nat.le_of_ble_eq_true rfl, Nat.le_of_ble_eq_true rfl⟩) ⟨PR.blind, fun U hU hW => ⟨rfl, hKB.warm hW, by rw [hU]; exact hPc⟩⟩ rfl rfl hl.1 rfl (lv_room (Nat.le_of_ble_eq_true rfl)) dX6_set_48 ⟨Nat.le_of_ble_eq_true rfl, Nat.le_of_ble_eq_true rfl⟩) (fun r3 H locs hw48 hP hS => ?_)
      have hw48 : r3 = bI (inL (p1.toInt64) (lN (0)) (lN (5))) := hw48
      subst hw48
      refine lv_topi (fun z4 ez4 => ?_)
      obtain rfl : z4 = bI (inR p1 0 5) := ez4.trans (congrArg bI (inL_R (by decide) (by decide)))
      refine r_bif_ne (b := inR p1 0 5) (tgt := 57) hx hb dX6_set_51 (by decide) (fun c51 => ?_) (fun c51 => ?_)
      · skip
        obtain ⟨V, -, hV, rfl⟩ := inR_t (by decide) (by decide) c51
        refine lv_aload_n hx hb dX6_set_57 rfl (lv_at hl 0 rfl) ?_
        refine lv_iload_n hx hb dX6_set_58 rfl (lv_at hl 1 rfl) ?_
        have hPc := hP.sub (ws' := [(mq, .inr (6, [.ref mw, .int (nI slip), .int (nI h), .int (nI kd), .ref ms, .int (nI cnt), .ref ml, .int (nI nl), .ref mh, .int (nI hn), .ref mr, .int (nI rm), .ref mst, .long (lN lo), .ref mn, .ref mth, .long (lN lon), .ref mld, .ref mpk, .ref mcm]))]) [0] rfl
        refine r_calli hP hS (va_runV (As := [.int (nI 0)]) (rest := []) ⟨hx, hb, hml, hown, hts⟩ (m_X6_numberIs l D cI cJ mq mw slip h kd ms cnt ml nl mh hn mr rm mst lo mn mth lon mld mpk mcm 0 (by omega)) (cwV 1 hts gX6_set_X6_numberIs rfl rfl rfl (by decide +kernel) ⟨Nat.le_of_ble_eq_true rfl, Nat.le_of_ble_eq_true rfl⟩) ⟨PR.blind, va_recv hKB.1 hP (ci := 6) (q0 := 0) rfl rfl, fun U hU hW => ⟨rfl, hKB.warm hW, by rw [hU]; exact hPc⟩⟩ rfl rfl hl.1 rfl (lv_room (Nat.le_of_ble_eq_true rfl)) dX6_set_59 ⟨Nat.le_of_ble_eq_true rfl, Nat.le_of_ble_eq_true rfl⟩) (fun r5 H locs hw59 hP hS => ?_)
        have hw59 : r5 = nI (if 0 = 0 then slip else if 0 = 1 then h else kd) := hw59
        subst hw59
        refine lv_istore_n (lv' := [(3, .int (nI (if 0 = 0 then slip else if 0 = 1 then h else kd))), (0, .ref mq), (1, .int (nI 0)), (2, .int (nI V))]) hx hb dX6_set_62 rfl hl (by decide) rfl (fun ls hl => ?_)
        refine lv_iload_n hx hb dX6_set_63 rfl (lv_at hl 2 rfl) ?_
        refine r_if_ne (a := 0) (tgt := 75) hx hb dX6_set_64 (by decide) (by decide) (fun c64 => ?_) (fun c64 => ?_)
        · exact absurd c64 (by decide)
        refine lv_aload_n hx hb dX6_set_67 rfl (lv_at hl 1 rfl) ?_
        refine lv_iload_n hx hb dX6_set_68 rfl (lv_at hl 3 rfl) ?_
        refine va_put (D := D) (ci := 6) (v := .int (nI V)) (ty := .int) (C := RX6) (T := TX6) (N := 20) hx hb hts hiX6 tyX6 tyX6_ok nmX6 hown hKB.1 hP hD hS 0 rfl rfl 1 (by decide) fl44 (fun _ h9 => h9) rfl (by decide +kernel) rfl rfl (Nat.le_of_ble_eq_true rfl) dX6_set_69 (fun H locs hP hD hS => ?_)
        have hP : va_P D vwCl [(mq, .inr (6, [.ref mw, .int (nI V), .int (nI h), .int (nI kd), .ref ms, .int (nI cnt), .ref ml, .int (nI nl), .ref mh, .int (nI hn), .ref mr, .int (nI rm), .ref mst, .long (lN lo), .ref mn, .ref mth, .long (lN lon), .ref mld, .ref mpk, .ref mcm]))] _ := hP
        have hD : va_D A [(mq, .inr (6, [.ref mw, .int (nI V), .int (nI h), .int (nI kd), .ref ms, .int (nI cnt), .ref ml, .int (nI nl), .ref mh, .int (nI hn), .ref mr, .int (nI rm), .ref mst, .long (lN lo), .ref mn, .ref mth, .long (lN lon), .ref mld, .ref mpk, .ref mcm]))] := hD
        refine lv_goto (tgt := 93) hx hb dX6_set_72 (by decide) ?_
        refine lv_iload_n hx hb dX6_set_93 rfl (lv_at hl 0 rfl) ?_
        exact w_iret hx hb hr hlk hQ hAe (V, h, kd) hP hD hS (set3 (set_0 c51 (by omega) trivial)) dX6_set_94
      refine lv_bipush (v := (-2)) hx hb dX6_set_54 (by decide) ?_
      exact w_iret hx hb hr hlk hQ hAe (slip, h, kd) hP hD hS (set3 (set_0f c51 trivial)) dX6_set_56
    exact absurd c16 (by decide)
  · skip
    refine lv_iload_n hx hb dX6_set_12 rfl (lv_at hl 2 rfl) ?_
    refine lv_i2l (v := p1.toInt64) hx hb dX6_set_13 rfl ?_
    refine lv_iload_n hx hb dX6_set_14 rfl (lv_at hl 1 rfl) ?_
    refine lv_iconst (v := nI (1)) hx hb dX6_set_15 (by decide) ?_
    refine r_icmp_ne (a := 1) (b := 1) (tgt := 23) hx hb dX6_set_16 (by decide) (by decide) (by decide) (fun c16 => ?_) (fun c16 => ?_)
    · exact absurd c16 (by decide)
    refine lv_lconst (v := lN (1)) hx hb dX6_set_19 (by decide) ?_
    refine lv_goto (tgt := 24) hx hb dX6_set_20 (by decide) ?_
    refine lv_iload_n hx hb dX6_set_24 rfl (lv_at hl 1 rfl) ?_
    refine r_if_ne (a := 1) (tgt := 34) hx hb dX6_set_25 (by decide) (by decide) (fun c25 => ?_) (fun c25 => ?_)
    · skip
      refine lv_iload_n hx hb dX6_set_34 rfl (lv_at hl 1 rfl) ?_
      refine lv_iconst (v := nI (1)) hx hb dX6_set_35 (by decide) ?_
      refine r_icmp_ne (a := 1) (b := 1) (tgt := 45) hx hb dX6_set_36 (by decide) (by decide) (by decide) (fun c36 => ?_) (fun c36 => ?_)
      · exact absurd c36 (by decide)
      refine lv_ldc2 hx hb hown kl63 dX6_set_39 ?_
      refine lv_goto (tgt := 48) hx hb dX6_set_42 (by decide) ?_
      have hPc := hP.sub (ws' := []) [] rfl
      refine r_calli hP hS (va_runS (As := [.long (p1.toInt64), .long (lN 1), .long (lN 4)]) (rest := []) ⟨hx, hb, hml, hown, hts⟩ (m_X6_in l D cI cJ (p1.toInt64) (lN (1)) (lN (4))) (va_cwS 3 hts gX6_set_X6_in rfl rfl rfl (by decide +kernel) ⟨Nat.le_of_ble_eq_true rfl, Nat.le_of_ble_eq_true rfl⟩) ⟨PR.blind, fun U hU hW => ⟨rfl, hKB.warm hW, by rw [hU]; exact hPc⟩⟩ rfl rfl hl.1 rfl (lv_room (Nat.le_of_ble_eq_true rfl)) dX6_set_48 ⟨Nat.le_of_ble_eq_true rfl, Nat.le_of_ble_eq_true rfl⟩) (fun r6 H locs hw48 hP hS => ?_)
      have hw48 : r6 = bI (inL (p1.toInt64) (lN (1)) (lN (4))) := hw48
      subst hw48
      refine lv_topi (fun z7 ez7 => ?_)
      obtain rfl : z7 = bI (inR p1 1 4) := ez7.trans (congrArg bI (inL_R (by decide) (by decide)))
      refine r_bif_ne (b := inR p1 1 4) (tgt := 57) hx hb dX6_set_51 (by decide) (fun c51 => ?_) (fun c51 => ?_)
      · skip
        obtain ⟨V, -, hV, rfl⟩ := inR_t (by decide) (by decide) c51
        refine lv_aload_n hx hb dX6_set_57 rfl (lv_at hl 0 rfl) ?_
        refine lv_iload_n hx hb dX6_set_58 rfl (lv_at hl 1 rfl) ?_
        have hPc := hP.sub (ws' := [(mq, .inr (6, [.ref mw, .int (nI slip), .int (nI h), .int (nI kd), .ref ms, .int (nI cnt), .ref ml, .int (nI nl), .ref mh, .int (nI hn), .ref mr, .int (nI rm), .ref mst, .long (lN lo), .ref mn, .ref mth, .long (lN lon), .ref mld, .ref mpk, .ref mcm]))]) [0] rfl
        refine r_calli hP hS (va_runV (As := [.int (nI 1)]) (rest := []) ⟨hx, hb, hml, hown, hts⟩ (m_X6_numberIs l D cI cJ mq mw slip h kd ms cnt ml nl mh hn mr rm mst lo mn mth lon mld mpk mcm 1 (by omega)) (cwV 1 hts gX6_set_X6_numberIs rfl rfl rfl (by decide +kernel) ⟨Nat.le_of_ble_eq_true rfl, Nat.le_of_ble_eq_true rfl⟩) ⟨PR.blind, va_recv hKB.1 hP (ci := 6) (q0 := 0) rfl rfl, fun U hU hW => ⟨rfl, hKB.warm hW, by rw [hU]; exact hPc⟩⟩ rfl rfl hl.1 rfl (lv_room (Nat.le_of_ble_eq_true rfl)) dX6_set_59 ⟨Nat.le_of_ble_eq_true rfl, Nat.le_of_ble_eq_true rfl⟩) (fun r8 H locs hw59 hP hS => ?_)
        have hw59 : r8 = nI (if 1 = 0 then slip else if 1 = 1 then h else kd) := hw59
        subst hw59
        refine lv_istore_n (lv' := [(3, .int (nI (if 1 = 0 then slip else if 1 = 1 then h else kd))), (0, .ref mq), (1, .int (nI 1)), (2, .int (nI V))]) hx hb dX6_set_62 rfl hl (by decide) rfl (fun ls hl => ?_)
        refine lv_iload_n hx hb dX6_set_63 rfl (lv_at hl 2 rfl) ?_
        refine r_if_ne (a := 1) (tgt := 75) hx hb dX6_set_64 (by decide) (by decide) (fun c64 => ?_) (fun c64 => ?_)
        · skip
          refine lv_iload_n hx hb dX6_set_75 rfl (lv_at hl 2 rfl) ?_
          refine lv_iconst (v := nI (1)) hx hb dX6_set_76 (by decide) ?_
          refine r_icmp_ne (a := 1) (b := 1) (tgt := 88) hx hb dX6_set_77 (by decide) (by decide) (by decide) (fun c77 => ?_) (fun c77 => ?_)
          · exact absurd c77 (by decide)
          refine lv_aload_n hx hb dX6_set_80 rfl (lv_at hl 1 rfl) ?_
          refine lv_iload_n hx hb dX6_set_81 rfl (lv_at hl 3 rfl) ?_
          refine va_put (D := D) (ci := 6) (v := .int (nI V)) (ty := .int) (C := RX6) (T := TX6) (N := 20) hx hb hts hiX6 tyX6 tyX6_ok nmX6 hown hKB.1 hP hD hS 0 rfl rfl 2 (by decide) fl48 (fun _ h9 => h9) rfl (by decide +kernel) rfl rfl (Nat.le_of_ble_eq_true rfl) dX6_set_82 (fun H locs hP hD hS => ?_)
          have hP : va_P D vwCl [(mq, .inr (6, [.ref mw, .int (nI slip), .int (nI V), .int (nI kd), .ref ms, .int (nI cnt), .ref ml, .int (nI nl), .ref mh, .int (nI hn), .ref mr, .int (nI rm), .ref mst, .long (lN lo), .ref mn, .ref mth, .long (lN lon), .ref mld, .ref mpk, .ref mcm]))] _ := hP
          have hD : va_D A [(mq, .inr (6, [.ref mw, .int (nI slip), .int (nI V), .int (nI kd), .ref ms, .int (nI cnt), .ref ml, .int (nI nl), .ref mh, .int (nI hn), .ref mr, .int (nI rm), .ref mst, .long (lN lo), .ref mn, .ref mth, .long (lN lon), .ref mld, .ref mpk, .ref mcm]))] := hD
          refine lv_goto (tgt := 93) hx hb dX6_set_85 (by decide) ?_
          refine lv_iload_n hx hb dX6_set_93 rfl (lv_at hl 0 rfl) ?_
          exact w_iret hx hb hr hlk hQ hAe (slip, V, kd) hP hD hS (set3 (set_1 c51 (by omega) trivial)) dX6_set_94
        exact absurd c64 (by decide)
      refine lv_bipush (v := (-2)) hx hb dX6_set_54 (by decide) ?_
      exact w_iret hx hb hr hlk hQ hAe (slip, h, kd) hP hD hS (set3 (set_1f c51 trivial)) dX6_set_56
    exact absurd c25 (by decide)
  · skip
    refine lv_iload_n hx hb dX6_set_12 rfl (lv_at hl 2 rfl) ?_
    refine lv_i2l (v := p1.toInt64) hx hb dX6_set_13 rfl ?_
    refine lv_iload_n hx hb dX6_set_14 rfl (lv_at hl 1 rfl) ?_
    refine lv_iconst (v := nI (1)) hx hb dX6_set_15 (by decide) ?_
    refine r_icmp_ne (a := 2) (b := 1) (tgt := 23) hx hb dX6_set_16 (by decide) (by decide) (by decide) (fun c16 => ?_) (fun c16 => ?_)
    · skip
      refine lv_lconst (v := lN (0)) hx hb dX6_set_23 (by decide) ?_
      refine lv_iload_n hx hb dX6_set_24 rfl (lv_at hl 1 rfl) ?_
      refine r_if_ne (a := 2) (tgt := 34) hx hb dX6_set_25 (by decide) (by decide) (fun c25 => ?_) (fun c25 => ?_)
      · skip
        refine lv_iload_n hx hb dX6_set_34 rfl (lv_at hl 1 rfl) ?_
        refine lv_iconst (v := nI (1)) hx hb dX6_set_35 (by decide) ?_
        refine r_icmp_ne (a := 2) (b := 1) (tgt := 45) hx hb dX6_set_36 (by decide) (by decide) (by decide) (fun c36 => ?_) (fun c36 => ?_)
        · skip
          refine lv_ldc2 hx hb hown kl51 dX6_set_45 ?_
          have hPc := hP.sub (ws' := []) [] rfl
          refine r_calli hP hS (va_runS (As := [.long (p1.toInt64), .long (lN 0), .long (lN 2)]) (rest := []) ⟨hx, hb, hml, hown, hts⟩ (m_X6_in l D cI cJ (p1.toInt64) (lN (0)) (lN (2))) (va_cwS 3 hts gX6_set_X6_in rfl rfl rfl (by decide +kernel) ⟨Nat.le_of_ble_eq_true rfl, Nat.le_of_ble_eq_true rfl⟩) ⟨PR.blind, fun U hU hW => ⟨rfl, hKB.warm hW, by rw [hU]; exact hPc⟩⟩ rfl rfl hl.1 rfl (lv_room (Nat.le_of_ble_eq_true rfl)) dX6_set_48 ⟨Nat.le_of_ble_eq_true rfl, Nat.le_of_ble_eq_true rfl⟩) (fun r9 H locs hw48 hP hS => ?_)
          have hw48 : r9 = bI (inL (p1.toInt64) (lN (0)) (lN (2))) := hw48
          subst hw48
          refine lv_topi (fun z10 ez10 => ?_)
          obtain rfl : z10 = bI (inR p1 0 2) := ez10.trans (congrArg bI (inL_R (by decide) (by decide)))
          refine r_bif_ne (b := inR p1 0 2) (tgt := 57) hx hb dX6_set_51 (by decide) (fun c51 => ?_) (fun c51 => ?_)
          · skip
            obtain ⟨V, -, hV, rfl⟩ := inR_t (by decide) (by decide) c51
            refine lv_aload_n hx hb dX6_set_57 rfl (lv_at hl 0 rfl) ?_
            refine lv_iload_n hx hb dX6_set_58 rfl (lv_at hl 1 rfl) ?_
            have hPc := hP.sub (ws' := [(mq, .inr (6, [.ref mw, .int (nI slip), .int (nI h), .int (nI kd), .ref ms, .int (nI cnt), .ref ml, .int (nI nl), .ref mh, .int (nI hn), .ref mr, .int (nI rm), .ref mst, .long (lN lo), .ref mn, .ref mth, .long (lN lon), .ref mld, .ref mpk, .ref mcm]))]) [0] rfl
            refine r_calli hP hS (va_runV (As := [.int (nI 2)]) (rest := []) ⟨hx, hb, hml, hown, hts⟩ (m_X6_numberIs l D cI cJ mq mw slip h kd ms cnt ml nl mh hn mr rm mst lo mn mth lon mld mpk mcm 2 (by omega)) (cwV 1 hts gX6_set_X6_numberIs rfl rfl rfl (by decide +kernel) ⟨Nat.le_of_ble_eq_true rfl, Nat.le_of_ble_eq_true rfl⟩) ⟨PR.blind, va_recv hKB.1 hP (ci := 6) (q0 := 0) rfl rfl, fun U hU hW => ⟨rfl, hKB.warm hW, by rw [hU]; exact hPc⟩⟩ rfl rfl hl.1 rfl (lv_room (Nat.le_of_ble_eq_true rfl)) dX6_set_59 ⟨Nat.le_of_ble_eq_true rfl, Nat.le_of_ble_eq_true rfl⟩) (fun r11 H locs hw59 hP hS => ?_)
            have hw59 : r11 = nI (if 2 = 0 then slip else if 2 = 1 then h else kd) := hw59
            subst hw59
            refine lv_istore_n (lv' := [(3, .int (nI (if 2 = 0 then slip else if 2 = 1 then h else kd))), (0, .ref mq), (1, .int (nI 2)), (2, .int (nI V))]) hx hb dX6_set_62 rfl hl (by decide) rfl (fun ls hl => ?_)
            refine lv_iload_n hx hb dX6_set_63 rfl (lv_at hl 2 rfl) ?_
            refine r_if_ne (a := 2) (tgt := 75) hx hb dX6_set_64 (by decide) (by decide) (fun c64 => ?_) (fun c64 => ?_)
            · skip
              refine lv_iload_n hx hb dX6_set_75 rfl (lv_at hl 2 rfl) ?_
              refine lv_iconst (v := nI (1)) hx hb dX6_set_76 (by decide) ?_
              refine r_icmp_ne (a := 2) (b := 1) (tgt := 88) hx hb dX6_set_77 (by decide) (by decide) (by decide) (fun c77 => ?_) (fun c77 => ?_)
              · skip
                refine lv_aload_n hx hb dX6_set_88 rfl (lv_at hl 1 rfl) ?_
                refine lv_iload_n hx hb dX6_set_89 rfl (lv_at hl 3 rfl) ?_
                refine va_put (D := D) (ci := 6) (v := .int (nI V)) (ty := .int) (C := RX6) (T := TX6) (N := 20) hx hb hts hiX6 tyX6 tyX6_ok nmX6 hown hKB.1 hP hD hS 0 rfl rfl 3 (by decide) fl65 (fun _ h9 => h9) rfl (by decide +kernel) rfl rfl (Nat.le_of_ble_eq_true rfl) dX6_set_90 (fun H locs hP hD hS => ?_)
                have hP : va_P D vwCl [(mq, .inr (6, [.ref mw, .int (nI slip), .int (nI h), .int (nI V), .ref ms, .int (nI cnt), .ref ml, .int (nI nl), .ref mh, .int (nI hn), .ref mr, .int (nI rm), .ref mst, .long (lN lo), .ref mn, .ref mth, .long (lN lon), .ref mld, .ref mpk, .ref mcm]))] _ := hP
                have hD : va_D A [(mq, .inr (6, [.ref mw, .int (nI slip), .int (nI h), .int (nI V), .ref ms, .int (nI cnt), .ref ml, .int (nI nl), .ref mh, .int (nI hn), .ref mr, .int (nI rm), .ref mst, .long (lN lo), .ref mn, .ref mth, .long (lN lon), .ref mld, .ref mpk, .ref mcm]))] := hD
                refine lv_iload_n hx hb dX6_set_93 rfl (lv_at hl 0 rfl) ?_
                exact w_iret hx hb hr hlk hQ hAe (slip, h, V) hP hD hS (set3 (set_2 c51 (by omega) trivial)) dX6_set_94
              exact absurd c77 (by decide)
            exact absurd c64 (by decide)
          refine lv_bipush (v := (-2)) hx hb dX6_set_54 (by decide) ?_
          exact w_iret hx hb hr hlk hQ hAe (slip, h, kd) hP hD hS (set3 (set_2f c51 trivial)) dX6_set_56
        exact absurd c36 (by decide)
      exact absurd c25 (by decide)
    exact absurd c16 (by decide)

set_option maxHeartbeats 4000000 in
set_option maxRecDepth 100000 in
theorem m_X6_say (l : Launch) (D : va_G) (cI cJ : ClassId) (sz : Nat) (mq : Nat) (mw : Nat) (slip : Nat) (h : Nat) (kd : Nat) (ms : Nat) (cnt : Nat) (ml : Nat) (nl : Nat) (mh : Nat) (hn : Nat) (mr : Nat) (rm : Nat) (mst : Nat) (lo : Nat) (mn : Nat) (mth : Nat) (lon : Nat) (mld : Nat) (mpk : Nat) (mcm : Nat) (cd : Nat → Nat) (p0 : Int32) (hcnt : cnt ≤ 40) : Met l yX6_say wsX6_say ({ frames := 1, cells := 0, slots := 0, locals := 25 }) (PX D cI cJ [(mq, .inr (6, [.ref mw, .int (nI slip), .int (nI h), .int (nI kd), .ref ms, .int (nI cnt), .ref ml, .int (nI nl), .ref mh, .int (nI hn), .ref mr, .int (nI rm), .ref mst, .long (lN lo), .ref mn, .ref mth, .long (lN lon), .ref mld, .ref mpk, .ref mcm])), (ms, .inl (cI, 40, .inl (nF cd)))] sz [.ref mq, .int p0]) (QWi D (S := (Nat → Nat) × Nat) [(mq, .inr (6, [.ref mw, .int (nI slip), .int (nI h), .int (nI kd), .ref ms, .int (nI cnt), .ref ml, .int (nI nl), .ref mh, .int (nI hn), .ref mr, .int (nI rm), .ref mst, .long (lN lo), .ref mn, .ref mth, .long (lN lon), .ref mld, .ref mpk, .ref mcm])), (ms, .inl (cI, 40, .inl (nF cd)))] sz (fun r u => r = aSay cnt p0 ∧ u.1 = uSC cd cnt p0 ∧ u.2 = uSN cnt p0) (fun u => [(mq, .inr (6, [.ref mw, .int (nI slip), .int (nI h), .int (nI kd), .ref ms, .int (nI (u.2)), .ref ml, .int (nI nl), .ref mh, .int (nI hn), .ref mr, .int (nI rm), .ref mst, .long (lN lo), .ref mn, .ref mth, .long (lN lon), .ref mld, .ref mpk, .ref mcm])), (ms, .inl (cI, 40, .inl (nF u.1)))])) 0 0 (va_A [(mq, .inr (6, [.ref mw, .int (nI slip), .int (nI h), .int (nI kd), .ref ms, .int (nI cnt), .ref ml, .int (nI nl), .ref mh, .int (nI hn), .ref mr, .int (nI rm), .ref mst, .long (lN lo), .ref mn, .ref mth, .long (lN lon), .ref mld, .ref mpk, .ref mcm])), (ms, .inl (cI, 40, .inl (nF cd)))] sz) := by
  refine met_X (cc := cX6_say) (maxL := 2) (ret := (some .int)) (by decide) rfl (Nat.le_of_ble_eq_true rfl) ?_
  intro p e s m args below meth c Q ls A hQ hAe hAt hKB hP hD hA hl
  obtain ⟨hx, hb, hr, hml, hlk, hts, hown, hnm⟩ := hAt
  have hown : s.vm.findClass RX6 = some m.cls := hown
  have hS : va_S A s.heap s.heap [] := va_S.rf
  have hl : lv_has ls 2 [(0, .ref mq), (1, .int p0)] := hl
  have kl74 := hts (.constantLong RX6 74 (lN (33))) (by decide +kernel)
  have kl76 := hts (.constantLong RX6 76 (lN (126))) (by decide +kernel)
  have hiX6 : ∀ w ∈ u_ws RX6 TX6 20, w ∈ wsX6_say := by decide +kernel
  have fl78 := hts (.fieldLink RX6 78 "TaughtTonguesModel" "signMany" "I") (by decide +kernel)
  have fl13 := hts (.fieldLink RX6 13 "TaughtTonguesModel" "signs" "[I") (by decide +kernel)
  refine lv_iload_n hx hb dX6_say_0 rfl (lv_at hl 1 rfl) ?_
  refine lv_i2l (v := p0.toInt64) hx hb dX6_say_1 rfl ?_
  refine lv_ldc2 hx hb hown kl74 dX6_say_2 ?_
  refine lv_ldc2 hx hb hown kl76 dX6_say_5 ?_
  have hPc := hP.sub (ws' := []) [] rfl
  refine r_calli hP hS (va_runS (As := [.long (p0.toInt64), .long (lN 33), .long (lN 126)]) (rest := []) ⟨hx, hb, hml, hown, hts⟩ (m_X6_in l D cI cJ (p0.toInt64) (lN (33)) (lN (126))) (va_cwS 3 hts gX6_say_X6_in rfl rfl rfl (by decide +kernel) ⟨Nat.le_of_ble_eq_true rfl, Nat.le_of_ble_eq_true rfl⟩) ⟨PR.blind, fun U hU hW => ⟨rfl, hKB.warm hW, by rw [hU]; exact hPc⟩⟩ rfl rfl hl.1 rfl (lv_room (Nat.le_of_ble_eq_true rfl)) dX6_say_8 ⟨Nat.le_of_ble_eq_true rfl, Nat.le_of_ble_eq_true rfl⟩) (fun r1 H locs hw8 hP hS => ?_)
  have hw8 : r1 = bI (inL (p0.toInt64) (lN (33)) (lN (126))) := hw8
  subst hw8
  refine lv_topi (fun z2 ez2 => ?_)
  obtain rfl : z2 = bI (inR p0 33 126) := ez2.trans (congrArg bI (inL_R (by decide) (by decide)))
  refine r_bif_ne (b := inR p0 33 126) (tgt := 17) hx hb dX6_say_11 (by decide) (fun c11 => ?_) (fun c11 => ?_)
  · skip
    obtain ⟨V, -, hV, rfl⟩ := inR_t (by decide) (by decide) (c11)
    refine lv_aload_n hx hb dX6_say_17 rfl (lv_at hl 0 rfl) ?_
    refine va_get (D := D) (ci := 6) (v := .int (nI cnt)) (C := RX6) (T := TX6) (N := 20) hx hb hts hiX6 hown hKB.1 hP 0 rfl rfl 5 (by decide) fl78 (fun _ h9 => h9) rfl dX6_say_18 ?_
    refine lv_bipush (v := nI (40)) hx hb dX6_say_21 (by decide) ?_
    refine r_icmp_ne (a := cnt) (b := 40) (tgt := 29) hx hb dX6_say_23 (by decide) (by omega) (by omega)  (fun c23 => ?_) (fun c23 => ?_)
    · skip
      refine lv_aload_n hx hb dX6_say_29 rfl (lv_at hl 0 rfl) ?_
      refine va_get (D := D) (ci := 6) (v := .ref ms) (C := RX6) (T := TX6) (N := 20) hx hb hts hiX6 hown hKB.1 hP 0 rfl rfl 4 (by decide) fl13 (fun _ h9 => h9) rfl dX6_say_30 ?_
      refine lv_aload_n hx hb dX6_say_33 rfl (lv_at hl 0 rfl) ?_
      refine va_get (D := D) (ci := 6) (v := .int (nI cnt)) (C := RX6) (T := TX6) (N := 20) hx hb hts hiX6 hown hKB.1 hP 0 rfl rfl 5 (by decide) fl78 (fun _ h9 => h9) rfl dX6_say_34 ?_
      refine lv_iload_n hx hb dX6_say_37 rfl (lv_at hl 1 rfl) ?_
      refine r_iastN (i := cnt) hx hb hKB.1 hP hD hS 1 0 rfl rfl (by omega) (by decide) dX6_say_38 (fun H locs hP hD hS => ?_)
      have hP : va_P D vwCl [(mq, .inr (6, [.ref mw, .int (nI slip), .int (nI h), .int (nI kd), .ref ms, .int (nI cnt), .ref ml, .int (nI nl), .ref mh, .int (nI hn), .ref mr, .int (nI rm), .ref mst, .long (lN lo), .ref mn, .ref mth, .long (lN lon), .ref mld, .ref mpk, .ref mcm])), (ms, .inl (cI, 40, .inl (nF (nu cd cnt V))))] _ := hP
      have hD : va_D A [(mq, .inr (6, [.ref mw, .int (nI slip), .int (nI h), .int (nI kd), .ref ms, .int (nI cnt), .ref ml, .int (nI nl), .ref mh, .int (nI hn), .ref mr, .int (nI rm), .ref mst, .long (lN lo), .ref mn, .ref mth, .long (lN lon), .ref mld, .ref mpk, .ref mcm])), (ms, .inl (cI, 40, .inl (nF (nu cd cnt V))))] := hD
      refine lv_aload_n hx hb dX6_say_39 rfl (lv_at hl 0 rfl) ?_
      refine lv_dup hx hb dX6_say_40 rfl ?_
      refine va_get (D := D) (ci := 6) (v := .int (nI cnt)) (C := RX6) (T := TX6) (N := 20) hx hb hts hiX6 hown hKB.1 hP 0 rfl rfl 5 (by decide) fl78 (fun _ h9 => h9) rfl dX6_say_41 ?_
      refine lv_iconst (v := nI (1)) hx hb dX6_say_44 (by decide) ?_
      refine r_iadd (a := cnt) (b := 1) hx hb dX6_say_45  ?_
      refine va_put (D := D) (ci := 6) (v := .int (nI (cnt + 1))) (ty := .int) (C := RX6) (T := TX6) (N := 20) hx hb hts hiX6 tyX6 tyX6_ok nmX6 hown hKB.1 hP hD hS 0 rfl rfl 5 (by decide) fl78 (fun _ h9 => h9) rfl (by decide +kernel) rfl rfl (Nat.le_of_ble_eq_true rfl) dX6_say_46 (fun H locs hP hD hS => ?_)
      have hP : va_P D vwCl [(mq, .inr (6, [.ref mw, .int (nI slip), .int (nI h), .int (nI kd), .ref ms, .int (nI (cnt + 1)), .ref ml, .int (nI nl), .ref mh, .int (nI hn), .ref mr, .int (nI rm), .ref mst, .long (lN lo), .ref mn, .ref mth, .long (lN lon), .ref mld, .ref mpk, .ref mcm])), (ms, .inl (cI, 40, .inl (nF (nu cd cnt V))))] _ := hP
      have hD : va_D A [(mq, .inr (6, [.ref mw, .int (nI slip), .int (nI h), .int (nI kd), .ref ms, .int (nI (cnt + 1)), .ref ml, .int (nI nl), .ref mh, .int (nI hn), .ref mr, .int (nI rm), .ref mst, .long (lN lo), .ref mn, .ref mth, .long (lN lon), .ref mld, .ref mpk, .ref mcm])), (ms, .inl (cI, 40, .inl (nF (nu cd cnt V))))] := hD
      refine lv_aload_n hx hb dX6_say_49 rfl (lv_at hl 0 rfl) ?_
      refine va_get (D := D) (ci := 6) (v := .int (nI (cnt + 1))) (C := RX6) (T := TX6) (N := 20) hx hb hts hiX6 hown hKB.1 hP 0 rfl rfl 5 (by decide) fl78 (fun _ h9 => h9) rfl dX6_say_50 ?_
      exact w_iret hx hb hr hlk hQ hAe (nu cd cnt V, cnt + 1) hP hD hS (by simp only [aSay, uSC, uSN, c11, if_true, addC, addN, if_pos (show cnt < 40 by omega), tN_n (show V < 2 ^ 31 by omega)]; exact ⟨trivial, trivial, trivial⟩) dX6_say_53
    refine lv_bipush (v := (-4)) hx hb dX6_say_26 (by decide) ?_
    exact w_iret hx hb hr hlk hQ hAe (cd, cnt) hP hD hS (by simp only [aSay, uSC, uSN, c11, if_true, addC, addN, if_neg (show ¬ cnt < 40 by omega)]; exact ⟨trivial, trivial, trivial⟩) dX6_say_28
  refine lv_bipush (v := (-2)) hx hb dX6_say_14 (by decide) ?_
  exact w_iret hx hb hr hlk hQ hAe (cd, cnt) hP hD hS (by simp [aSay, uSC, uSN, c11]) dX6_say_16

set_option maxHeartbeats 4000000 in
set_option maxRecDepth 100000 in
theorem m_X6_wipe (l : Launch) (D : va_G) (cI cJ : ClassId) (sz : Nat) (mq : Nat) (mw : Nat) (slip : Nat) (h : Nat) (kd : Nat) (ms : Nat) (cnt : Nat) (ml : Nat) (nl : Nat) (mh : Nat) (hn : Nat) (mr : Nat) (rm : Nat) (mst : Nat) (lo : Nat) (mn : Nat) (mth : Nat) (lon : Nat) (mld : Nat) (mpk : Nat) (mcm : Nat) : Met l yX6_wipe wsX6_wipe ({ frames := 0, cells := 0, slots := 0, locals := 0 }) (PX D cI cJ [(mq, .inr (6, [.ref mw, .int (nI slip), .int (nI h), .int (nI kd), .ref ms, .int (nI cnt), .ref ml, .int (nI nl), .ref mh, .int (nI hn), .ref mr, .int (nI rm), .ref mst, .long (lN lo), .ref mn, .ref mth, .long (lN lon), .ref mld, .ref mpk, .ref mcm]))] sz [.ref mq]) (QWi D (S := Unit) [(mq, .inr (6, [.ref mw, .int (nI slip), .int (nI h), .int (nI kd), .ref ms, .int (nI cnt), .ref ml, .int (nI nl), .ref mh, .int (nI hn), .ref mr, .int (nI rm), .ref mst, .long (lN lo), .ref mn, .ref mth, .long (lN lon), .ref mld, .ref mpk, .ref mcm]))] sz (fun r _ => r = nI (cnt)) (fun _ => [(mq, .inr (6, [.ref mw, .int (nI slip), .int (nI h), .int (nI kd), .ref ms, .int (nI 0), .ref ml, .int (nI nl), .ref mh, .int (nI hn), .ref mr, .int (nI rm), .ref mst, .long (lN lo), .ref mn, .ref mth, .long (lN lon), .ref mld, .ref mpk, .ref mcm]))])) 0 0 (va_A [(mq, .inr (6, [.ref mw, .int (nI slip), .int (nI h), .int (nI kd), .ref ms, .int (nI cnt), .ref ml, .int (nI nl), .ref mh, .int (nI hn), .ref mr, .int (nI rm), .ref mst, .long (lN lo), .ref mn, .ref mth, .long (lN lon), .ref mld, .ref mpk, .ref mcm]))] sz) := by
  refine met_X (cc := cX6_wipe) (maxL := 2) (ret := (some .int)) (by decide) rfl (Nat.le_of_ble_eq_true rfl) ?_
  intro p e s m args below meth c Q ls A hQ hAe hAt hKB hP hD hA hl
  obtain ⟨hx, hb, hr, hml, hlk, hts, hown, hnm⟩ := hAt
  have hown : s.vm.findClass RX6 = some m.cls := hown
  have hS : va_S A s.heap s.heap [] := va_S.rf
  have hl : lv_has ls 2 [(0, .ref mq)] := hl
  have hiX6 : ∀ w ∈ u_ws RX6 TX6 20, w ∈ wsX6_wipe := by decide +kernel
  have fl78 := hts (.fieldLink RX6 78 "TaughtTonguesModel" "signMany" "I") (by decide +kernel)
  refine lv_aload_n hx hb dX6_wipe_0 rfl (lv_at hl 0 rfl) ?_
  refine va_get (D := D) (ci := 6) (v := .int (nI cnt)) (C := RX6) (T := TX6) (N := 20) hx hb hts hiX6 hown hKB.1 hP 0 rfl rfl 5 (by decide) fl78 (fun _ h9 => h9) rfl dX6_wipe_1 ?_
  refine lv_istore_n (lv' := [(1, .int (nI cnt)), (0, .ref mq)]) hx hb dX6_wipe_4 rfl hl (by decide) rfl (fun ls hl => ?_)
  refine lv_aload_n hx hb dX6_wipe_5 rfl (lv_at hl 1 rfl) ?_
  refine lv_iconst (v := nI (0)) hx hb dX6_wipe_6 (by decide) ?_
  refine va_put (D := D) (ci := 6) (v := .int (nI 0)) (ty := .int) (C := RX6) (T := TX6) (N := 20) hx hb hts hiX6 tyX6 tyX6_ok nmX6 hown hKB.1 hP hD hS 0 rfl rfl 5 (by decide) fl78 (fun _ h9 => h9) rfl (by decide +kernel) rfl rfl (Nat.le_of_ble_eq_true rfl) dX6_wipe_7 (fun H locs hP hD hS => ?_)
  have hP : va_P D vwCl [(mq, .inr (6, [.ref mw, .int (nI slip), .int (nI h), .int (nI kd), .ref ms, .int (nI 0), .ref ml, .int (nI nl), .ref mh, .int (nI hn), .ref mr, .int (nI rm), .ref mst, .long (lN lo), .ref mn, .ref mth, .long (lN lon), .ref mld, .ref mpk, .ref mcm]))] _ := hP
  have hD : va_D A [(mq, .inr (6, [.ref mw, .int (nI slip), .int (nI h), .int (nI kd), .ref ms, .int (nI 0), .ref ml, .int (nI nl), .ref mh, .int (nI hn), .ref mr, .int (nI rm), .ref mst, .long (lN lo), .ref mn, .ref mth, .long (lN lon), .ref mld, .ref mpk, .ref mcm]))] := hD
  refine lv_iload_n hx hb dX6_wipe_10 rfl (lv_at hl 0 rfl) ?_
  exact w_iret hx hb hr hlk hQ hAe () hP hD hS (rfl) dX6_wipe_11

set_option maxHeartbeats 4000000 in
set_option maxRecDepth 100000 in
theorem m_X6_fault (l : Launch) (D : va_G) (cI cJ : ClassId) (mq : Nat) (mw : Nat) (slip : Nat) (h : Nat) (kd : Nat) (ms : Nat) (cnt : Nat) (ml : Nat) (nl : Nat) (mh : Nat) (hn : Nat) (mr : Nat) (rm : Nat) (mst : Nat) (lo : Nat) (mn : Nat) (mth : Nat) (lon : Nat) (mld : Nat) (mpk : Nat) (mcm : Nat) (cd : Nat → Nat) (hcnt : cnt ≤ 40) (hcd : ∀ j, cd j < 127) : Met l yX6_fault wsX6_fault ({ frames := 1, cells := 0, slots := 0, locals := 25 }) (PR D cI cJ [(mq, .inr (6, [.ref mw, .int (nI slip), .int (nI h), .int (nI kd), .ref ms, .int (nI cnt), .ref ml, .int (nI nl), .ref mh, .int (nI hn), .ref mr, .int (nI rm), .ref mst, .long (lN lo), .ref mn, .ref mth, .long (lN lon), .ref mld, .ref mpk, .ref mcm])), (ms, .inl (cI, 40, .inl (nF cd)))] [.ref mq]) (QRi (fun r => r = ffI cd cnt)) 0 0 NA := by
  refine met_R (cc := cX6_fault) (maxL := 5) (ret := (some .int)) (by decide) rfl (Nat.le_of_ble_eq_true rfl) ?_
  intro p e s m args below meth c Q ls hQ hAt hKB hP hl
  obtain ⟨hx, hb, hr, hml, hlk, hts, hown, hnm⟩ := hAt
  have hown : s.vm.findClass RX6 = some m.cls := hown
  have hS : va_S NA s.heap s.heap [] := va_S.rf
  have hl : lv_has ls 5 [(0, .ref mq)] := hl
  have hiX6 : ∀ w ∈ u_ws RX6 TX6 20, w ∈ wsX6_fault := by decide +kernel
  have fl78 := hts (.fieldLink RX6 78 "TaughtTonguesModel" "signMany" "I") (by decide +kernel)
  have fl13 := hts (.fieldLink RX6 13 "TaughtTonguesModel" "signs" "[I") (by decide +kernel)
  have kl81 := hts (.constantLong RX6 81 (lN (49))) (by decide +kernel)
  have kl83 := hts (.constantLong RX6 83 (lN (57))) (by decide +kernel)
  refine lv_iconst (v := nI (0)) hx hb dX6_fault_0 (by decide) ?_
  refine lv_istore_n (lv' := [(1, .int (nI 0)), (0, .ref mq)]) hx hb dX6_fault_1 rfl hl (by decide) rfl (fun ls hl => ?_)
  have L2 : ∀ (n : Nat) (k : Nat) (H : Heap) (locs : List Loc) (ls : Array Slot), cnt - k < n → (k ≤ cnt) → (∀ j, j < k → bad cd j = false) → va_P D vwCl [(mq, .inr (6, [.ref mw, .int (nI slip), .int (nI h), .int (nI kd), .ref ms, .int (nI cnt), .ref ml, .int (nI nl), .ref mh, .int (nI hn), .ref mr, .int (nI rm), .ref mst, .long (lN lo), .ref mn, .ref mth, .long (lN lon), .ref mld, .ref mpk, .ref mcm])), (ms, .inl (cI, 40, .inl (nF cd)))] H → va_S NA s.heap H locs → lv_has ls 5 [(1, .int (nI k)), (0, .ref mq)] → W p l e ({ frames := 1, cells := 0, slots := 0, locals := 25 }) s m args below meth c H locs 0 0 Q (F0 m 2 ls []) := by
    intro n
    induction n with
    | zero => intro k H locs ls hm; exact absurd hm (Nat.not_lt_zero _)
    | succ n ih2 =>
      intro k H locs ls hm hk hok hP hS hl
      refine lv_iload_n hx hb dX6_fault_2 rfl (lv_at hl 0 rfl) ?_
      refine lv_aload_n hx hb dX6_fault_3 rfl (lv_at hl 1 rfl) ?_
      refine va_get (D := D) (ci := 6) (v := .int (nI cnt)) (C := RX6) (T := TX6) (N := 20) hx hb hts hiX6 hown hKB.1 hP 0 rfl rfl 5 (by decide) fl78 (fun _ h9 => h9) rfl dX6_fault_4 ?_
      refine r_icmp_ge (a := k) (b := cnt) (tgt := 117) hx hb dX6_fault_7 (by decide) (by omega) (by omega)  (fun c7 => ?_) (fun c7 => ?_)
      · skip
        obtain rfl : cnt = k := by omega
        refine lv_aload_n hx hb dX6_fault_117 rfl (lv_at hl 1 rfl) ?_
        refine va_get (D := D) (ci := 6) (v := .int (nI cnt)) (C := RX6) (T := TX6) (N := 20) hx hb hts hiX6 hown hKB.1 hP 0 rfl rfl 5 (by decide) fl78 (fun _ h9 => h9) rfl dX6_fault_118 ?_
        refine lv_bipush (v := nI (6)) hx hb dX6_fault_121 (by decide) ?_
        refine r_irem (a := cnt) (b := 6) hx hb dX6_fault_123 (by omega) (by omega) (by omega) ?_
        refine lv_iconst (v := nI (5)) hx hb dX6_fault_124 (by decide) ?_
        refine r_icmp_ne (a := cnt % 6) (b := 5) (tgt := 133) hx hb dX6_fault_125 (by decide) (by omega) (by omega)  (fun c125 => ?_) (fun c125 => ?_)
        · skip
          refine lv_aload_n hx hb dX6_fault_133 rfl (lv_at hl 1 rfl) ?_
          refine va_get (D := D) (ci := 6) (v := .int (nI cnt)) (C := RX6) (T := TX6) (N := 20) hx hb hts hiX6 hown hKB.1 hP 0 rfl rfl 5 (by decide) fl78 (fun _ h9 => h9) rfl dX6_fault_134 ?_
          exact r_iret hx hb hr hlk hQ hS (by rw [ffI_end hok]; first | rw [if_pos c125] | rw [if_neg c125]) dX6_fault_137
        refine lv_bipush (v := (-6)) hx hb dX6_fault_128 (by decide) ?_
        refine lv_goto (tgt := 137) hx hb dX6_fault_130 (by decide) ?_
        exact r_iret hx hb hr hlk hQ hS (by rw [ffI_end hok]; first | rw [if_pos c125] | rw [if_neg c125]) dX6_fault_137
      refine lv_aload_n hx hb dX6_fault_10 rfl (lv_at hl 1 rfl) ?_
      refine va_get (D := D) (ci := 6) (v := .ref ms) (C := RX6) (T := TX6) (N := 20) hx hb hts hiX6 hown hKB.1 hP 0 rfl rfl 4 (by decide) fl13 (fun _ h9 => h9) rfl dX6_fault_11 ?_
      refine lv_iload_n hx hb dX6_fault_14 rfl (lv_at hl 0 rfl) ?_
      refine r_iald (i := k) (v := nI (cd k)) hx hb hKB.1 hP 1 0 rfl rfl (by omega) (by decide) (rfl) dX6_fault_15 ?_
      refine lv_istore_n (lv' := [(2, .int (nI (cd k))), (1, .int (nI k)), (0, .ref mq)]) hx hb dX6_fault_16 rfl hl (by decide) rfl (fun ls hl => ?_)
      have hck := hcd k
      refine lv_iload_n hx hb dX6_fault_17 rfl (lv_at hl 1 rfl) ?_
      refine lv_bipush (v := nI (6)) hx hb dX6_fault_18 (by decide) ?_
      refine r_irem (a := k) (b := 6) hx hb dX6_fault_20 (by omega) (by omega) (by omega) ?_
      refine lv_istore_n (lv' := [(3, .int (nI (k % 6))), (2, .int (nI (cd k))), (1, .int (nI k)), (0, .ref mq)]) hx hb dX6_fault_21 rfl hl (by decide) rfl (fun ls hl => ?_)
      refine lv_iload_n hx hb dX6_fault_22 rfl (lv_at hl 0 rfl) ?_
      refine lv_iconst (v := nI (3)) hx hb dX6_fault_23 (by decide) ?_
      refine r_icmp_ge (a := k % 6) (b := 3) (tgt := 53) hx hb dX6_fault_24 (by decide) (by omega) (by omega)  (fun c24 => ?_) (fun c24 => ?_)
      · skip
        refine lv_iload_n hx hb dX6_fault_53 rfl (lv_at hl 0 rfl) ?_
        refine lv_iconst (v := nI (3)) hx hb dX6_fault_54 (by decide) ?_
        refine r_icmp_ne (a := k % 6) (b := 3) (tgt := 72) hx hb dX6_fault_55 (by decide) (by omega) (by omega)  (fun c55 => ?_) (fun c55 => ?_)
        · skip
          refine lv_iload_n hx hb dX6_fault_72 rfl (lv_at hl 0 rfl) ?_
          refine lv_iconst (v := nI (4)) hx hb dX6_fault_73 (by decide) ?_
          refine r_icmp_ne (a := k % 6) (b := 4) (tgt := 91) hx hb dX6_fault_74 (by decide) (by omega) (by omega)  (fun c74 => ?_) (fun c74 => ?_)
          · skip
            refine lv_iload_n hx hb dX6_fault_91 rfl (lv_at hl 1 rfl) ?_
            refine lv_bipush (v := nI (59)) hx hb dX6_fault_92 (by decide) ?_
            refine r_icmp_ne (a := cd k) (b := 59) (tgt := 101) hx hb dX6_fault_94 (by decide) (by omega) (by omega)  (fun c94 => ?_) (fun c94 => ?_)
            · skip
              refine lv_iconst (v := nI (0)) hx hb dX6_fault_101 (by decide) ?_
              refine lv_istore (lv' := [(4, .int (nI 0)), (3, .int (nI (k % 6))), (2, .int (nI (cd k))), (1, .int (nI k)), (0, .ref mq)]) hx hb dX6_fault_102 hl (by decide) rfl (fun ls hl => ?_)
              refine lv_iload hx hb dX6_fault_104 (lv_at hl 0 rfl) ?_
              refine r_if_ne (a := 0) (tgt := 111) hx hb dX6_fault_106 (by decide) (by decide) (fun c106 => ?_) (fun c106 => ?_)
              · exact absurd c106 (by decide)
              refine lv_iload_n hx hb dX6_fault_109 rfl (lv_at hl 3 rfl) ?_
              exact r_iret hx hb hr hlk hQ hS (by rw [ffI_hit c7 hok (by rw [bad, show cst (cd k) (k % 6) = false from by first | exact Bool.eq_false_iff.mpr (fun h => by have := cst_iff.mp h; omega) | exact Bool.eq_false_iff.mpr (fun h => by have := cst_iff.mp h; simp only [Bool.and_eq_false_iff, decide_eq_false_iff_not] at c106; omega)]; rfl)]) dX6_fault_110
            refine lv_iconst (v := nI (1)) hx hb dX6_fault_97 (by decide) ?_
            refine lv_goto (tgt := 102) hx hb dX6_fault_98 (by decide) ?_
            refine lv_istore (lv' := [(4, .int (nI 1)), (3, .int (nI (k % 6))), (2, .int (nI (cd k))), (1, .int (nI k)), (0, .ref mq)]) hx hb dX6_fault_102 hl (by decide) rfl (fun ls hl => ?_)
            refine lv_iload hx hb dX6_fault_104 (lv_at hl 0 rfl) ?_
            refine r_if_ne (a := 1) (tgt := 111) hx hb dX6_fault_106 (by decide) (by decide) (fun c106 => ?_) (fun c106 => ?_)
            · skip
              refine lv_iinc (v := nI (k + 1)) (lv' := [(1, .int (nI (k + 1))), (4, .int (nI 1)), (3, .int (nI (k % 6))), (2, .int (nI (cd k))), (0, .ref mq)]) hx hb dX6_fault_111 hl (k := 3) rfl (n_inc _ 1) (by decide) rfl (fun ls hl => ?_)
              refine lv_goto (tgt := 2) hx hb dX6_fault_114 (by decide) ?_
              exact ih2 (k + 1) _ _ _ (by omega) (by omega) (bad_s hok (by first | exact cst_iff.mpr (by omega) | exact cst_iff.mpr (by simp only [Bool.and_eq_true, decide_eq_true_eq] at c106; omega))) hP hS (lv_sub hl [0, 4] rfl)
            exact absurd c106 (by decide)
          refine lv_iload_n hx hb dX6_fault_77 rfl (lv_at hl 1 rfl) ?_
          refine r_i2l (a := cd k) hx hb dX6_fault_78 (by omega) ?_
          refine lv_ldc2 hx hb hown kl81 dX6_fault_79 ?_
          refine lv_ldc2 hx hb hown kl83 dX6_fault_82 ?_
          have hPc := hP.sub (ws' := []) [] rfl
          refine r_calli hP hS (va_runS (As := [.long (lN (cd k)), .long (lN 49), .long (lN 57)]) (rest := []) ⟨hx, hb, hml, hown, hts⟩ (m_X6_in l D cI cJ (lN (cd k)) (lN (49)) (lN (57))) (va_cwS 3 hts gX6_fault_X6_in rfl rfl rfl (by decide +kernel) ⟨Nat.le_of_ble_eq_true rfl, Nat.le_of_ble_eq_true rfl⟩) ⟨PR.blind, fun U hU hW => ⟨rfl, hKB.warm hW, by rw [hU]; exact hPc⟩⟩ rfl rfl hl.1 rfl (lv_room (Nat.le_of_ble_eq_true rfl)) dX6_fault_85 ⟨Nat.le_of_ble_eq_true rfl, Nat.le_of_ble_eq_true rfl⟩) (fun r1 H locs hw85 hP hS => ?_)
          have hw85 : r1 = bI (inL (lN (cd k)) (lN (49)) (lN (57))) := hw85
          subst hw85
          refine lv_topi (fun z2 ez2 => ?_)
          obtain rfl : z2 = bI (decide (49 ≤ cd k) && decide (cd k ≤ 57)) := ez2.trans (congrArg bI (inL_N (by omega) (by decide) (by decide)))
          refine lv_goto (tgt := 102) hx hb dX6_fault_88 (by decide) ?_
          refine lv_istore (lv' := [(4, .int (bI (decide (49 ≤ cd k) && decide (cd k ≤ 57)))), (3, .int (nI (k % 6))), (2, .int (nI (cd k))), (1, .int (nI k)), (0, .ref mq)]) hx hb dX6_fault_102 hl (by decide) rfl (fun ls hl => ?_)
          refine lv_iload hx hb dX6_fault_104 (lv_at hl 0 rfl) ?_
          refine r_bif_ne (b := decide (49 ≤ cd k) && decide (cd k ≤ 57)) (tgt := 111) hx hb dX6_fault_106 (by decide) (fun c106 => ?_) (fun c106 => ?_)
          · skip
            refine lv_iinc (v := nI (k + 1)) (lv' := [(1, .int (nI (k + 1))), (4, .int (bI (decide (49 ≤ cd k) && decide (cd k ≤ 57)))), (3, .int (nI (k % 6))), (2, .int (nI (cd k))), (0, .ref mq)]) hx hb dX6_fault_111 hl (k := 3) rfl (n_inc _ 1) (by decide) rfl (fun ls hl => ?_)
            refine lv_goto (tgt := 2) hx hb dX6_fault_114 (by decide) ?_
            exact ih2 (k + 1) _ _ _ (by omega) (by omega) (bad_s hok (by first | exact cst_iff.mpr (by omega) | exact cst_iff.mpr (by simp only [Bool.and_eq_true, decide_eq_true_eq] at c106; omega))) hP hS (lv_sub hl [0, 4] rfl)
          refine lv_iload_n hx hb dX6_fault_109 rfl (lv_at hl 3 rfl) ?_
          exact r_iret hx hb hr hlk hQ hS (by rw [ffI_hit c7 hok (by rw [bad, show cst (cd k) (k % 6) = false from by first | exact Bool.eq_false_iff.mpr (fun h => by have := cst_iff.mp h; omega) | exact Bool.eq_false_iff.mpr (fun h => by have := cst_iff.mp h; simp only [Bool.and_eq_false_iff, decide_eq_false_iff_not] at c106; omega)]; rfl)]) dX6_fault_110
        refine lv_iload_n hx hb dX6_fault_58 rfl (lv_at hl 1 rfl) ?_
        refine lv_bipush (v := nI (58)) hx hb dX6_fault_59 (by decide) ?_
        refine r_icmp_ne (a := cd k) (b := 58) (tgt := 68) hx hb dX6_fault_61 (by decide) (by omega) (by omega)  (fun c61 => ?_) (fun c61 => ?_)
        · skip
          refine lv_iconst (v := nI (0)) hx hb dX6_fault_68 (by decide) ?_
          refine lv_goto (tgt := 102) hx hb dX6_fault_69 (by decide) ?_
          refine lv_istore (lv' := [(4, .int (nI 0)), (3, .int (nI (k % 6))), (2, .int (nI (cd k))), (1, .int (nI k)), (0, .ref mq)]) hx hb dX6_fault_102 hl (by decide) rfl (fun ls hl => ?_)
          refine lv_iload hx hb dX6_fault_104 (lv_at hl 0 rfl) ?_
          refine r_if_ne (a := 0) (tgt := 111) hx hb dX6_fault_106 (by decide) (by decide) (fun c106 => ?_) (fun c106 => ?_)
          · exact absurd c106 (by decide)
          refine lv_iload_n hx hb dX6_fault_109 rfl (lv_at hl 3 rfl) ?_
          exact r_iret hx hb hr hlk hQ hS (by rw [ffI_hit c7 hok (by rw [bad, show cst (cd k) (k % 6) = false from by first | exact Bool.eq_false_iff.mpr (fun h => by have := cst_iff.mp h; omega) | exact Bool.eq_false_iff.mpr (fun h => by have := cst_iff.mp h; simp only [Bool.and_eq_false_iff, decide_eq_false_iff_not] at c106; omega)]; rfl)]) dX6_fault_110
        refine lv_iconst (v := nI (1)) hx hb dX6_fault_64 (by decide) ?_
        refine lv_goto (tgt := 102) hx hb dX6_fault_65 (by decide) ?_
        refine lv_istore (lv' := [(4, .int (nI 1)), (3, .int (nI (k % 6))), (2, .int (nI (cd k))), (1, .int (nI k)), (0, .ref mq)]) hx hb dX6_fault_102 hl (by decide) rfl (fun ls hl => ?_)
        refine lv_iload hx hb dX6_fault_104 (lv_at hl 0 rfl) ?_
        refine r_if_ne (a := 1) (tgt := 111) hx hb dX6_fault_106 (by decide) (by decide) (fun c106 => ?_) (fun c106 => ?_)
        · skip
          refine lv_iinc (v := nI (k + 1)) (lv' := [(1, .int (nI (k + 1))), (4, .int (nI 1)), (3, .int (nI (k % 6))), (2, .int (nI (cd k))), (0, .ref mq)]) hx hb dX6_fault_111 hl (k := 3) rfl (n_inc _ 1) (by decide) rfl (fun ls hl => ?_)
          refine lv_goto (tgt := 2) hx hb dX6_fault_114 (by decide) ?_
          exact ih2 (k + 1) _ _ _ (by omega) (by omega) (bad_s hok (by first | exact cst_iff.mpr (by omega) | exact cst_iff.mpr (by simp only [Bool.and_eq_true, decide_eq_true_eq] at c106; omega))) hP hS (lv_sub hl [0, 4] rfl)
        exact absurd c106 (by decide)
      refine lv_iload_n hx hb dX6_fault_27 rfl (lv_at hl 1 rfl) ?_
      refine lv_bipush (v := nI (48)) hx hb dX6_fault_28 (by decide) ?_
      refine r_icmp_eq (a := cd k) (b := 48) (tgt := 45) hx hb dX6_fault_30 (by decide) (by omega) (by omega)  (fun c30 => ?_) (fun c30 => ?_)
      · skip
        refine lv_iconst (v := nI (1)) hx hb dX6_fault_45 (by decide) ?_
        refine lv_goto (tgt := 102) hx hb dX6_fault_46 (by decide) ?_
        refine lv_istore (lv' := [(4, .int (nI 1)), (3, .int (nI (k % 6))), (2, .int (nI (cd k))), (1, .int (nI k)), (0, .ref mq)]) hx hb dX6_fault_102 hl (by decide) rfl (fun ls hl => ?_)
        refine lv_iload hx hb dX6_fault_104 (lv_at hl 0 rfl) ?_
        refine r_if_ne (a := 1) (tgt := 111) hx hb dX6_fault_106 (by decide) (by decide) (fun c106 => ?_) (fun c106 => ?_)
        · skip
          refine lv_iinc (v := nI (k + 1)) (lv' := [(1, .int (nI (k + 1))), (4, .int (nI 1)), (3, .int (nI (k % 6))), (2, .int (nI (cd k))), (0, .ref mq)]) hx hb dX6_fault_111 hl (k := 3) rfl (n_inc _ 1) (by decide) rfl (fun ls hl => ?_)
          refine lv_goto (tgt := 2) hx hb dX6_fault_114 (by decide) ?_
          exact ih2 (k + 1) _ _ _ (by omega) (by omega) (bad_s hok (by first | exact cst_iff.mpr (by omega) | exact cst_iff.mpr (by simp only [Bool.and_eq_true, decide_eq_true_eq] at c106; omega))) hP hS (lv_sub hl [0, 4] rfl)
        exact absurd c106 (by decide)
      refine lv_iload_n hx hb dX6_fault_33 rfl (lv_at hl 1 rfl) ?_
      refine lv_bipush (v := nI (49)) hx hb dX6_fault_34 (by decide) ?_
      refine r_icmp_eq (a := cd k) (b := 49) (tgt := 45) hx hb dX6_fault_36 (by decide) (by omega) (by omega)  (fun c36 => ?_) (fun c36 => ?_)
      · skip
        refine lv_iconst (v := nI (1)) hx hb dX6_fault_45 (by decide) ?_
        refine lv_goto (tgt := 102) hx hb dX6_fault_46 (by decide) ?_
        refine lv_istore (lv' := [(4, .int (nI 1)), (3, .int (nI (k % 6))), (2, .int (nI (cd k))), (1, .int (nI k)), (0, .ref mq)]) hx hb dX6_fault_102 hl (by decide) rfl (fun ls hl => ?_)
        refine lv_iload hx hb dX6_fault_104 (lv_at hl 0 rfl) ?_
        refine r_if_ne (a := 1) (tgt := 111) hx hb dX6_fault_106 (by decide) (by decide) (fun c106 => ?_) (fun c106 => ?_)
        · skip
          refine lv_iinc (v := nI (k + 1)) (lv' := [(1, .int (nI (k + 1))), (4, .int (nI 1)), (3, .int (nI (k % 6))), (2, .int (nI (cd k))), (0, .ref mq)]) hx hb dX6_fault_111 hl (k := 3) rfl (n_inc _ 1) (by decide) rfl (fun ls hl => ?_)
          refine lv_goto (tgt := 2) hx hb dX6_fault_114 (by decide) ?_
          exact ih2 (k + 1) _ _ _ (by omega) (by omega) (bad_s hok (by first | exact cst_iff.mpr (by omega) | exact cst_iff.mpr (by simp only [Bool.and_eq_true, decide_eq_true_eq] at c106; omega))) hP hS (lv_sub hl [0, 4] rfl)
        exact absurd c106 (by decide)
      refine lv_iload_n hx hb dX6_fault_39 rfl (lv_at hl 1 rfl) ?_
      refine lv_bipush (v := nI (42)) hx hb dX6_fault_40 (by decide) ?_
      refine r_icmp_ne (a := cd k) (b := 42) (tgt := 49) hx hb dX6_fault_42 (by decide) (by omega) (by omega)  (fun c42 => ?_) (fun c42 => ?_)
      · skip
        refine lv_iconst (v := nI (0)) hx hb dX6_fault_49 (by decide) ?_
        refine lv_goto (tgt := 102) hx hb dX6_fault_50 (by decide) ?_
        refine lv_istore (lv' := [(4, .int (nI 0)), (3, .int (nI (k % 6))), (2, .int (nI (cd k))), (1, .int (nI k)), (0, .ref mq)]) hx hb dX6_fault_102 hl (by decide) rfl (fun ls hl => ?_)
        refine lv_iload hx hb dX6_fault_104 (lv_at hl 0 rfl) ?_
        refine r_if_ne (a := 0) (tgt := 111) hx hb dX6_fault_106 (by decide) (by decide) (fun c106 => ?_) (fun c106 => ?_)
        · exact absurd c106 (by decide)
        refine lv_iload_n hx hb dX6_fault_109 rfl (lv_at hl 3 rfl) ?_
        exact r_iret hx hb hr hlk hQ hS (by rw [ffI_hit c7 hok (by rw [bad, show cst (cd k) (k % 6) = false from by first | exact Bool.eq_false_iff.mpr (fun h => by have := cst_iff.mp h; omega) | exact Bool.eq_false_iff.mpr (fun h => by have := cst_iff.mp h; simp only [Bool.and_eq_false_iff, decide_eq_false_iff_not] at c106; omega)]; rfl)]) dX6_fault_110
      refine lv_iconst (v := nI (1)) hx hb dX6_fault_45 (by decide) ?_
      refine lv_goto (tgt := 102) hx hb dX6_fault_46 (by decide) ?_
      refine lv_istore (lv' := [(4, .int (nI 1)), (3, .int (nI (k % 6))), (2, .int (nI (cd k))), (1, .int (nI k)), (0, .ref mq)]) hx hb dX6_fault_102 hl (by decide) rfl (fun ls hl => ?_)
      refine lv_iload hx hb dX6_fault_104 (lv_at hl 0 rfl) ?_
      refine r_if_ne (a := 1) (tgt := 111) hx hb dX6_fault_106 (by decide) (by decide) (fun c106 => ?_) (fun c106 => ?_)
      · skip
        refine lv_iinc (v := nI (k + 1)) (lv' := [(1, .int (nI (k + 1))), (4, .int (nI 1)), (3, .int (nI (k % 6))), (2, .int (nI (cd k))), (0, .ref mq)]) hx hb dX6_fault_111 hl (k := 3) rfl (n_inc _ 1) (by decide) rfl (fun ls hl => ?_)
        refine lv_goto (tgt := 2) hx hb dX6_fault_114 (by decide) ?_
        exact ih2 (k + 1) _ _ _ (by omega) (by omega) (bad_s hok (by first | exact cst_iff.mpr (by omega) | exact cst_iff.mpr (by simp only [Bool.and_eq_true, decide_eq_true_eq] at c106; omega))) hP hS (lv_sub hl [0, 4] rfl)
      exact absurd c106 (by decide)
  exact L2 (cnt - 0 + 1) 0 _ _ _ (Nat.lt_succ_self _) (by omega) (fun j hj => absurd hj (Nat.not_lt_zero j)) hP hS hl

set_option maxHeartbeats 4000000 in
set_option maxRecDepth 100000 in
theorem m_X6_beforehand (l : Launch) (D : va_G) (cI cJ : ClassId) (mq : Nat) (mw : Nat) (slip : Nat) (h : Nat) (kd : Nat) (ms : Nat) (cnt : Nat) (ml : Nat) (nl : Nat) (mh : Nat) (hn : Nat) (mr : Nat) (rm : Nat) (mst : Nat) (lo : Nat) (mn : Nat) (mth : Nat) (lon : Nat) (mld : Nat) (mpk : Nat) (mcm : Nat) (lg : Nat → Nat) (t : Nat) (ht : t < 8) (hnl7 : nl ≤ 7) (hlg : okL lg nl) : Met l yX6_beforehand wsX6_beforehand ({ frames := 0, cells := 0, slots := 0, locals := 0 }) (PR D cI cJ [(mq, .inr (6, [.ref mw, .int (nI slip), .int (nI h), .int (nI kd), .ref ms, .int (nI cnt), .ref ml, .int (nI nl), .ref mh, .int (nI hn), .ref mr, .int (nI rm), .ref mst, .long (lN lo), .ref mn, .ref mth, .long (lN lon), .ref mld, .ref mpk, .ref mcm])), (ml, .inl (cI, 28, .inl (nF lg)))] [.ref mq, .int (nI t)]) (QRi (fun r => r = nI (bfM lg t nl 0))) 0 0 NA := by
  refine met_R (cc := cX6_beforehand) (maxL := 6) (ret := (some .int)) (by decide) rfl (Nat.le_of_ble_eq_true rfl) ?_
  intro p e s m args below meth c Q ls hQ hAt hKB hP hl
  obtain ⟨hx, hb, hr, hml, hlk, hts, hown, hnm⟩ := hAt
  have hown : s.vm.findClass RX6 = some m.cls := hown
  have hS : va_S NA s.heap s.heap [] := va_S.rf
  have hl : lv_has ls 6 [(0, .ref mq), (1, .int (nI t))] := hl
  have hiX6 : ∀ w ∈ u_ws RX6 TX6 20, w ∈ wsX6_beforehand := by decide +kernel
  have fl89 := hts (.fieldLink RX6 89 "TaughtTonguesModel" "lines" "I") (by decide +kernel)
  have fl16 := hts (.fieldLink RX6 16 "TaughtTonguesModel" "lineSigns" "[I") (by decide +kernel)
  refine lv_iconst (v := nI (0)) hx hb dX6_beforehand_0 (by decide) ?_
  refine lv_istore_n (lv' := [(2, .int (nI 0)), (0, .ref mq), (1, .int (nI t))]) hx hb dX6_beforehand_1 rfl hl (by decide) rfl (fun ls hl => ?_)
  have L2 : ∀ (n : Nat) (k : Nat) (H : Heap) (locs : List Loc) (ls : Array Slot), nl - k < n → (k ≤ nl) → (bfM lg t nl 0 = bfM lg t (nl - k) k) → va_P D vwCl [(mq, .inr (6, [.ref mw, .int (nI slip), .int (nI h), .int (nI kd), .ref ms, .int (nI cnt), .ref ml, .int (nI nl), .ref mh, .int (nI hn), .ref mr, .int (nI rm), .ref mst, .long (lN lo), .ref mn, .ref mth, .long (lN lon), .ref mld, .ref mpk, .ref mcm])), (ml, .inl (cI, 28, .inl (nF lg)))] H → va_S NA s.heap H locs → lv_has ls 6 [(2, .int (nI k)), (0, .ref mq), (1, .int (nI t))] → W p l e ({ frames := 0, cells := 0, slots := 0, locals := 0 }) s m args below meth c H locs 0 0 Q (F0 m 2 ls []) := by
    intro n
    induction n with
    | zero => intro k H locs ls hm; exact absurd hm (Nat.not_lt_zero _)
    | succ n ih2 =>
      intro k H locs ls hm hk hres hP hS hl
      refine lv_iload_n hx hb dX6_beforehand_2 rfl (lv_at hl 0 rfl) ?_
      refine lv_aload_n hx hb dX6_beforehand_3 rfl (lv_at hl 1 rfl) ?_
      refine va_get (D := D) (ci := 6) (v := .int (nI nl)) (C := RX6) (T := TX6) (N := 20) hx hb hts hiX6 hown hKB.1 hP 0 rfl rfl 7 (by decide) fl89 (fun _ h9 => h9) rfl dX6_beforehand_4 ?_
      refine r_icmp_ge (a := k) (b := nl) (tgt := 92) hx hb dX6_beforehand_7 (by decide) (by omega) (by omega)  (fun c7 => ?_) (fun c7 => ?_)
      · skip
        refine lv_iconst (v := nI (1)) hx hb dX6_beforehand_92 (by decide) ?_
        exact r_iret hx hb hr hlk hQ hS (by rw [hres, show nl - k = 0 by omega]; rfl) dX6_beforehand_93
      refine lv_iconst (v := nI (1)) hx hb dX6_beforehand_10 (by decide) ?_
      refine lv_istore_n (lv' := [(3, .int (nI 1)), (2, .int (nI k)), (0, .ref mq), (1, .int (nI t))]) hx hb dX6_beforehand_11 rfl hl (by decide) rfl (fun ls hl => ?_)
      refine lv_iconst (v := nI (0)) hx hb dX6_beforehand_12 (by decide) ?_
      refine lv_istore (lv' := [(4, .int (nI 0)), (3, .int (nI 1)), (2, .int (nI k)), (0, .ref mq), (1, .int (nI t))]) hx hb dX6_beforehand_13 hl (by decide) rfl (fun ls hl => ?_)
      have L15 : ∀ (n : Nat) (m3 : Nat) (H : Heap) (locs : List Loc) (ls : Array Slot), 3 - m3 < n → (m3 ≤ 3) → va_P D vwCl [(mq, .inr (6, [.ref mw, .int (nI slip), .int (nI h), .int (nI kd), .ref ms, .int (nI cnt), .ref ml, .int (nI nl), .ref mh, .int (nI hn), .ref mr, .int (nI rm), .ref mst, .long (lN lo), .ref mn, .ref mth, .long (lN lon), .ref mld, .ref mpk, .ref mcm])), (ml, .inl (cI, 28, .inl (nF lg)))] H → va_S NA s.heap H locs → lv_has ls 6 [(4, .int (nI m3)), (3, .int (nI (fN lg k t m3))), (2, .int (nI k)), (0, .ref mq), (1, .int (nI t))] → W p l e ({ frames := 0, cells := 0, slots := 0, locals := 0 }) s m args below meth c H locs 0 0 Q (F0 m 15 ls []) := by
        intro n
        induction n with
        | zero => intro m3 H locs ls hm; exact absurd hm (Nat.not_lt_zero _)
        | succ n ih15 =>
          intro m3 H locs ls hm hm3 hP hS hl
          refine lv_iload hx hb dX6_beforehand_15 (lv_at hl 0 rfl) ?_
          refine lv_iconst (v := nI (3)) hx hb dX6_beforehand_17 (by decide) ?_
          refine r_icmp_ge (a := m3) (b := 3) (tgt := 71) hx hb dX6_beforehand_18 (by decide) (by omega) (by omega)  (fun c18 => ?_) (fun c18 => ?_)
          · skip
            obtain rfl : 3 = m3 := by omega
            have hf1 := fN_le (lg := lg) (k := k) (t := t) 3
            refine lv_iload_n hx hb dX6_beforehand_71 rfl (lv_at hl 1 rfl) ?_
            refine r_if_eq (a := fN lg k t 3) (tgt := 86) hx hb dX6_beforehand_72 (by decide) (by omega) (fun c72 => ?_) (fun c72 => ?_)
            · skip
              refine lv_iinc (v := nI (k + 1)) (lv' := [(2, .int (nI (k + 1))), (4, .int (nI 3)), (3, .int (nI (fN lg k t 3))), (0, .ref mq), (1, .int (nI t))]) hx hb dX6_beforehand_86 hl (k := 2) rfl (n_inc _ 1) (by decide) rfl (fun ls hl => ?_)
              refine lv_goto (tgt := 2) hx hb dX6_beforehand_89 (by decide) ?_
              exact ih2 (k + 1) _ _ _ (by omega) (by omega) (hres.trans (bfM_miss (by omega) c72)) hP hS (lv_sub hl [0, 3, 4] rfl)
            refine lv_aload_n hx hb dX6_beforehand_75 rfl (lv_at hl 3 rfl) ?_
            refine va_get (D := D) (ci := 6) (v := .ref ml) (C := RX6) (T := TX6) (N := 20) hx hb hts hiX6 hown hKB.1 hP 0 rfl rfl 6 (by decide) fl16 (fun _ h9 => h9) rfl dX6_beforehand_76 ?_
            refine lv_iconst (v := nI (4)) hx hb dX6_beforehand_79 (by decide) ?_
            refine lv_iload_n hx hb dX6_beforehand_80 rfl (lv_at hl 2 rfl) ?_
            refine r_imul (a := 4) (b := k) hx hb dX6_beforehand_81  ?_
            refine lv_iconst (v := nI (3)) hx hb dX6_beforehand_82 (by decide) ?_
            refine r_iadd (a := 4 * k) (b := 3) hx hb dX6_beforehand_83  ?_
            refine r_iald (i := (4 * k) + 3) (v := nI (lg ((4 * k) + 3))) hx hb hKB.1 hP 1 0 rfl rfl (by omega) (by decide) (rfl) dX6_beforehand_84 ?_
            exact r_iret hx hb hr hlk hQ hS (by rw [hres, bfM_hit (by omega) c72]) dX6_beforehand_85
          refine lv_aload_n hx hb dX6_beforehand_21 rfl (lv_at hl 3 rfl) ?_
          refine va_get (D := D) (ci := 6) (v := .ref ml) (C := RX6) (T := TX6) (N := 20) hx hb hts hiX6 hown hKB.1 hP 0 rfl rfl 6 (by decide) fl16 (fun _ h9 => h9) rfl dX6_beforehand_22 ?_
          refine lv_iconst (v := nI (4)) hx hb dX6_beforehand_25 (by decide) ?_
          refine lv_iload_n hx hb dX6_beforehand_26 rfl (lv_at hl 2 rfl) ?_
          refine r_imul (a := 4) (b := k) hx hb dX6_beforehand_27  ?_
          refine lv_iload hx hb dX6_beforehand_28 (lv_at hl 0 rfl) ?_
          refine r_iadd (a := 4 * k) (b := m3) hx hb dX6_beforehand_30  ?_
          refine r_iald (i := (4 * k) + m3) (v := nI (lg ((4 * k) + m3))) hx hb hKB.1 hP 1 0 rfl rfl (by omega) (by decide) (rfl) dX6_beforehand_31 ?_
          refine lv_istore (lv' := [(5, .int (nI (lg ((4 * k) + m3)))), (4, .int (nI m3)), (3, .int (nI (fN lg k t m3))), (2, .int (nI k)), (0, .ref mq), (1, .int (nI t))]) hx hb dX6_beforehand_32 hl (by decide) rfl (fun ls hl => ?_)
          have hl1 := hlg k c7 m3 c18
          have hf1 := fN_le (lg := lg) (k := k) (t := t) m3
          have hfo : (t >>> m3) &&& 1 ≤ 1 := Nat.and_le_right
          refine lv_iload_n hx hb dX6_beforehand_34 rfl (lv_at hl 2 rfl) ?_
          refine r_if_eq (a := fN lg k t m3) (tgt := 63) hx hb dX6_beforehand_35 (by decide) (by omega) (fun c35 => ?_) (fun c35 => ?_)
          · skip
            refine lv_iconst (v := nI (0)) hx hb dX6_beforehand_63 (by decide) ?_
            refine lv_istore_n (lv' := [(3, .int (nI 0)), (5, .int (nI (lg ((4 * k) + m3)))), (4, .int (nI m3)), (2, .int (nI k)), (0, .ref mq), (1, .int (nI t))]) hx hb dX6_beforehand_64 rfl hl (by decide) rfl (fun ls hl => ?_)
            have hl := lv_ch hl 0 (v2 := .int (nI (fN lg k t (m3 + 1)))) (l2 := [(3, .int (nI (fN lg k t (m3 + 1)))), (5, .int (nI (lg ((4 * k) + m3)))), (4, .int (nI m3)), (2, .int (nI k)), (0, .ref mq), (1, .int (nI t))]) rfl (congrArg Value.int (congrArg nI (by rw [fN, show fo t m3 = (t >>> m3) &&& 1 from rfl]; first | rw [if_pos c35] | rw [if_neg c35, if_pos c42] | rw [if_neg c35, if_neg c42, if_pos c56] | rw [if_neg c35, if_neg c42, if_neg c56]))) rfl
            refine lv_iinc (v := nI (m3 + 1)) (lv' := [(4, .int (nI (m3 + 1))), (3, .int (nI (fN lg k t (m3 + 1)))), (5, .int (nI (lg ((4 * k) + m3)))), (2, .int (nI k)), (0, .ref mq), (1, .int (nI t))]) hx hb dX6_beforehand_65 hl (k := 2) rfl (n_inc _ 1) (by decide) rfl (fun ls hl => ?_)
            refine lv_goto (tgt := 15) hx hb dX6_beforehand_68 (by decide) ?_
            exact ih15 (m3 + 1) _ _ _ (by omega) (by omega) hP hS (lv_sub hl [0, 1, 3, 4, 5] rfl)
          refine lv_iload hx hb dX6_beforehand_38 (lv_at hl 0 rfl) ?_
          refine lv_bipush (v := nI (42)) hx hb dX6_beforehand_40 (by decide) ?_
          refine r_icmp_eq (a := lg ((4 * k) + m3)) (b := 42) (tgt := 59) hx hb dX6_beforehand_42 (by decide) (by omega) (by omega)  (fun c42 => ?_) (fun c42 => ?_)
          · skip
            refine lv_iconst (v := nI (1)) hx hb dX6_beforehand_59 (by decide) ?_
            refine lv_goto (tgt := 64) hx hb dX6_beforehand_60 (by decide) ?_
            refine lv_istore_n (lv' := [(3, .int (nI 1)), (5, .int (nI (lg ((4 * k) + m3)))), (4, .int (nI m3)), (2, .int (nI k)), (0, .ref mq), (1, .int (nI t))]) hx hb dX6_beforehand_64 rfl hl (by decide) rfl (fun ls hl => ?_)
            have hl := lv_ch hl 0 (v2 := .int (nI (fN lg k t (m3 + 1)))) (l2 := [(3, .int (nI (fN lg k t (m3 + 1)))), (5, .int (nI (lg ((4 * k) + m3)))), (4, .int (nI m3)), (2, .int (nI k)), (0, .ref mq), (1, .int (nI t))]) rfl (congrArg Value.int (congrArg nI (by rw [fN, show fo t m3 = (t >>> m3) &&& 1 from rfl]; first | rw [if_pos c35] | rw [if_neg c35, if_pos c42] | rw [if_neg c35, if_neg c42, if_pos c56] | rw [if_neg c35, if_neg c42, if_neg c56]))) rfl
            refine lv_iinc (v := nI (m3 + 1)) (lv' := [(4, .int (nI (m3 + 1))), (3, .int (nI (fN lg k t (m3 + 1)))), (5, .int (nI (lg ((4 * k) + m3)))), (2, .int (nI k)), (0, .ref mq), (1, .int (nI t))]) hx hb dX6_beforehand_65 hl (k := 2) rfl (n_inc _ 1) (by decide) rfl (fun ls hl => ?_)
            refine lv_goto (tgt := 15) hx hb dX6_beforehand_68 (by decide) ?_
            exact ih15 (m3 + 1) _ _ _ (by omega) (by omega) hP hS (lv_sub hl [0, 1, 3, 4, 5] rfl)
          refine lv_iload hx hb dX6_beforehand_45 (lv_at hl 0 rfl) ?_
          refine lv_bipush (v := nI (48)) hx hb dX6_beforehand_47 (by decide) ?_
          refine r_isub (a := lg ((4 * k) + m3)) (b := 48) hx hb dX6_beforehand_49 (by omega) ?_
          refine lv_iload_n hx hb dX6_beforehand_50 rfl (lv_at hl 5 rfl) ?_
          refine lv_iload hx hb dX6_beforehand_51 (lv_at hl 1 rfl) ?_
          refine r_ishr (a := t) (b := m3) hx hb dX6_beforehand_53 (by omega) (by omega) ?_
          refine lv_iconst (v := nI (1)) hx hb dX6_beforehand_54 (by decide) ?_
          refine r_iand (a := t >>> m3) (b := 1) hx hb dX6_beforehand_55  ?_
          refine r_icmp_ne (a := (lg ((4 * k) + m3)) - 48) (b := (t >>> m3) &&& 1) (tgt := 63) hx hb dX6_beforehand_56 (by decide) (by omega) (by omega)  (fun c56 => ?_) (fun c56 => ?_)
          · skip
            refine lv_iconst (v := nI (0)) hx hb dX6_beforehand_63 (by decide) ?_
            refine lv_istore_n (lv' := [(3, .int (nI 0)), (5, .int (nI (lg ((4 * k) + m3)))), (4, .int (nI m3)), (2, .int (nI k)), (0, .ref mq), (1, .int (nI t))]) hx hb dX6_beforehand_64 rfl hl (by decide) rfl (fun ls hl => ?_)
            have hl := lv_ch hl 0 (v2 := .int (nI (fN lg k t (m3 + 1)))) (l2 := [(3, .int (nI (fN lg k t (m3 + 1)))), (5, .int (nI (lg ((4 * k) + m3)))), (4, .int (nI m3)), (2, .int (nI k)), (0, .ref mq), (1, .int (nI t))]) rfl (congrArg Value.int (congrArg nI (by rw [fN, show fo t m3 = (t >>> m3) &&& 1 from rfl]; first | rw [if_pos c35] | rw [if_neg c35, if_pos c42] | rw [if_neg c35, if_neg c42, if_pos c56] | rw [if_neg c35, if_neg c42, if_neg c56]))) rfl
            refine lv_iinc (v := nI (m3 + 1)) (lv' := [(4, .int (nI (m3 + 1))), (3, .int (nI (fN lg k t (m3 + 1)))), (5, .int (nI (lg ((4 * k) + m3)))), (2, .int (nI k)), (0, .ref mq), (1, .int (nI t))]) hx hb dX6_beforehand_65 hl (k := 2) rfl (n_inc _ 1) (by decide) rfl (fun ls hl => ?_)
            refine lv_goto (tgt := 15) hx hb dX6_beforehand_68 (by decide) ?_
            exact ih15 (m3 + 1) _ _ _ (by omega) (by omega) hP hS (lv_sub hl [0, 1, 3, 4, 5] rfl)
          refine lv_iconst (v := nI (1)) hx hb dX6_beforehand_59 (by decide) ?_
          refine lv_goto (tgt := 64) hx hb dX6_beforehand_60 (by decide) ?_
          refine lv_istore_n (lv' := [(3, .int (nI 1)), (5, .int (nI (lg ((4 * k) + m3)))), (4, .int (nI m3)), (2, .int (nI k)), (0, .ref mq), (1, .int (nI t))]) hx hb dX6_beforehand_64 rfl hl (by decide) rfl (fun ls hl => ?_)
          have hl := lv_ch hl 0 (v2 := .int (nI (fN lg k t (m3 + 1)))) (l2 := [(3, .int (nI (fN lg k t (m3 + 1)))), (5, .int (nI (lg ((4 * k) + m3)))), (4, .int (nI m3)), (2, .int (nI k)), (0, .ref mq), (1, .int (nI t))]) rfl (congrArg Value.int (congrArg nI (by rw [fN, show fo t m3 = (t >>> m3) &&& 1 from rfl]; first | rw [if_pos c35] | rw [if_neg c35, if_pos c42] | rw [if_neg c35, if_neg c42, if_pos c56] | rw [if_neg c35, if_neg c42, if_neg c56]))) rfl
          refine lv_iinc (v := nI (m3 + 1)) (lv' := [(4, .int (nI (m3 + 1))), (3, .int (nI (fN lg k t (m3 + 1)))), (5, .int (nI (lg ((4 * k) + m3)))), (2, .int (nI k)), (0, .ref mq), (1, .int (nI t))]) hx hb dX6_beforehand_65 hl (k := 2) rfl (n_inc _ 1) (by decide) rfl (fun ls hl => ?_)
          refine lv_goto (tgt := 15) hx hb dX6_beforehand_68 (by decide) ?_
          exact ih15 (m3 + 1) _ _ _ (by omega) (by omega) hP hS (lv_sub hl [0, 1, 3, 4, 5] rfl)
      exact L15 (3 - 0 + 1) 0 _ _ _ (Nat.lt_succ_self _) (by omega) hP hS hl
  exact L2 (nl - 0 + 1) 0 _ _ _ (Nat.lt_succ_self _) (by omega) (rfl) hP hS hl

set_option maxHeartbeats 4000000 in
set_option maxRecDepth 100000 in
theorem m_X6_number (l : Launch) (D : va_G) (cI cJ : ClassId) (mq : Nat) (mw : Nat) (slip : Nat) (h : Nat) (kd : Nat) (ms : Nat) (cnt : Nat) (ml : Nat) (nl : Nat) (mh : Nat) (hn : Nat) (mr : Nat) (rm : Nat) (mst : Nat) (lo : Nat) (mn : Nat) (mth : Nat) (lon : Nat) (mld : Nat) (mpk : Nat) (mcm : Nat) (lg : Nat → Nat) (num : Nat → Nat) (p0 : Int32) (hnl7 : nl ≤ 7) (hlg : okL lg nl) (hbf : ∀ t, t < 8 → bfM lg t nl 0 = num t) : Met l yX6_number wsX6_number ({ frames := 2, cells := 0, slots := 0, locals := 45 }) (PR D cI cJ [(mq, .inr (6, [.ref mw, .int (nI slip), .int (nI h), .int (nI kd), .ref ms, .int (nI cnt), .ref ml, .int (nI nl), .ref mh, .int (nI hn), .ref mr, .int (nI rm), .ref mst, .long (lN lo), .ref mn, .ref mth, .long (lN lon), .ref mld, .ref mpk, .ref mcm])), (ml, .inl (cI, 28, .inl (nF lg)))] [.ref mq, .int p0]) (QRi (fun r => r = aNu num p0)) 0 0 NA := by
  refine met_R (cc := cX6_number) (maxL := 2) (ret := (some .int)) (by decide) rfl (Nat.le_of_ble_eq_true rfl) ?_
  intro p e s m args below meth c Q ls hQ hAt hKB hP hl
  obtain ⟨hx, hb, hr, hml, hlk, hts, hown, hnm⟩ := hAt
  have hown : s.vm.findClass RX6 = some m.cls := hown
  have hS : va_S NA s.heap s.heap [] := va_S.rf
  have hl : lv_has ls 2 [(0, .ref mq), (1, .int p0)] := hl
  refine lv_iload_n hx hb dX6_number_0 rfl (lv_at hl 1 rfl) ?_
  have hPc := hP.sub (ws' := []) [] rfl
  refine r_calli hP hS (va_runS (As := [.int p0]) (rest := []) ⟨hx, hb, hml, hown, hts⟩ (m_X6_isTongue l D cI cJ p0) (va_cwS 1 hts gX6_number_X6_isTongue rfl rfl rfl (by decide +kernel) ⟨Nat.le_of_ble_eq_true rfl, Nat.le_of_ble_eq_true rfl⟩) ⟨PR.blind, fun U hU hW => ⟨rfl, hKB.warm hW, by rw [hU]; exact hPc⟩⟩ rfl rfl hl.1 rfl (lv_room (Nat.le_of_ble_eq_true rfl)) dX6_number_1 ⟨Nat.le_of_ble_eq_true rfl, Nat.le_of_ble_eq_true rfl⟩) (fun r1 H locs hw1 hP hS => ?_)
  have hw1 : r1 = bI (inR p0 0 7) := hw1
  subst hw1
  refine r_bif_eq (b := inR p0 0 7) (tgt := 15) hx hb dX6_number_4 (by decide) (fun c4 => ?_) (fun c4 => ?_)
  · skip
    refine lv_iconst (v := (-1)) hx hb dX6_number_15 (by decide) ?_
    exact r_iret hx hb hr hlk hQ hS (by first | (simp only [aNu, c4, if_true, tN_n (show V < 2 ^ 31 by omega)]; done) | (simp [aNu, c4]; done)) dX6_number_16
  obtain ⟨V, -, hV, rfl⟩ := inR_t (by decide) (by decide) (c4)
  refine lv_aload_n hx hb dX6_number_7 rfl (lv_at hl 0 rfl) ?_
  refine lv_iload_n hx hb dX6_number_8 rfl (lv_at hl 1 rfl) ?_
  have hPc := hP.sub (ws' := [(mq, .inr (6, [.ref mw, .int (nI slip), .int (nI h), .int (nI kd), .ref ms, .int (nI cnt), .ref ml, .int (nI nl), .ref mh, .int (nI hn), .ref mr, .int (nI rm), .ref mst, .long (lN lo), .ref mn, .ref mth, .long (lN lon), .ref mld, .ref mpk, .ref mcm])), (ml, .inl (cI, 28, .inl (nF lg)))]) [0, 1] rfl
  refine r_calli hP hS (va_runV (As := [.int (nI V)]) (rest := []) ⟨hx, hb, hml, hown, hts⟩ (m_X6_beforehand l D cI cJ mq mw slip h kd ms cnt ml nl mh hn mr rm mst lo mn mth lon mld mpk mcm lg V (by omega) (by assumption) (by assumption)) (cwV 1 hts gX6_number_X6_beforehand rfl rfl rfl (by decide +kernel) ⟨Nat.le_of_ble_eq_true rfl, Nat.le_of_ble_eq_true rfl⟩) ⟨PR.blind, va_recv hKB.1 hP (ci := 6) (q0 := 0) rfl rfl, fun U hU hW => ⟨rfl, hKB.warm hW, by rw [hU]; exact hPc⟩⟩ rfl rfl hl.1 rfl (lv_room (Nat.le_of_ble_eq_true rfl)) dX6_number_9 ⟨Nat.le_of_ble_eq_true rfl, Nat.le_of_ble_eq_true rfl⟩) (fun r2 H locs hw9 hP hS => ?_)
  have hw9 : r2 = nI (bfM lg V nl 0) := hw9
  subst hw9
  refine lv_topi (fun z3 ez3 => ?_)
  obtain rfl : z3 = nI (num V) := ez3.trans (congrArg nI (hbf V (by omega)))
  refine lv_goto (tgt := 16) hx hb dX6_number_12 (by decide) ?_
  exact r_iret hx hb hr hlk hQ hS (by first | (simp only [aNu, c4, if_true, tN_n (show V < 2 ^ 31 by omega)]; done) | (simp [aNu, c4]; done)) dX6_number_16


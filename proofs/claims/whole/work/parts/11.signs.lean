set_option maxHeartbeats 4000000 in
set_option maxRecDepth 100000 in
theorem m_X3_init (l : Launch) (D : va_G) (cI cJ : ClassId) (sz : Nat) (sq : Nat) : Met l yX3_init wsX3_init ({ frames := 1, cells := 1, slots := 40, locals := 12 }) (PX D cI cJ [(sq, .inr (3, [.null, .int 0]))] sz [.ref sq]) (QWv D (S := Nat) [(sq, .inr (3, [.null, .int 0]))] sz (fun _ => True) (fun qc => [(sq, .inr (3, [.ref qc, .int (nI 0)])), (qc, .inl (cI, 40, .inl (nF (fun _ => 0))))])) 1 40 (va_A [(sq, .inr (3, [.null, .int 0]))] sz) := by
  refine met_X (cc := cX3_init) (maxL := 1) (ret := none) (by decide) rfl (Nat.le_of_ble_eq_true rfl) ?_
  intro p e s m args below meth c Q ls A hQ hAe hAt hKB hP hD hA hl
  obtain ⟨hx, hb, hr, hml, hlk, hts, hown, hnm⟩ := hAt
  have hown : s.vm.findClass RX3 = some m.cls := hown
  have hS : va_S A s.heap s.heap [] := va_S.rf
  have hl : lv_has ls 1 [(0, .ref sq)] := hl
  have oi1 := hts (.methodLink RX3 3 objectInit) (by decide +kernel)
  have oi2 := hts (.instanceMethod objectInit) (by decide +kernel)
  have oi3 := hts (.code objectInit ⟨#[0xb1]⟩ 1 none) (by decide +kernel)
  have acI := hts (.arrayClass .int) (by decide +kernel)
  have hiX3 : ∀ w ∈ u_ws RX3 TX3 2, w ∈ wsX3_init := by decide +kernel
  have fl11 := hts (.fieldLink RX3 11 "TaughtTongues$Signs" "codes" "[I") (by decide +kernel)
  have fl15 := hts (.fieldLink RX3 15 "TaughtTongues$Signs" "count" "I") (by decide +kernel)
  refine lv_aload_n hx hb dX3_init_0 rfl (lv_at hl 0 rfl) ?_
  refine W.objInit hx hb hown oi1 oi2 oi3 rfl (by rw [hml]; exact hl.1) rfl dX3_init_1 (Nat.le_of_ble_eq_true rfl) (Nat.le_of_ble_eq_true rfl) ?_
  refine W.eq (g2 := F0 m 4 ls []) rfl ?_
  refine lv_aload_n hx hb dX3_init_4 rfl (lv_at hl 0 rfl) ?_
  refine lv_bipush (v := nI (40)) hx hb dX3_init_5 (by decide) ?_
  refine r_newI (n := 40) hx hb acI hKB.1 hP hD hS hA (by decide) (by decide) (Nat.le_of_ble_eq_true rfl) (Nat.le_of_ble_eq_true rfl) dX3_init_7 (fun qc H hP hD hS => ?_)
  have hP : va_P D vwCl [(sq, .inr (3, [.null, .int 0])), (qc, .inl (cI, 40, .inl (fun _ => 0)))] _ := hP
  have hD : va_D A [(sq, .inr (3, [.null, .int 0])), (qc, .inl (cI, 40, .inl (fun _ => 0)))] := hD
  refine W.widen (k := 1) (n := 40) (by decide) (by decide) ?_
  refine va_putF (D := D) (ci := 3) (v := .ref qc) (ty := .array .int) (C := RX3) (T := TX3) (N := 2) hx hb hts hiX3 tyX3 tyX3_ok nmX3 hown hKB.1 hP hD hS 0 rfl rfl 0 (by decide) fl11 (fun _ h9 => h9) rfl hnm rfl (by decide +kernel) rfl rfl (Nat.le_of_ble_eq_true rfl) dX3_init_9 (fun H locs hP hD hS => ?_)
  have hP : va_P D vwCl [(sq, .inr (3, [.ref qc, .int 0])), (qc, .inl (cI, 40, .inl (fun _ => 0)))] _ := hP
  have hD : va_D A [(sq, .inr (3, [.ref qc, .int 0])), (qc, .inl (cI, 40, .inl (fun _ => 0)))] := hD
  refine lv_aload_n hx hb dX3_init_12 rfl (lv_at hl 0 rfl) ?_
  refine lv_iconst (v := nI (0)) hx hb dX3_init_13 (by decide) ?_
  refine va_put (D := D) (ci := 3) (v := .int (nI 0)) (ty := .int) (C := RX3) (T := TX3) (N := 2) hx hb hts hiX3 tyX3 tyX3_ok nmX3 hown hKB.1 hP hD hS 0 rfl rfl 1 (by decide) fl15 (fun _ h9 => h9) rfl (by decide +kernel) rfl rfl (Nat.le_of_ble_eq_true rfl) dX3_init_14 (fun H locs hP hD hS => ?_)
  have hP : va_P D vwCl [(sq, .inr (3, [.ref qc, .int (nI 0)])), (qc, .inl (cI, 40, .inl (fun _ => 0)))] _ := hP
  have hD : va_D A [(sq, .inr (3, [.ref qc, .int (nI 0)])), (qc, .inl (cI, 40, .inl (fun _ => 0)))] := hD
  exact w_vret hx hb hr hlk hQ hAe qc hP hD hS (trivial) dX3_init_17

set_option maxHeartbeats 4000000 in
set_option maxRecDepth 100000 in
theorem m_X3_add (l : Launch) (D : va_G) (cI cJ : ClassId) (sz : Nat) (sq : Nat) (qc : Nat) (cnt : Nat) (cd : Nat → Nat) (sg : Nat) (hcnt : cnt ≤ 40) : Met l yX3_add wsX3_add ({ frames := 0, cells := 0, slots := 0, locals := 0 }) (PX D cI cJ [(sq, .inr (3, [.ref qc, .int (nI cnt)])), (qc, .inl (cI, 40, .inl (nF cd)))] sz [.ref sq, .int (nI sg)]) (QWi D (S := (Nat → Nat) × Nat) [(sq, .inr (3, [.ref qc, .int (nI cnt)])), (qc, .inl (cI, 40, .inl (nF cd)))] sz (fun r u => r = bI (decide (cnt < 40)) ∧ u.1 = addC cd cnt sg ∧ u.2 = addN cnt) (fun u => [(sq, .inr (3, [.ref qc, .int (nI (u.2))])), (qc, .inl (cI, 40, .inl (nF u.1)))])) 0 0 (va_A [(sq, .inr (3, [.ref qc, .int (nI cnt)])), (qc, .inl (cI, 40, .inl (nF cd)))] sz) := by
  refine met_X (cc := cX3_add) (maxL := 2) (ret := (some .boolean)) (by decide) rfl (Nat.le_of_ble_eq_true rfl) ?_
  intro p e s m args below meth c Q ls A hQ hAe hAt hKB hP hD hA hl
  obtain ⟨hx, hb, hr, hml, hlk, hts, hown, hnm⟩ := hAt
  have hown : s.vm.findClass RX3 = some m.cls := hown
  have hS : va_S A s.heap s.heap [] := va_S.rf
  have hl : lv_has ls 2 [(0, .ref sq), (1, .int (nI sg))] := hl
  have hiX3 : ∀ w ∈ u_ws RX3 TX3 2, w ∈ wsX3_add := by decide +kernel
  have fl15 := hts (.fieldLink RX3 15 "TaughtTongues$Signs" "count" "I") (by decide +kernel)
  have fl11 := hts (.fieldLink RX3 11 "TaughtTongues$Signs" "codes" "[I") (by decide +kernel)
  refine lv_aload_n hx hb dX3_add_0 rfl (lv_at hl 0 rfl) ?_
  refine va_get (D := D) (ci := 3) (v := .int (nI cnt)) (C := RX3) (T := TX3) (N := 2) hx hb hts hiX3 hown hKB.1 hP 0 rfl rfl 1 (by decide) fl15 (fun _ h9 => h9) rfl dX3_add_1 ?_
  refine lv_bipush (v := nI (40)) hx hb dX3_add_4 (by decide) ?_
  refine r_icmp_lt (a := cnt) (b := 40) (tgt := 11) hx hb dX3_add_6 (by decide) (by omega) (by omega)  (fun c6 => ?_) (fun c6 => ?_)
  · skip
    refine lv_aload_n hx hb dX3_add_11 rfl (lv_at hl 0 rfl) ?_
    refine va_get (D := D) (ci := 3) (v := .ref qc) (C := RX3) (T := TX3) (N := 2) hx hb hts hiX3 hown hKB.1 hP 0 rfl rfl 0 (by decide) fl11 (fun _ h9 => h9) rfl dX3_add_12 ?_
    refine lv_aload_n hx hb dX3_add_15 rfl (lv_at hl 0 rfl) ?_
    refine va_get (D := D) (ci := 3) (v := .int (nI cnt)) (C := RX3) (T := TX3) (N := 2) hx hb hts hiX3 hown hKB.1 hP 0 rfl rfl 1 (by decide) fl15 (fun _ h9 => h9) rfl dX3_add_16 ?_
    refine lv_iload_n hx hb dX3_add_19 rfl (lv_at hl 1 rfl) ?_
    refine r_iastN (i := cnt) hx hb hKB.1 hP hD hS 1 0 rfl rfl (by omega) (by decide) dX3_add_20 (fun H locs hP hD hS => ?_)
    have hP : va_P D vwCl [(sq, .inr (3, [.ref qc, .int (nI cnt)])), (qc, .inl (cI, 40, .inl (nF (nu cd cnt sg))))] _ := hP
    have hD : va_D A [(sq, .inr (3, [.ref qc, .int (nI cnt)])), (qc, .inl (cI, 40, .inl (nF (nu cd cnt sg))))] := hD
    refine lv_aload_n hx hb dX3_add_21 rfl (lv_at hl 0 rfl) ?_
    refine lv_dup hx hb dX3_add_22 rfl ?_
    refine va_get (D := D) (ci := 3) (v := .int (nI cnt)) (C := RX3) (T := TX3) (N := 2) hx hb hts hiX3 hown hKB.1 hP 0 rfl rfl 1 (by decide) fl15 (fun _ h9 => h9) rfl dX3_add_23 ?_
    refine lv_iconst (v := nI (1)) hx hb dX3_add_26 (by decide) ?_
    refine r_iadd (a := cnt) (b := 1) hx hb dX3_add_27  ?_
    refine va_put (D := D) (ci := 3) (v := .int (nI (cnt + 1))) (ty := .int) (C := RX3) (T := TX3) (N := 2) hx hb hts hiX3 tyX3 tyX3_ok nmX3 hown hKB.1 hP hD hS 0 rfl rfl 1 (by decide) fl15 (fun _ h9 => h9) rfl (by decide +kernel) rfl rfl (Nat.le_of_ble_eq_true rfl) dX3_add_28 (fun H locs hP hD hS => ?_)
    have hP : va_P D vwCl [(sq, .inr (3, [.ref qc, .int (nI (cnt + 1))])), (qc, .inl (cI, 40, .inl (nF (nu cd cnt sg))))] _ := hP
    have hD : va_D A [(sq, .inr (3, [.ref qc, .int (nI (cnt + 1))])), (qc, .inl (cI, 40, .inl (nF (nu cd cnt sg))))] := hD
    refine lv_iconst (v := nI (1)) hx hb dX3_add_31 (by decide) ?_
    exact w_zret (b := true) hx hb hr hlk hQ hAe rfl (nu cd cnt sg, cnt + 1) hP hD hS (by rw [decide_eq_true c6, addC, addN, if_pos c6, if_pos c6]; exact ⟨rfl, rfl, rfl⟩) dX3_add_32
  refine lv_iconst (v := nI (0)) hx hb dX3_add_9 (by decide) ?_
  exact w_zret (b := false) hx hb hr hlk hQ hAe rfl (cd, cnt) hP hD hS (by rw [decide_eq_false (show ¬ cnt < 40 by omega), addC, addN, if_neg (by omega), if_neg (by omega)]; exact ⟨rfl, rfl, rfl⟩) dX3_add_10

set_option maxHeartbeats 4000000 in
set_option maxRecDepth 100000 in
theorem m_X3_clear (l : Launch) (D : va_G) (cI cJ : ClassId) (sz : Nat) (sq : Nat) (qc : Nat) (cnt : Nat) : Met l yX3_clear wsX3_clear ({ frames := 0, cells := 0, slots := 0, locals := 0 }) (PX D cI cJ [(sq, .inr (3, [.ref qc, .int (nI cnt)]))] sz [.ref sq]) (QWi D (S := Unit) [(sq, .inr (3, [.ref qc, .int (nI cnt)]))] sz (fun r _ => r = nI (cnt)) (fun _ => [(sq, .inr (3, [.ref qc, .int (nI 0)]))])) 0 0 (va_A [(sq, .inr (3, [.ref qc, .int (nI cnt)]))] sz) := by
  refine met_X (cc := cX3_clear) (maxL := 2) (ret := (some .int)) (by decide) rfl (Nat.le_of_ble_eq_true rfl) ?_
  intro p e s m args below meth c Q ls A hQ hAe hAt hKB hP hD hA hl
  obtain ⟨hx, hb, hr, hml, hlk, hts, hown, hnm⟩ := hAt
  have hown : s.vm.findClass RX3 = some m.cls := hown
  have hS : va_S A s.heap s.heap [] := va_S.rf
  have hl : lv_has ls 2 [(0, .ref sq)] := hl
  have hiX3 : ∀ w ∈ u_ws RX3 TX3 2, w ∈ wsX3_clear := by decide +kernel
  have fl15 := hts (.fieldLink RX3 15 "TaughtTongues$Signs" "count" "I") (by decide +kernel)
  refine lv_aload_n hx hb dX3_clear_0 rfl (lv_at hl 0 rfl) ?_
  refine va_get (D := D) (ci := 3) (v := .int (nI cnt)) (C := RX3) (T := TX3) (N := 2) hx hb hts hiX3 hown hKB.1 hP 0 rfl rfl 1 (by decide) fl15 (fun _ h9 => h9) rfl dX3_clear_1 ?_
  refine lv_istore_n (lv' := [(1, .int (nI cnt)), (0, .ref sq)]) hx hb dX3_clear_4 rfl hl (by decide) rfl (fun ls hl => ?_)
  refine lv_aload_n hx hb dX3_clear_5 rfl (lv_at hl 1 rfl) ?_
  refine lv_iconst (v := nI (0)) hx hb dX3_clear_6 (by decide) ?_
  refine va_put (D := D) (ci := 3) (v := .int (nI 0)) (ty := .int) (C := RX3) (T := TX3) (N := 2) hx hb hts hiX3 tyX3 tyX3_ok nmX3 hown hKB.1 hP hD hS 0 rfl rfl 1 (by decide) fl15 (fun _ h9 => h9) rfl (by decide +kernel) rfl rfl (Nat.le_of_ble_eq_true rfl) dX3_clear_7 (fun H locs hP hD hS => ?_)
  have hP : va_P D vwCl [(sq, .inr (3, [.ref qc, .int (nI 0)]))] _ := hP
  have hD : va_D A [(sq, .inr (3, [.ref qc, .int (nI 0)]))] := hD
  refine lv_iload_n hx hb dX3_clear_10 rfl (lv_at hl 0 rfl) ?_
  exact w_iret hx hb hr hlk hQ hAe () hP hD hS (rfl) dX3_clear_11

set_option maxHeartbeats 4000000 in
set_option maxRecDepth 100000 in
theorem m_X3_canStand (l : Launch) (D : va_G) (cI cJ : ClassId) (ch : Nat) (pl : Nat) (hc2 : ch < 2 ^ 31) (hpl : pl < 2 ^ 31) : Met l yX3_canStand wsX3_canStand ({ frames := 0, cells := 0, slots := 0, locals := 0 }) (PR D cI cJ [] [.int (nI ch), .int (nI pl)]) (QRi (fun r => r = bI (cst ch pl))) 0 0 NA := by
  refine met_R (cc := cX3_canStand) (maxL := 2) (ret := (some .boolean)) (by decide) rfl (Nat.le_of_ble_eq_true rfl) ?_
  intro p e s m args below meth c Q ls hQ hAt hKB hP hl
  obtain ⟨hx, hb, hr, hml, hlk, hts, hown, hnm⟩ := hAt
  have hown : s.vm.findClass RX3 = some m.cls := hown
  have hS : va_S NA s.heap s.heap [] := va_S.rf
  have hl : lv_has ls 2 [(0, .int (nI ch)), (1, .int (nI pl))] := hl
  refine lv_iload_n hx hb dX3_canStand_0 rfl (lv_at hl 1 rfl) ?_
  refine lv_iconst (v := nI (3)) hx hb dX3_canStand_1 (by decide) ?_
  refine r_icmp_ge (a := pl) (b := 3) (tgt := 29) hx hb dX3_canStand_2 (by decide) (by omega) (by omega)  (fun c2 => ?_) (fun c2 => ?_)
  · skip
    refine lv_iload_n hx hb dX3_canStand_29 rfl (lv_at hl 1 rfl) ?_
    refine lv_iconst (v := nI (3)) hx hb dX3_canStand_30 (by decide) ?_
    refine r_icmp_ne (a := pl) (b := 3) (tgt := 46) hx hb dX3_canStand_31 (by decide) (by omega) (by omega)  (fun c31 => ?_) (fun c31 => ?_)
    · skip
      refine lv_iload_n hx hb dX3_canStand_46 rfl (lv_at hl 1 rfl) ?_
      refine lv_iconst (v := nI (4)) hx hb dX3_canStand_47 (by decide) ?_
      refine r_icmp_ne (a := pl) (b := 4) (tgt := 69) hx hb dX3_canStand_48 (by decide) (by omega) (by omega)  (fun c48 => ?_) (fun c48 => ?_)
      · skip
        refine lv_iload_n hx hb dX3_canStand_69 rfl (lv_at hl 0 rfl) ?_
        refine lv_bipush (v := nI (59)) hx hb dX3_canStand_70 (by decide) ?_
        refine r_icmp_ne (a := ch) (b := 59) (tgt := 79) hx hb dX3_canStand_72 (by decide) (by omega) (by omega)  (fun c72 => ?_) (fun c72 => ?_)
        · skip
          refine lv_iconst (v := nI (0)) hx hb dX3_canStand_79 (by decide) ?_
          exact r_zret (b := false) hx hb hr hlk hQ hS rfl (congrArg bI (Bool.eq_false_iff.mpr (fun h => by have := cst_iff.mp h; omega)).symm) dX3_canStand_80
        refine lv_iconst (v := nI (1)) hx hb dX3_canStand_75 (by decide) ?_
        refine lv_goto (tgt := 80) hx hb dX3_canStand_76 (by decide) ?_
        exact r_zret (b := true) hx hb hr hlk hQ hS rfl (congrArg bI (cst_iff.mpr (by omega)).symm) dX3_canStand_80
      refine lv_iload_n hx hb dX3_canStand_51 rfl (lv_at hl 0 rfl) ?_
      refine lv_bipush (v := nI (49)) hx hb dX3_canStand_52 (by decide) ?_
      refine r_icmp_lt (a := ch) (b := 49) (tgt := 67) hx hb dX3_canStand_54 (by decide) (by omega) (by omega)  (fun c54 => ?_) (fun c54 => ?_)
      · skip
        refine lv_iconst (v := nI (0)) hx hb dX3_canStand_67 (by decide) ?_
        exact r_zret (b := false) hx hb hr hlk hQ hS rfl (congrArg bI (Bool.eq_false_iff.mpr (fun h => by have := cst_iff.mp h; omega)).symm) dX3_canStand_68
      refine lv_iload_n hx hb dX3_canStand_57 rfl (lv_at hl 0 rfl) ?_
      refine lv_bipush (v := nI (57)) hx hb dX3_canStand_58 (by decide) ?_
      refine r_icmp_gt (a := ch) (b := 57) (tgt := 67) hx hb dX3_canStand_60 (by decide) (by omega) (by omega)  (fun c60 => ?_) (fun c60 => ?_)
      · skip
        refine lv_iconst (v := nI (0)) hx hb dX3_canStand_67 (by decide) ?_
        exact r_zret (b := false) hx hb hr hlk hQ hS rfl (congrArg bI (Bool.eq_false_iff.mpr (fun h => by have := cst_iff.mp h; omega)).symm) dX3_canStand_68
      refine lv_iconst (v := nI (1)) hx hb dX3_canStand_63 (by decide) ?_
      refine lv_goto (tgt := 68) hx hb dX3_canStand_64 (by decide) ?_
      exact r_zret (b := true) hx hb hr hlk hQ hS rfl (congrArg bI (cst_iff.mpr (by omega)).symm) dX3_canStand_68
    refine lv_iload_n hx hb dX3_canStand_34 rfl (lv_at hl 0 rfl) ?_
    refine lv_bipush (v := nI (58)) hx hb dX3_canStand_35 (by decide) ?_
    refine r_icmp_ne (a := ch) (b := 58) (tgt := 44) hx hb dX3_canStand_37 (by decide) (by omega) (by omega)  (fun c37 => ?_) (fun c37 => ?_)
    · skip
      refine lv_iconst (v := nI (0)) hx hb dX3_canStand_44 (by decide) ?_
      exact r_zret (b := false) hx hb hr hlk hQ hS rfl (congrArg bI (Bool.eq_false_iff.mpr (fun h => by have := cst_iff.mp h; omega)).symm) dX3_canStand_45
    refine lv_iconst (v := nI (1)) hx hb dX3_canStand_40 (by decide) ?_
    refine lv_goto (tgt := 45) hx hb dX3_canStand_41 (by decide) ?_
    exact r_zret (b := true) hx hb hr hlk hQ hS rfl (congrArg bI (cst_iff.mpr (by omega)).symm) dX3_canStand_45
  refine lv_iload_n hx hb dX3_canStand_5 rfl (lv_at hl 0 rfl) ?_
  refine lv_bipush (v := nI (48)) hx hb dX3_canStand_6 (by decide) ?_
  refine r_icmp_eq (a := ch) (b := 48) (tgt := 23) hx hb dX3_canStand_8 (by decide) (by omega) (by omega)  (fun c8 => ?_) (fun c8 => ?_)
  · skip
    refine lv_iconst (v := nI (1)) hx hb dX3_canStand_23 (by decide) ?_
    refine lv_goto (tgt := 28) hx hb dX3_canStand_24 (by decide) ?_
    exact r_zret (b := true) hx hb hr hlk hQ hS rfl (congrArg bI (cst_iff.mpr (by omega)).symm) dX3_canStand_28
  refine lv_iload_n hx hb dX3_canStand_11 rfl (lv_at hl 0 rfl) ?_
  refine lv_bipush (v := nI (49)) hx hb dX3_canStand_12 (by decide) ?_
  refine r_icmp_eq (a := ch) (b := 49) (tgt := 23) hx hb dX3_canStand_14 (by decide) (by omega) (by omega)  (fun c14 => ?_) (fun c14 => ?_)
  · skip
    refine lv_iconst (v := nI (1)) hx hb dX3_canStand_23 (by decide) ?_
    refine lv_goto (tgt := 28) hx hb dX3_canStand_24 (by decide) ?_
    exact r_zret (b := true) hx hb hr hlk hQ hS rfl (congrArg bI (cst_iff.mpr (by omega)).symm) dX3_canStand_28
  refine lv_iload_n hx hb dX3_canStand_17 rfl (lv_at hl 0 rfl) ?_
  refine lv_bipush (v := nI (42)) hx hb dX3_canStand_18 (by decide) ?_
  refine r_icmp_ne (a := ch) (b := 42) (tgt := 27) hx hb dX3_canStand_20 (by decide) (by omega) (by omega)  (fun c20 => ?_) (fun c20 => ?_)
  · skip
    refine lv_iconst (v := nI (0)) hx hb dX3_canStand_27 (by decide) ?_
    exact r_zret (b := false) hx hb hr hlk hQ hS rfl (congrArg bI (Bool.eq_false_iff.mpr (fun h => by have := cst_iff.mp h; omega)).symm) dX3_canStand_28
  refine lv_iconst (v := nI (1)) hx hb dX3_canStand_23 (by decide) ?_
  refine lv_goto (tgt := 28) hx hb dX3_canStand_24 (by decide) ?_
  exact r_zret (b := true) hx hb hr hlk hQ hS rfl (congrArg bI (cst_iff.mpr (by omega)).symm) dX3_canStand_28

set_option maxHeartbeats 4000000 in
set_option maxRecDepth 100000 in
theorem m_X3_firstFault (l : Launch) (D : va_G) (cI cJ : ClassId) (sq : Nat) (qc : Nat) (cnt : Nat) (cd : Nat → Nat) (hcnt : cnt ≤ 40) (hcd : ∀ j, cd j < 127) : Met l yX3_firstFault wsX3_firstFault ({ frames := 1, cells := 0, slots := 0, locals := 21 }) (PR D cI cJ [(sq, .inr (3, [.ref qc, .int (nI cnt)])), (qc, .inl (cI, 40, .inl (nF cd)))] [.ref sq]) (QRi (fun r => r = ffI cd cnt)) 0 0 NA := by
  refine met_R (cc := cX3_firstFault) (maxL := 2) (ret := (some .int)) (by decide) rfl (Nat.le_of_ble_eq_true rfl) ?_
  intro p e s m args below meth c Q ls hQ hAt hKB hP hl
  obtain ⟨hx, hb, hr, hml, hlk, hts, hown, hnm⟩ := hAt
  have hown : s.vm.findClass RX3 = some m.cls := hown
  have hS : va_S NA s.heap s.heap [] := va_S.rf
  have hl : lv_has ls 2 [(0, .ref sq)] := hl
  have hiX3 : ∀ w ∈ u_ws RX3 TX3 2, w ∈ wsX3_firstFault := by decide +kernel
  have fl15 := hts (.fieldLink RX3 15 "TaughtTongues$Signs" "count" "I") (by decide +kernel)
  have fl11 := hts (.fieldLink RX3 11 "TaughtTongues$Signs" "codes" "[I") (by decide +kernel)
  refine lv_iconst (v := nI (0)) hx hb dX3_firstFault_0 (by decide) ?_
  refine lv_istore_n (lv' := [(1, .int (nI 0)), (0, .ref sq)]) hx hb dX3_firstFault_1 rfl hl (by decide) rfl (fun ls hl => ?_)
  have L2 : ∀ (n : Nat) (k : Nat) (H : Heap) (locs : List Loc) (ls : Array Slot), cnt - k < n → (k ≤ cnt) → (∀ j, j < k → bad cd j = false) → va_P D vwCl [(sq, .inr (3, [.ref qc, .int (nI cnt)])), (qc, .inl (cI, 40, .inl (nF cd)))] H → va_S NA s.heap H locs → lv_has ls 2 [(1, .int (nI k)), (0, .ref sq)] → W p l e ({ frames := 1, cells := 0, slots := 0, locals := 21 }) s m args below meth c H locs 0 0 Q (F0 m 2 ls []) := by
    intro n
    induction n with
    | zero => intro k H locs ls hm; exact absurd hm (Nat.not_lt_zero _)
    | succ n ih2 =>
      intro k H locs ls hm hk hok hP hS hl
      refine lv_iload_n hx hb dX3_firstFault_2 rfl (lv_at hl 0 rfl) ?_
      refine lv_aload_n hx hb dX3_firstFault_3 rfl (lv_at hl 1 rfl) ?_
      refine va_get (D := D) (ci := 3) (v := .int (nI cnt)) (C := RX3) (T := TX3) (N := 2) hx hb hts hiX3 hown hKB.1 hP 0 rfl rfl 1 (by decide) fl15 (fun _ h9 => h9) rfl dX3_firstFault_4 ?_
      refine r_icmp_ge (a := k) (b := cnt) (tgt := 34) hx hb dX3_firstFault_7 (by decide) (by omega) (by omega)  (fun c7 => ?_) (fun c7 => ?_)
      · skip
        obtain rfl : cnt = k := by omega
        refine lv_aload_n hx hb dX3_firstFault_34 rfl (lv_at hl 1 rfl) ?_
        refine va_get (D := D) (ci := 3) (v := .int (nI cnt)) (C := RX3) (T := TX3) (N := 2) hx hb hts hiX3 hown hKB.1 hP 0 rfl rfl 1 (by decide) fl15 (fun _ h9 => h9) rfl dX3_firstFault_35 ?_
        refine lv_bipush (v := nI (6)) hx hb dX3_firstFault_38 (by decide) ?_
        refine r_irem (a := cnt) (b := 6) hx hb dX3_firstFault_40 (by omega) (by omega) (by omega) ?_
        refine lv_iconst (v := nI (5)) hx hb dX3_firstFault_41 (by decide) ?_
        refine r_icmp_ne (a := cnt % 6) (b := 5) (tgt := 50) hx hb dX3_firstFault_42 (by decide) (by omega) (by omega)  (fun c42 => ?_) (fun c42 => ?_)
        · skip
          refine lv_aload_n hx hb dX3_firstFault_50 rfl (lv_at hl 1 rfl) ?_
          refine va_get (D := D) (ci := 3) (v := .int (nI cnt)) (C := RX3) (T := TX3) (N := 2) hx hb hts hiX3 hown hKB.1 hP 0 rfl rfl 1 (by decide) fl15 (fun _ h9 => h9) rfl dX3_firstFault_51 ?_
          exact r_iret hx hb hr hlk hQ hS (by rw [ffI_end hok]; first | rw [if_pos c42] | rw [if_neg c42]) dX3_firstFault_54
        refine lv_bipush (v := (-6)) hx hb dX3_firstFault_45 (by decide) ?_
        refine lv_goto (tgt := 54) hx hb dX3_firstFault_47 (by decide) ?_
        exact r_iret hx hb hr hlk hQ hS (by rw [ffI_end hok]; first | rw [if_pos c42] | rw [if_neg c42]) dX3_firstFault_54
      refine lv_aload_n hx hb dX3_firstFault_10 rfl (lv_at hl 1 rfl) ?_
      refine va_get (D := D) (ci := 3) (v := .ref qc) (C := RX3) (T := TX3) (N := 2) hx hb hts hiX3 hown hKB.1 hP 0 rfl rfl 0 (by decide) fl11 (fun _ h9 => h9) rfl dX3_firstFault_11 ?_
      refine lv_iload_n hx hb dX3_firstFault_14 rfl (lv_at hl 0 rfl) ?_
      refine r_iald (i := k) (v := nI (cd k)) hx hb hKB.1 hP 1 0 rfl rfl (by omega) (by decide) (rfl) dX3_firstFault_15 ?_
      refine lv_iload_n hx hb dX3_firstFault_16 rfl (lv_at hl 0 rfl) ?_
      refine lv_bipush (v := nI (6)) hx hb dX3_firstFault_17 (by decide) ?_
      refine r_irem (a := k) (b := 6) hx hb dX3_firstFault_19 (by omega) (by omega) (by omega) ?_
      have hPc := hP.sub (ws' := []) [] rfl
      refine r_calli hP hS (va_runS (As := [.int (nI (cd k)), .int (nI (k % 6))]) (rest := []) ⟨hx, hb, hml, hown, hts⟩ (m_X3_canStand l D cI cJ (cd k) (k % 6) (by have := hcd k; omega) (by omega)) (va_cwS 2 hts gX3_firstFault_X3_canStand rfl rfl rfl (by decide +kernel) ⟨Nat.le_of_ble_eq_true rfl, Nat.le_of_ble_eq_true rfl⟩) ⟨PR.blind, fun U hU hW => ⟨rfl, hKB.warm hW, by rw [hU]; exact hPc⟩⟩ rfl rfl hl.1 rfl (lv_room (Nat.le_of_ble_eq_true rfl)) dX3_firstFault_20 ⟨Nat.le_of_ble_eq_true rfl, Nat.le_of_ble_eq_true rfl⟩) (fun r1 H locs hw20 hP hS => ?_)
      have hw20 : r1 = bI (cst (cd k) (k % 6)) := hw20
      subst hw20
      refine r_bif_ne (b := cst (cd k) (k % 6)) (tgt := 28) hx hb dX3_firstFault_23 (by decide) (fun c23 => ?_) (fun c23 => ?_)
      · skip
        refine lv_iinc (v := nI (k + 1)) (lv' := [(1, .int (nI (k + 1))), (0, .ref sq)]) hx hb dX3_firstFault_28 hl (k := 0) rfl (n_inc _ 1) (by decide) rfl (fun ls hl => ?_)
        refine lv_goto (tgt := 2) hx hb dX3_firstFault_31 (by decide) ?_
        exact ih2 (k + 1) _ _ _ (by omega) (by omega) (bad_s hok c23) hP hS hl
      refine lv_iload_n hx hb dX3_firstFault_26 rfl (lv_at hl 0 rfl) ?_
      exact r_iret hx hb hr hlk hQ hS (by rw [ffI_hit c7 hok (by rw [bad, c23]; rfl)]) dX3_firstFault_27
  exact L2 (cnt - 0 + 1) 0 _ _ _ (Nat.lt_succ_self _) (by omega) (fun j hj => absurd hj (Nat.not_lt_zero j)) hP hS hl

set_option maxHeartbeats 4000000 in
set_option maxRecDepth 100000 in
theorem m_X3_lines (l : Launch) (D : va_G) (cI cJ : ClassId) (sq : Nat) (qc : Nat) (cnt : Nat) (hcnt : cnt ≤ 40) : Met l yX3_lines wsX3_lines ({ frames := 0, cells := 0, slots := 0, locals := 0 }) (PR D cI cJ [(sq, .inr (3, [.ref qc, .int (nI cnt)]))] [.ref sq]) (QRi (fun r => r = nI ((cnt + 1) / 6))) 0 0 NA := by
  refine met_R (cc := cX3_lines) (maxL := 1) (ret := (some .int)) (by decide) rfl (Nat.le_of_ble_eq_true rfl) ?_
  intro p e s m args below meth c Q ls hQ hAt hKB hP hl
  obtain ⟨hx, hb, hr, hml, hlk, hts, hown, hnm⟩ := hAt
  have hown : s.vm.findClass RX3 = some m.cls := hown
  have hS : va_S NA s.heap s.heap [] := va_S.rf
  have hl : lv_has ls 1 [(0, .ref sq)] := hl
  have hiX3 : ∀ w ∈ u_ws RX3 TX3 2, w ∈ wsX3_lines := by decide +kernel
  have fl15 := hts (.fieldLink RX3 15 "TaughtTongues$Signs" "count" "I") (by decide +kernel)
  refine lv_aload_n hx hb dX3_lines_0 rfl (lv_at hl 0 rfl) ?_
  refine va_get (D := D) (ci := 3) (v := .int (nI cnt)) (C := RX3) (T := TX3) (N := 2) hx hb hts hiX3 hown hKB.1 hP 0 rfl rfl 1 (by decide) fl15 (fun _ h9 => h9) rfl dX3_lines_1 ?_
  refine lv_iconst (v := nI (1)) hx hb dX3_lines_4 (by decide) ?_
  refine r_iadd (a := cnt) (b := 1) hx hb dX3_lines_5  ?_
  refine lv_bipush (v := nI (6)) hx hb dX3_lines_6 (by decide) ?_
  refine r_idiv (a := cnt + 1) (b := 6) hx hb dX3_lines_8 (by omega) (by omega) (by omega) ?_
  exact r_iret hx hb hr hlk hQ hS (rfl) dX3_lines_9

set_option maxHeartbeats 4000000 in
set_option maxRecDepth 100000 in
theorem m_X3_lineFits (l : Launch) (D : va_G) (cI cJ : ClassId) (sq : Nat) (qc : Nat) (cnt : Nat) (cd : Nat → Nat) (st : Nat) (t : Nat) (hst : st + 3 ≤ 40) (ht : t < 8) (hco : ∀ m, m < 3 → cd (st + m) = 42 ∨ cd (st + m) = 48 ∨ cd (st + m) = 49) : Met l yX3_lineFits wsX3_lineFits ({ frames := 1, cells := 0, slots := 0, locals := 21 }) (PR D cI cJ [(sq, .inr (3, [.ref qc, .int (nI cnt)])), (qc, .inl (cI, 40, .inl (nF cd)))] [.ref sq, .int (nI st), .int (nI t)]) (QRi (fun r => r = bI (lfit cd st t))) 0 0 NA := by
  refine met_R (cc := cX3_lineFits) (maxL := 5) (ret := (some .boolean)) (by decide) rfl (Nat.le_of_ble_eq_true rfl) ?_
  intro p e s m args below meth c Q ls hQ hAt hKB hP hl
  obtain ⟨hx, hb, hr, hml, hlk, hts, hown, hnm⟩ := hAt
  have hown : s.vm.findClass RX3 = some m.cls := hown
  have hS : va_S NA s.heap s.heap [] := va_S.rf
  have hl : lv_has ls 5 [(0, .ref sq), (1, .int (nI st)), (2, .int (nI t))] := hl
  have hiX3 : ∀ w ∈ u_ws RX3 TX3 2, w ∈ wsX3_lineFits := by decide +kernel
  have fl11 := hts (.fieldLink RX3 11 "TaughtTongues$Signs" "codes" "[I") (by decide +kernel)
  have inX5 := hts (.initialized RX5) (by decide +kernel)
  have st_X5_formOf := hts (.static yX5_formOf) (by decide +kernel)
  refine lv_iconst (v := nI (0)) hx hb dX3_lineFits_0 (by decide) ?_
  refine lv_istore_n (lv' := [(3, .int (nI 0)), (0, .ref sq), (1, .int (nI st)), (2, .int (nI t))]) hx hb dX3_lineFits_1 rfl hl (by decide) rfl (fun ls hl => ?_)
  have L2 : ∀ (n : Nat) (k : Nat) (H : Heap) (locs : List Loc) (ls : Array Slot), 3 - k < n → (k ≤ 3) → (∀ j, j < k → lfm cd st t j = true) → va_P D vwCl [(sq, .inr (3, [.ref qc, .int (nI cnt)])), (qc, .inl (cI, 40, .inl (nF cd)))] H → va_S NA s.heap H locs → lv_has ls 5 [(3, .int (nI k)), (0, .ref sq), (1, .int (nI st)), (2, .int (nI t))] → W p l e ({ frames := 1, cells := 0, slots := 0, locals := 21 }) s m args below meth c H locs 0 0 Q (F0 m 2 ls []) := by
    intro n
    induction n with
    | zero => intro k H locs ls hm; exact absurd hm (Nat.not_lt_zero _)
    | succ n ih2 =>
      intro k H locs ls hm hk hok hP hS hl
      refine lv_iload_n hx hb dX3_lineFits_2 rfl (lv_at hl 0 rfl) ?_
      refine lv_iconst (v := nI (3)) hx hb dX3_lineFits_3 (by decide) ?_
      refine r_icmp_ge (a := k) (b := 3) (tgt := 45) hx hb dX3_lineFits_4 (by decide) (by omega) (by omega)  (fun c4 => ?_) (fun c4 => ?_)
      · skip
        refine lv_iconst (v := nI (1)) hx hb dX3_lineFits_45 (by decide) ?_
        exact r_zret (b := true) hx hb hr hlk hQ hS rfl (by rw [lfit_t (fun m hm => hok m (by omega))]) dX3_lineFits_46
      refine lv_aload_n hx hb dX3_lineFits_7 rfl (lv_at hl 1 rfl) ?_
      refine va_get (D := D) (ci := 3) (v := .ref qc) (C := RX3) (T := TX3) (N := 2) hx hb hts hiX3 hown hKB.1 hP 0 rfl rfl 0 (by decide) fl11 (fun _ h9 => h9) rfl dX3_lineFits_8 ?_
      refine lv_iload_n hx hb dX3_lineFits_11 rfl (lv_at hl 2 rfl) ?_
      refine lv_iload_n hx hb dX3_lineFits_12 rfl (lv_at hl 0 rfl) ?_
      refine r_iadd (a := st) (b := k) hx hb dX3_lineFits_13  ?_
      refine r_iald (i := st + k) (v := nI (cd (st + k))) hx hb hKB.1 hP 1 0 rfl rfl (by omega) (by decide) (rfl) dX3_lineFits_14 ?_
      refine lv_istore (lv' := [(4, .int (nI (cd (st + k)))), (3, .int (nI k)), (0, .ref sq), (1, .int (nI st)), (2, .int (nI t))]) hx hb dX3_lineFits_15 hl (by decide) rfl (fun ls hl => ?_)
      have hco1 := hco k c4
      have hfo := fo_le t k
      refine lv_iload hx hb dX3_lineFits_17 (lv_at hl 0 rfl) ?_
      refine lv_bipush (v := nI (42)) hx hb dX3_lineFits_19 (by decide) ?_
      refine r_icmp_eq (a := cd (st + k)) (b := 42) (tgt := 39) hx hb dX3_lineFits_21 (by decide) (by omega) (by omega)  (fun c21 => ?_) (fun c21 => ?_)
      · skip
        refine lv_iinc (v := nI (k + 1)) (lv' := [(3, .int (nI (k + 1))), (4, .int (nI (cd (st + k)))), (0, .ref sq), (1, .int (nI st)), (2, .int (nI t))]) hx hb dX3_lineFits_39 hl (k := 1) rfl (n_inc _ 1) (by decide) rfl (fun ls hl => ?_)
        refine lv_goto (tgt := 2) hx hb dX3_lineFits_42 (by decide) ?_
        exact ih2 (k + 1) _ _ _ (by omega) (by omega) (lfm_s hok (by first | (simp [lfm, c21]; done) | (simp [lfm, c34]; done))) hP hS (lv_sub hl [0, 2, 3, 4] rfl)
      refine lv_iload hx hb dX3_lineFits_24 (lv_at hl 0 rfl) ?_
      refine lv_bipush (v := nI (48)) hx hb dX3_lineFits_26 (by decide) ?_
      refine r_isub (a := cd (st + k)) (b := 48) hx hb dX3_lineFits_28 (by omega) ?_
      refine lv_iload_n hx hb dX3_lineFits_29 rfl (lv_at hl 4 rfl) ?_
      refine lv_iload_n hx hb dX3_lineFits_30 rfl (lv_at hl 1 rfl) ?_
      have hPc := hP.sub (ws' := []) [] rfl
      refine r_calli hP hS (va_runSN (As := [.int (nI t), .int (nI k)]) (rest := [.int (nI ((cd (st + k)) - 48))]) ⟨hx, hb, hml, hown, hts⟩ (m_X5_formOf l D cI cJ t k (by omega) (by omega)) (⟨va_cnB 2 hts gX3_lineFits_X5_formOf_n26 rfl rfl rfl (hKB.2.m (q := ("TaughtTongues$Signs", 26, yX5_formOf)) 6 rfl) inX5 (by decide +kernel) ⟨Nat.le_of_ble_eq_true rfl, Nat.le_of_ble_eq_true rfl⟩, st_X5_formOf, trivial⟩) ⟨PR.blind, fun U hU hW => ⟨rfl, hKB.warm hW, by rw [hU]; exact hPc⟩⟩ rfl rfl hl.1 rfl (lv_room (Nat.le_of_ble_eq_true rfl)) dX3_lineFits_31 ⟨Nat.le_of_ble_eq_true rfl, Nat.le_of_ble_eq_true rfl⟩) (fun r1 H locs hw31 hP hS => ?_)
      have hw31 : r1 = nI (fo t k) := hw31
      subst hw31
      refine r_icmp_eq (a := (cd (st + k)) - 48) (b := fo t k) (tgt := 39) hx hb dX3_lineFits_34 (by decide) (by omega) (by omega)  (fun c34 => ?_) (fun c34 => ?_)
      · skip
        refine lv_iinc (v := nI (k + 1)) (lv' := [(3, .int (nI (k + 1))), (4, .int (nI (cd (st + k)))), (0, .ref sq), (1, .int (nI st)), (2, .int (nI t))]) hx hb dX3_lineFits_39 hl (k := 1) rfl (n_inc _ 1) (by decide) rfl (fun ls hl => ?_)
        refine lv_goto (tgt := 2) hx hb dX3_lineFits_42 (by decide) ?_
        exact ih2 (k + 1) _ _ _ (by omega) (by omega) (lfm_s hok (by first | (simp [lfm, c21]; done) | (simp [lfm, c34]; done))) hP hS (lv_sub hl [0, 2, 3, 4] rfl)
      refine lv_iconst (v := nI (0)) hx hb dX3_lineFits_37 (by decide) ?_
      exact r_zret (b := false) hx hb hr hlk hQ hS rfl (by rw [lfit_f c4 (by simp [lfm, c21, c34])]) dX3_lineFits_38
  exact L2 (3 - 0 + 1) 0 _ _ _ (Nat.lt_succ_self _) (by omega) (fun j hj => absurd hj (Nat.not_lt_zero j)) hP hS hl

set_option maxHeartbeats 4000000 in
set_option maxRecDepth 100000 in
theorem m_X3_numberFor (l : Launch) (D : va_G) (cI cJ : ClassId) (sq : Nat) (qc : Nat) (cnt : Nat) (cd : Nat → Nat) (t : Nat) (nl : Nat) (ht : t < 8) (hnl : cnt + 1 = 6 * nl) (hc40 : cnt ≤ 40) (hok : okT cd nl) : Met l yX3_numberFor wsX3_numberFor ({ frames := 2, cells := 0, slots := 0, locals := 45 }) (PR D cI cJ [(sq, .inr (3, [.ref qc, .int (nI cnt)])), (qc, .inl (cI, 40, .inl (nF cd)))] [.ref sq, .int (nI t)]) (QRi (fun r => r = nI (nfr cd t nl 0))) 0 0 NA := by
  refine met_R (cc := cX3_numberFor) (maxL := 3) (ret := (some .int)) (by decide) rfl (Nat.le_of_ble_eq_true rfl) ?_
  intro p e s m args below meth c Q ls hQ hAt hKB hP hl
  obtain ⟨hx, hb, hr, hml, hlk, hts, hown, hnm⟩ := hAt
  have hown : s.vm.findClass RX3 = some m.cls := hown
  have hS : va_S NA s.heap s.heap [] := va_S.rf
  have hl : lv_has ls 3 [(0, .ref sq), (1, .int (nI t))] := hl
  have hiX3 : ∀ w ∈ u_ws RX3 TX3 2, w ∈ wsX3_numberFor := by decide +kernel
  have fl15 := hts (.fieldLink RX3 15 "TaughtTongues$Signs" "count" "I") (by decide +kernel)
  have fl11 := hts (.fieldLink RX3 11 "TaughtTongues$Signs" "codes" "[I") (by decide +kernel)
  refine lv_iconst (v := nI (0)) hx hb dX3_numberFor_0 (by decide) ?_
  refine lv_istore_n (lv' := [(2, .int (nI 0)), (0, .ref sq), (1, .int (nI t))]) hx hb dX3_numberFor_1 rfl hl (by decide) rfl (fun ls hl => ?_)
  have hw1 : nI (0) = nI (6 * 0) := rfl
  rw [hw1] at hl
  have L2 : ∀ (n : Nat) (k : Nat) (H : Heap) (locs : List Loc) (ls : Array Slot), nl - k < n → (k ≤ nl) → (nfr cd t nl 0 = nfr cd t (nl - k) k) → va_P D vwCl [(sq, .inr (3, [.ref qc, .int (nI cnt)])), (qc, .inl (cI, 40, .inl (nF cd)))] H → va_S NA s.heap H locs → lv_has ls 3 [(2, .int (nI (6 * k))), (0, .ref sq), (1, .int (nI t))] → W p l e ({ frames := 2, cells := 0, slots := 0, locals := 45 }) s m args below meth c H locs 0 0 Q (F0 m 2 ls []) := by
    intro n
    induction n with
    | zero => intro k H locs ls hm; exact absurd hm (Nat.not_lt_zero _)
    | succ n ih2 =>
      intro k H locs ls hm hk hres hP hS hl
      refine lv_iload_n hx hb dX3_numberFor_2 rfl (lv_at hl 0 rfl) ?_
      refine lv_iconst (v := nI (4)) hx hb dX3_numberFor_3 (by decide) ?_
      refine r_iadd (a := 6 * k) (b := 4) hx hb dX3_numberFor_4  ?_
      refine lv_aload_n hx hb dX3_numberFor_5 rfl (lv_at hl 1 rfl) ?_
      refine va_get (D := D) (ci := 3) (v := .int (nI cnt)) (C := RX3) (T := TX3) (N := 2) hx hb hts hiX3 hown hKB.1 hP 0 rfl rfl 1 (by decide) fl15 (fun _ h9 => h9) rfl dX3_numberFor_6 ?_
      refine r_icmp_ge (a := (6 * k) + 4) (b := cnt) (tgt := 39) hx hb dX3_numberFor_9 (by decide) (by omega) (by omega)  (fun c9 => ?_) (fun c9 => ?_)
      · skip
        refine lv_iconst (v := nI (1)) hx hb dX3_numberFor_39 (by decide) ?_
        exact r_iret hx hb hr hlk hQ hS (by rw [hres, show nl - k = 0 by omega]; rfl) dX3_numberFor_40
      refine lv_aload_n hx hb dX3_numberFor_12 rfl (lv_at hl 1 rfl) ?_
      refine lv_iload_n hx hb dX3_numberFor_13 rfl (lv_at hl 0 rfl) ?_
      refine lv_iload_n hx hb dX3_numberFor_14 rfl (lv_at hl 2 rfl) ?_
      have hPc := hP.sub (ws' := [(sq, .inr (3, [.ref qc, .int (nI cnt)])), (qc, .inl (cI, 40, .inl (nF cd)))]) [0, 1] rfl
      refine r_calli hP hS (va_runV (As := [.int (nI (6 * k)), .int (nI t)]) (rest := []) ⟨hx, hb, hml, hown, hts⟩ (m_X3_lineFits l D cI cJ sq qc cnt cd (6 * k) t (by omega) (by omega) ((hok k (by omega)).1)) (cwV 2 hts gX3_numberFor_X3_lineFits rfl rfl rfl (by decide +kernel) ⟨Nat.le_of_ble_eq_true rfl, Nat.le_of_ble_eq_true rfl⟩) ⟨PR.blind, va_recv hKB.1 hP (ci := 3) (q0 := 0) rfl rfl, fun U hU hW => ⟨rfl, hKB.warm hW, by rw [hU]; exact hPc⟩⟩ rfl rfl hl.1 rfl (lv_room (Nat.le_of_ble_eq_true rfl)) dX3_numberFor_15 ⟨Nat.le_of_ble_eq_true rfl, Nat.le_of_ble_eq_true rfl⟩) (fun r2 H locs hw15 hP hS => ?_)
      have hw15 : r2 = bI (lfit cd (6 * k) t) := hw15
      subst hw15
      refine r_bif_eq (b := lfit cd (6 * k) t) (tgt := 33) hx hb dX3_numberFor_18 (by decide) (fun c18 => ?_) (fun c18 => ?_)
      · skip
        refine lv_iinc (v := nI ((6 * k) + 6)) (lv' := [(2, .int (nI ((6 * k) + 6))), (0, .ref sq), (1, .int (nI t))]) hx hb dX3_numberFor_33 hl (k := 0) rfl (n_inc _ 6) (by decide) rfl (fun ls hl => ?_)
        have hw3 : nI ((6 * k) + 6) = nI (6 * (k + 1)) := by rw [Nat.mul_succ]
        rw [hw3] at hl
        refine lv_goto (tgt := 2) hx hb dX3_numberFor_36 (by decide) ?_
        exact ih2 (k + 1) _ _ _ (by omega) (by omega) (hres.trans (nfr_miss (by omega) c18)) hP hS hl
      refine lv_aload_n hx hb dX3_numberFor_21 rfl (lv_at hl 1 rfl) ?_
      refine va_get (D := D) (ci := 3) (v := .ref qc) (C := RX3) (T := TX3) (N := 2) hx hb hts hiX3 hown hKB.1 hP 0 rfl rfl 0 (by decide) fl11 (fun _ h9 => h9) rfl dX3_numberFor_22 ?_
      refine lv_iload_n hx hb dX3_numberFor_25 rfl (lv_at hl 0 rfl) ?_
      refine lv_iconst (v := nI (4)) hx hb dX3_numberFor_26 (by decide) ?_
      refine r_iadd (a := 6 * k) (b := 4) hx hb dX3_numberFor_27  ?_
      refine r_iald (i := (6 * k) + 4) (v := nI (cd ((6 * k) + 4))) hx hb hKB.1 hP 1 0 rfl rfl (by omega) (by decide) (rfl) dX3_numberFor_28 ?_
      refine lv_bipush (v := nI (48)) hx hb dX3_numberFor_29 (by decide) ?_
      refine r_isub (a := cd ((6 * k) + 4)) (b := 48) hx hb dX3_numberFor_31 (by have := (hok k (by omega)).2; omega) ?_
      exact r_iret hx hb hr hlk hQ hS (by rw [hres, nfr_hit (by omega) c18]) dX3_numberFor_32
  exact L2 (nl - 0 + 1) 0 _ _ _ (Nat.lt_succ_self _) (by omega) (rfl) hP hS hl


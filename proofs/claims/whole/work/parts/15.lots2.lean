set_option maxHeartbeats 4000000 in
set_option maxRecDepth 100000 in
theorem m_X2_forgetChoices (l : Launch) (D : va_G) (cI cJ : ClassId) (sz : Nat) (oq : Nat) (lq : Nat) (smq : Nat) (laq : Nat) (grq : Nat) (chq : Nat) (cq : Nat) (fch : Nat → Int32) : Met l yX2_forgetChoices wsX2_forgetChoices ({ frames := 1, cells := 0, slots := 0, locals := 23 }) (PX D cI cJ [(oq, .inr (2, [.ref lq, .ref smq, .ref laq, .ref grq, .ref chq, .ref cq])), (chq, .inl (cI, 210, .inl fch))] sz [.ref oq]) (QWv D (S := Unit) [(oq, .inr (2, [.ref lq, .ref smq, .ref laq, .ref grq, .ref chq, .ref cq])), (chq, .inl (cI, 210, .inl fch))] sz (fun _ => True) (fun _ => [(oq, .inr (2, [.ref lq, .ref smq, .ref laq, .ref grq, .ref chq, .ref cq])), (chq, .inl (cI, 210, .inl (fun _ => -1)))])) 0 0 (va_A [(oq, .inr (2, [.ref lq, .ref smq, .ref laq, .ref grq, .ref chq, .ref cq])), (chq, .inl (cI, 210, .inl fch))] sz) := by
  refine met_X (cc := cX2_forgetChoices) (maxL := 1) (ret := none) (by decide) rfl (Nat.le_of_ble_eq_true rfl) ?_
  intro p e s m args below meth c Q ls A hQ hAe hAt hKB hP hD hA hl
  obtain ⟨hx, hb, hr, hml, hlk, hts, hown, hnm⟩ := hAt
  have hown : s.vm.findClass RX2 = some m.cls := hown
  have hS : va_S A s.heap s.heap [] := va_S.rf
  have hl : lv_has ls 1 [(0, .ref oq)] := hl
  have hiX2 : ∀ w ∈ u_ws RX2 TX2 6, w ∈ wsX2_forgetChoices := by decide +kernel
  have fl24 := hts (.fieldLink RX2 24 "TaughtTongues$Lots" "choices" "[I") (by decide +kernel)
  refine lv_aload_n hx hb dX2_forgetChoices_0 rfl (lv_at hl 0 rfl) ?_
  refine va_get (D := D) (ci := 2) (v := .ref chq) (C := RX2) (T := TX2) (N := 6) hx hb hts hiX2 hown hKB.1 hP 0 rfl rfl 4 (by decide) fl24 (fun _ h9 => h9) rfl dX2_forgetChoices_1 ?_
  refine lv_iconst (v := (-1)) hx hb dX2_forgetChoices_4 (by decide) ?_
  have hPc := hP.sub (ws' := [(chq, .inl (cI, 210, .inl fch))]) [1] rfl
  have hDc := hD.sub (ws' := [(chq, .inl (cI, 210, .inl fch))]) [1] (by decide) rfl
  have hFc := va_free (wc := [(chq, .inl (cI, 210, .inl fch))]) hD hS hA [1] rfl
  refine w_callv (wc := [(chq, .inl (cI, 210, .inl fch))]) (wr := [(oq, .inr (2, [.ref lq, .ref smq, .ref laq, .ref grq, .ref chq, .ref cq]))]) hP hD hS [1] [0] rfl rfl (by decide) (by decide) hFc (va_runS (As := [.ref chq, .int ((-1))]) (rest := []) ⟨hx, hb, hml, hown, hts⟩ (m_J7_fill_53178 l D cI cJ _ chq 210 fch ((-1)) (by decide)) (va_cwS 2 hts gX2_forgetChoices_J7_fill_53178 rfl rfl rfl (by decide +kernel) ⟨Nat.le_of_ble_eq_true rfl, Nat.le_of_ble_eq_true rfl⟩) ⟨PX.blind, fun U hU hW => ⟨rfl, by rw [hU], hKB.warm hW, by rw [hU]; exact hPc, hDc.weaken (fun _ _ _ _ => trivial)⟩⟩ rfl rfl hl.1 rfl (lv_room (Nat.le_of_ble_eq_true rfl)) dX2_forgetChoices_5 ⟨Nat.le_of_ble_eq_true rfl, Nat.le_of_ble_eq_true rfl⟩) (fun u5 H locs hw5 hP hD hS => ?_)
  have hP : va_P D vwCl [(oq, .inr (2, [.ref lq, .ref smq, .ref laq, .ref grq, .ref chq, .ref cq])), (chq, .inl (cI, 210, .inl (fillN fch ((-1)) 210)))] _ := hP
  have hD : va_D A [(oq, .inr (2, [.ref lq, .ref smq, .ref laq, .ref grq, .ref chq, .ref cq])), (chq, .inl (cI, 210, .inl (fillN fch ((-1)) 210)))] := hD
  have hP := P_arrI hP 1 (g := (fun _ => -1)) rfl (fun j hj => if_pos hj)
  have hD := D_arrI hD 1 (g := (fun _ => -1)) rfl
  have hP : va_P D vwCl [(oq, .inr (2, [.ref lq, .ref smq, .ref laq, .ref grq, .ref chq, .ref cq])), (chq, .inl (cI, 210, .inl (fun _ => -1)))] _ := hP
  have hD : va_D A [(oq, .inr (2, [.ref lq, .ref smq, .ref laq, .ref grq, .ref chq, .ref cq])), (chq, .inl (cI, 210, .inl (fun _ => -1)))] := hD
  exact w_vret hx hb hr hlk hQ hAe () hP hD hS (trivial) dX2_forgetChoices_8

set_option maxHeartbeats 4000000 in
set_option maxRecDepth 100000 in
theorem m_X2_init (l : Launch) (D : va_G) (cI cJ : ClassId) (tT : Nat) (sz : Nat) (oq : Nat) (lq : Nat) : Met l yX2_init wsX2_init ({ frames := 2, cells := 6, slots := 1142, locals := 43 }) (PXT D cI cJ tT [(oq, .inr (2, [.null, .null, .null, .null, .null, .null]))] sz [.ref oq, .ref lq]) (QWv D (S := Nat × Nat × Nat × Nat × Nat × Nat) [(oq, .inr (2, [.null, .null, .null, .null, .null, .null]))] sz (fun _ => True) (fun u => [(oq, .inr (2, [.ref lq, .ref u.1, .ref u.2.1, .ref u.2.2.1, .ref u.2.2.2.1, .ref u.2.2.2.2.1])), (u.1, .inl (cI, 210, .inl (nF SM))), (u.2.1, .inl (cI, 210, .inl (nF LA))), (u.2.2.1, .inl (cI, 504, .inl (nF GR))), (u.2.2.2.1, .inl (cI, 210, .inl (fun _ => -1))), (u.2.2.2.2.1, .inr (0, [.ref u.2.2.2.2.2, .int (nI 0)])), (u.2.2.2.2.2, .inl (cI, 6, .inl (nF (fun _ => 0))))])) 6 1142 (va_A [(oq, .inr (2, [.null, .null, .null, .null, .null, .null]))] sz) := by
  refine met_XT (cc := cX2_init) (maxL := 3) (ret := none) (by decide) rfl (Nat.le_of_ble_eq_true rfl) ?_
  intro p e s m args below meth c Q ls A hQ hAe hFT hAt hKB hP hD hA hl
  obtain ⟨hx, hb, hr, hml, hlk, hts, hown, hnm⟩ := hAt
  have hown : s.vm.findClass RX2 = some m.cls := hown
  have hS : va_S A s.heap s.heap [] := va_S.rf
  have hl : lv_has ls 3 [(0, .ref oq), (1, .ref lq)] := hl
  have oi1 := hts (.methodLink RX2 3 objectInit) (by decide +kernel)
  have oi2 := hts (.instanceMethod objectInit) (by decide +kernel)
  have oi3 := hts (.code objectInit ⟨#[0xb1]⟩ 1 none) (by decide +kernel)
  have acI := hts (.arrayClass .int) (by decide +kernel)
  have hiX2 : ∀ w ∈ u_ws RX2 TX2 6, w ∈ wsX2_init := by decide +kernel
  have fl11 := hts (.fieldLink RX2 11 "TaughtTongues$Lots" "smaller" "[I") (by decide +kernel)
  have fl15 := hts (.fieldLink RX2 15 "TaughtTongues$Lots" "last" "[I") (by decide +kernel)
  have fl18 := hts (.fieldLink RX2 18 "TaughtTongues$Lots" "FIRST" "[I") (by decide +kernel)
  have fl21 := hts (.fieldLink RX2 21 "TaughtTongues$Lots" "greater" "[I") (by decide +kernel)
  have fl24 := hts (.fieldLink RX2 24 "TaughtTongues$Lots" "choices" "[I") (by decide +kernel)
  have hiX0 : ∀ w ∈ u_ws RX0 TX0 2, w ∈ wsX2_init := by decide +kernel
  have ck27 := hts (.classLink RX2 27 RX0) (by decide +kernel)
  have isX0 := hts (.instantiable RX0 2) (by decide +kernel)
  have inX0 := hts (.initialized RX0) (by decide +kernel)
  have im_X0_init := hts (.instanceMethod yX0_init) (by decide +kernel)
  have fl30 := hts (.fieldLink RX2 30 "TaughtTongues$Lots" "counts" "LTaughtTongues$Counts;") (by decide +kernel)
  have fl34 := hts (.fieldLink RX2 34 "TaughtTongues$Lots" "learner" "LTaughtTongues$Learner;") (by decide +kernel)
  refine lv_aload_n hx hb dX2_init_0 rfl (lv_at hl 0 rfl) ?_
  refine W.objInit hx hb hown oi1 oi2 oi3 rfl (by rw [hml]; exact hl.1) rfl dX2_init_1 (Nat.le_of_ble_eq_true rfl) (Nat.le_of_ble_eq_true rfl) ?_
  refine W.eq (g2 := F0 m 4 ls []) rfl ?_
  refine lv_aload_n hx hb dX2_init_4 rfl (lv_at hl 0 rfl) ?_
  refine lv_sipush (v := nI (210)) hx hb dX2_init_5 (by decide) ?_
  refine r_newI (n := 210) hx hb acI hKB.1 hP hD hS hA (by decide) (by decide) (Nat.le_of_ble_eq_true rfl) (Nat.le_of_ble_eq_true rfl) dX2_init_8 (fun smq H hP hD hS => ?_)
  have hP : va_P D vwCl [(oq, .inr (2, [.null, .null, .null, .null, .null, .null])), (smq, .inl (cI, 210, .inl (fun _ => 0)))] _ := hP
  have hD : va_D A [(oq, .inr (2, [.null, .null, .null, .null, .null, .null])), (smq, .inl (cI, 210, .inl (fun _ => 0)))] := hD
  refine W.widen (k := 1) (n := 210) (by decide) (by decide) ?_
  refine va_putF (D := D) (ci := 2) (v := .ref smq) (ty := .array .int) (C := RX2) (T := TX2) (N := 6) hx hb hts hiX2 tyX2 tyX2_ok nmX2 hown hKB.1 hP hD hS 0 rfl rfl 1 (by decide) fl11 (fun _ h9 => h9) rfl hnm rfl (by decide +kernel) rfl rfl (Nat.le_of_ble_eq_true rfl) dX2_init_10 (fun H locs hP hD hS => ?_)
  have hP : va_P D vwCl [(oq, .inr (2, [.null, .ref smq, .null, .null, .null, .null])), (smq, .inl (cI, 210, .inl (fun _ => 0)))] _ := hP
  have hD : va_D A [(oq, .inr (2, [.null, .ref smq, .null, .null, .null, .null])), (smq, .inl (cI, 210, .inl (fun _ => 0)))] := hD
  refine lv_aload_n hx hb dX2_init_13 rfl (lv_at hl 0 rfl) ?_
  refine lv_sipush (v := nI (210)) hx hb dX2_init_14 (by decide) ?_
  refine r_newI (n := 210) hx hb acI hKB.1 hP hD hS hA (by decide) (by decide) (Nat.le_of_ble_eq_true rfl) (Nat.le_of_ble_eq_true rfl) dX2_init_17 (fun laq H hP hD hS => ?_)
  have hP : va_P D vwCl [(oq, .inr (2, [.null, .ref smq, .null, .null, .null, .null])), (smq, .inl (cI, 210, .inl (fun _ => 0))), (laq, .inl (cI, 210, .inl (fun _ => 0)))] _ := hP
  have hD : va_D A [(oq, .inr (2, [.null, .ref smq, .null, .null, .null, .null])), (smq, .inl (cI, 210, .inl (fun _ => 0))), (laq, .inl (cI, 210, .inl (fun _ => 0)))] := hD
  refine W.widen (k := 2) (n := 420) (by decide) (by decide) ?_
  refine va_putF (D := D) (ci := 2) (v := .ref laq) (ty := .array .int) (C := RX2) (T := TX2) (N := 6) hx hb hts hiX2 tyX2 tyX2_ok nmX2 hown hKB.1 hP hD hS 0 rfl rfl 2 (by decide) fl15 (fun _ h9 => h9) rfl hnm rfl (by decide +kernel) rfl rfl (Nat.le_of_ble_eq_true rfl) dX2_init_19 (fun H locs hP hD hS => ?_)
  have hP : va_P D vwCl [(oq, .inr (2, [.null, .ref smq, .ref laq, .null, .null, .null])), (smq, .inl (cI, 210, .inl (fun _ => 0))), (laq, .inl (cI, 210, .inl (fun _ => 0)))] _ := hP
  have hD : va_D A [(oq, .inr (2, [.null, .ref smq, .ref laq, .null, .null, .null])), (smq, .inl (cI, 210, .inl (fun _ => 0))), (laq, .inl (cI, 210, .inl (fun _ => 0)))] := hD
  refine lv_aload_n hx hb dX2_init_22 rfl (lv_at hl 0 rfl) ?_
  refine va_gets hx hb hFT.1 hS hown fl18 (fun _ h9 => h9) dX2_init_23 ?_
  refine lv_iconst (v := nI (4)) hx hb dX2_init_26 (by decide) ?_
  refine r_ti (i := 4) hx hb hFT hS (by omega) dX2_init_27 ?_
  refine lv_bipush (v := nI (6)) hx hb dX2_init_28 (by decide) ?_
  refine r_imul (a := fT 4) (b := 6) hx hb dX2_init_30  ?_
  refine lv_topi (fun z1 ez1 => ?_)
  obtain rfl : z1 = nI (504) := ez1.trans (by decide)
  refine r_newI (n := 504) hx hb acI hKB.1 hP hD hS hA (by decide) (by decide) (Nat.le_of_ble_eq_true rfl) (Nat.le_of_ble_eq_true rfl) dX2_init_31 (fun grq H hP hD hS => ?_)
  have hP : va_P D vwCl [(oq, .inr (2, [.null, .ref smq, .ref laq, .null, .null, .null])), (smq, .inl (cI, 210, .inl (fun _ => 0))), (laq, .inl (cI, 210, .inl (fun _ => 0))), (grq, .inl (cI, 504, .inl (fun _ => 0)))] _ := hP
  have hD : va_D A [(oq, .inr (2, [.null, .ref smq, .ref laq, .null, .null, .null])), (smq, .inl (cI, 210, .inl (fun _ => 0))), (laq, .inl (cI, 210, .inl (fun _ => 0))), (grq, .inl (cI, 504, .inl (fun _ => 0)))] := hD
  refine W.widen (k := 3) (n := 924) (by decide) (by decide) ?_
  refine va_putF (D := D) (ci := 2) (v := .ref grq) (ty := .array .int) (C := RX2) (T := TX2) (N := 6) hx hb hts hiX2 tyX2 tyX2_ok nmX2 hown hKB.1 hP hD hS 0 rfl rfl 3 (by decide) fl21 (fun _ h9 => h9) rfl hnm rfl (by decide +kernel) rfl rfl (Nat.le_of_ble_eq_true rfl) dX2_init_33 (fun H locs hP hD hS => ?_)
  have hP : va_P D vwCl [(oq, .inr (2, [.null, .ref smq, .ref laq, .ref grq, .null, .null])), (smq, .inl (cI, 210, .inl (fun _ => 0))), (laq, .inl (cI, 210, .inl (fun _ => 0))), (grq, .inl (cI, 504, .inl (fun _ => 0)))] _ := hP
  have hD : va_D A [(oq, .inr (2, [.null, .ref smq, .ref laq, .ref grq, .null, .null])), (smq, .inl (cI, 210, .inl (fun _ => 0))), (laq, .inl (cI, 210, .inl (fun _ => 0))), (grq, .inl (cI, 504, .inl (fun _ => 0)))] := hD
  refine lv_aload_n hx hb dX2_init_36 rfl (lv_at hl 0 rfl) ?_
  refine lv_sipush (v := nI (210)) hx hb dX2_init_37 (by decide) ?_
  refine r_newI (n := 210) hx hb acI hKB.1 hP hD hS hA (by decide) (by decide) (Nat.le_of_ble_eq_true rfl) (Nat.le_of_ble_eq_true rfl) dX2_init_40 (fun chq H hP hD hS => ?_)
  have hP : va_P D vwCl [(oq, .inr (2, [.null, .ref smq, .ref laq, .ref grq, .null, .null])), (smq, .inl (cI, 210, .inl (fun _ => 0))), (laq, .inl (cI, 210, .inl (fun _ => 0))), (grq, .inl (cI, 504, .inl (fun _ => 0))), (chq, .inl (cI, 210, .inl (fun _ => 0)))] _ := hP
  have hD : va_D A [(oq, .inr (2, [.null, .ref smq, .ref laq, .ref grq, .null, .null])), (smq, .inl (cI, 210, .inl (fun _ => 0))), (laq, .inl (cI, 210, .inl (fun _ => 0))), (grq, .inl (cI, 504, .inl (fun _ => 0))), (chq, .inl (cI, 210, .inl (fun _ => 0)))] := hD
  refine W.widen (k := 4) (n := 1134) (by decide) (by decide) ?_
  refine va_putF (D := D) (ci := 2) (v := .ref chq) (ty := .array .int) (C := RX2) (T := TX2) (N := 6) hx hb hts hiX2 tyX2 tyX2_ok nmX2 hown hKB.1 hP hD hS 0 rfl rfl 4 (by decide) fl24 (fun _ h9 => h9) rfl hnm rfl (by decide +kernel) rfl rfl (Nat.le_of_ble_eq_true rfl) dX2_init_42 (fun H locs hP hD hS => ?_)
  have hP : va_P D vwCl [(oq, .inr (2, [.null, .ref smq, .ref laq, .ref grq, .ref chq, .null])), (smq, .inl (cI, 210, .inl (fun _ => 0))), (laq, .inl (cI, 210, .inl (fun _ => 0))), (grq, .inl (cI, 504, .inl (fun _ => 0))), (chq, .inl (cI, 210, .inl (fun _ => 0)))] _ := hP
  have hD : va_D A [(oq, .inr (2, [.null, .ref smq, .ref laq, .ref grq, .ref chq, .null])), (smq, .inl (cI, 210, .inl (fun _ => 0))), (laq, .inl (cI, 210, .inl (fun _ => 0))), (grq, .inl (cI, 504, .inl (fun _ => 0))), (chq, .inl (cI, 210, .inl (fun _ => 0)))] := hD
  refine lv_aload_n hx hb dX2_init_45 rfl (lv_at hl 0 rfl) ?_
  refine va_new (ci := 0) (fs := [.null, .int 0]) (C := RX0) (T := TX0) (N := 2) hx hb hts hiX0 tyX0 tyX0_ok hown ck27 isX0 inX0 hKB.1 hP hD hS hA rfl (fun j hj => by rcases (show j = 0 ∨ j = 1 by omega) with rfl | rfl <;> rfl) (Nat.le_of_ble_eq_true rfl) (Nat.le_of_ble_eq_true rfl) dX2_init_46 (fun cq H hP hD hS => ?_)
  have hP : va_P D vwCl [(oq, .inr (2, [.null, .ref smq, .ref laq, .ref grq, .ref chq, .null])), (smq, .inl (cI, 210, .inl (fun _ => 0))), (laq, .inl (cI, 210, .inl (fun _ => 0))), (grq, .inl (cI, 504, .inl (fun _ => 0))), (chq, .inl (cI, 210, .inl (fun _ => 0))), (cq, .inr (0, [.null, .int 0]))] _ := hP
  have hD : va_D A [(oq, .inr (2, [.null, .ref smq, .ref laq, .ref grq, .ref chq, .null])), (smq, .inl (cI, 210, .inl (fun _ => 0))), (laq, .inl (cI, 210, .inl (fun _ => 0))), (grq, .inl (cI, 504, .inl (fun _ => 0))), (chq, .inl (cI, 210, .inl (fun _ => 0))), (cq, .inr (0, [.null, .int 0]))] := hD
  refine W.widen (k := 5) (n := 1136) (by decide) (by decide) ?_
  refine lv_dup hx hb dX2_init_49 rfl ?_
  have hPc := hP.sub (ws' := [(cq, .inr (0, [.null, .int 0]))]) [5] rfl
  have hDc := hD.sub (ws' := [(cq, .inr (0, [.null, .int 0]))]) [5] (by decide) rfl
  have hFc := va_free (wc := [(cq, .inr (0, [.null, .int 0]))]) hD hS hA [5] rfl
  refine w_callv (wc := [(cq, .inr (0, [.null, .int 0]))]) (wr := [(oq, .inr (2, [.null, .ref smq, .ref laq, .ref grq, .ref chq, .null])), (smq, .inl (cI, 210, .inl (fun _ => 0))), (laq, .inl (cI, 210, .inl (fun _ => 0))), (grq, .inl (cI, 504, .inl (fun _ => 0))), (chq, .inl (cI, 210, .inl (fun _ => 0)))]) hP hD hS [5] [0, 1, 2, 3, 4] rfl rfl (by decide) (by decide) hFc (va_runIN (As := []) (rest := [.ref cq, .ref oq]) ⟨hx, hb, hml, hown, hts⟩ (m_X0_init l D cI cJ _ cq) (⟨va_cnB 0 hts gX2_init_X0_init_n29 rfl rfl rfl (hKB.2.m (q := ("TaughtTongues$Lots", 29, yX0_init)) 5 rfl) inX0 (by decide +kernel) ⟨Nat.le_of_ble_eq_true rfl, Nat.le_of_ble_eq_true rfl⟩, rfl, im_X0_init⟩) ⟨PX.blind, fun U hU hW => ⟨rfl, by rw [hU], hKB.warm hW, by rw [hU]; exact hPc, hDc.weaken (fun _ _ _ _ => trivial)⟩⟩ rfl rfl hl.1 rfl (lv_room (Nat.le_of_ble_eq_true rfl)) dX2_init_50 ⟨Nat.le_of_ble_eq_true rfl, Nat.le_of_ble_eq_true rfl⟩) (fun u50 H locs hw50 hP hD hS => ?_)
  have hP : va_P D vwCl [(oq, .inr (2, [.null, .ref smq, .ref laq, .ref grq, .ref chq, .null])), (smq, .inl (cI, 210, .inl (fun _ => 0))), (laq, .inl (cI, 210, .inl (fun _ => 0))), (grq, .inl (cI, 504, .inl (fun _ => 0))), (chq, .inl (cI, 210, .inl (fun _ => 0))), (cq, .inr (0, [.ref u50, .int (nI 0)])), (u50, .inl (cI, 6, .inl (nF (fun _ => 0))))] _ := hP
  have hD : va_D A [(oq, .inr (2, [.null, .ref smq, .ref laq, .ref grq, .ref chq, .null])), (smq, .inl (cI, 210, .inl (fun _ => 0))), (laq, .inl (cI, 210, .inl (fun _ => 0))), (grq, .inl (cI, 504, .inl (fun _ => 0))), (chq, .inl (cI, 210, .inl (fun _ => 0))), (cq, .inr (0, [.ref u50, .int (nI 0)])), (u50, .inl (cI, 6, .inl (nF (fun _ => 0))))] := hD
  refine W.widen (k := 6) (n := 1142) (by decide) (by decide) ?_
  obtain ⟨tq, rfl⟩ : ∃ z, z = u50 := ⟨_, rfl⟩
  refine va_putF (D := D) (ci := 2) (v := .ref cq) (ty := .object "TaughtTongues$Counts") (C := RX2) (T := TX2) (N := 6) hx hb hts hiX2 tyX2 tyX2_ok nmX2 hown hKB.1 hP hD hS 0 rfl rfl 5 (by decide) fl30 (fun _ h9 => h9) rfl hnm rfl (by decide +kernel) rfl rfl (Nat.le_of_ble_eq_true rfl) dX2_init_53 (fun H locs hP hD hS => ?_)
  have hP : va_P D vwCl [(oq, .inr (2, [.null, .ref smq, .ref laq, .ref grq, .ref chq, .ref cq])), (smq, .inl (cI, 210, .inl (fun _ => 0))), (laq, .inl (cI, 210, .inl (fun _ => 0))), (grq, .inl (cI, 504, .inl (fun _ => 0))), (chq, .inl (cI, 210, .inl (fun _ => 0))), (cq, .inr (0, [.ref tq, .int (nI 0)])), (tq, .inl (cI, 6, .inl (nF (fun _ => 0))))] _ := hP
  have hD : va_D A [(oq, .inr (2, [.null, .ref smq, .ref laq, .ref grq, .ref chq, .ref cq])), (smq, .inl (cI, 210, .inl (fun _ => 0))), (laq, .inl (cI, 210, .inl (fun _ => 0))), (grq, .inl (cI, 504, .inl (fun _ => 0))), (chq, .inl (cI, 210, .inl (fun _ => 0))), (cq, .inr (0, [.ref tq, .int (nI 0)])), (tq, .inl (cI, 6, .inl (nF (fun _ => 0))))] := hD
  refine lv_aload_n hx hb dX2_init_56 rfl (lv_at hl 0 rfl) ?_
  refine lv_aload_n hx hb dX2_init_57 rfl (lv_at hl 1 rfl) ?_
  refine va_putF (D := D) (ci := 2) (v := .ref lq) (ty := .object "TaughtTongues$Learner") (C := RX2) (T := TX2) (N := 6) hx hb hts hiX2 tyX2 tyX2_ok nmX2 hown hKB.1 hP hD hS 0 rfl rfl 0 (by decide) fl34 (fun _ h9 => h9) rfl hnm rfl (by decide +kernel) rfl rfl (Nat.le_of_ble_eq_true rfl) dX2_init_58 (fun H locs hP hD hS => ?_)
  have hP : va_P D vwCl [(oq, .inr (2, [.ref lq, .ref smq, .ref laq, .ref grq, .ref chq, .ref cq])), (smq, .inl (cI, 210, .inl (fun _ => 0))), (laq, .inl (cI, 210, .inl (fun _ => 0))), (grq, .inl (cI, 504, .inl (fun _ => 0))), (chq, .inl (cI, 210, .inl (fun _ => 0))), (cq, .inr (0, [.ref tq, .int (nI 0)])), (tq, .inl (cI, 6, .inl (nF (fun _ => 0))))] _ := hP
  have hD : va_D A [(oq, .inr (2, [.ref lq, .ref smq, .ref laq, .ref grq, .ref chq, .ref cq])), (smq, .inl (cI, 210, .inl (fun _ => 0))), (laq, .inl (cI, 210, .inl (fun _ => 0))), (grq, .inl (cI, 504, .inl (fun _ => 0))), (chq, .inl (cI, 210, .inl (fun _ => 0))), (cq, .inr (0, [.ref tq, .int (nI 0)])), (tq, .inl (cI, 6, .inl (nF (fun _ => 0))))] := hD
  refine lv_iconst (v := nI (0)) hx hb dX2_init_61 (by decide) ?_
  refine lv_istore_n (lv' := [(2, .int (nI 0)), (0, .ref oq), (1, .ref lq)]) hx hb dX2_init_62 rfl hl (by decide) rfl (fun ls hl => ?_)
  have L63 : ∀ (n : Nat) (k : Nat) (sm : Nat → Nat) (la : Nat → Nat) (gr : Nat → Nat) (H : Heap) (locs : List Loc) (ls : Array Slot), 4 - k < n → (k ≤ 4) → (∀ j, j < fT (k + 1) → sm j = SM j) → (∀ j, j < fT (k + 1) → la j = LA j) → (gD gr (fT k) (fT k) 0) → va_P D vwCl [(oq, .inr (2, [.ref lq, .ref smq, .ref laq, .ref grq, .ref chq, .ref cq])), (smq, .inl (cI, 210, .inl (nF sm))), (laq, .inl (cI, 210, .inl (nF la))), (grq, .inl (cI, 504, .inl (nF gr))), (chq, .inl (cI, 210, .inl (fun _ => 0))), (cq, .inr (0, [.ref tq, .int (nI 0)])), (tq, .inl (cI, 6, .inl (nF (fun _ => 0))))] H → va_D A [(oq, .inr (2, [.ref lq, .ref smq, .ref laq, .ref grq, .ref chq, .ref cq])), (smq, .inl (cI, 210, .inl (nF sm))), (laq, .inl (cI, 210, .inl (nF la))), (grq, .inl (cI, 504, .inl (nF gr))), (chq, .inl (cI, 210, .inl (fun _ => 0))), (cq, .inr (0, [.ref tq, .int (nI 0)])), (tq, .inl (cI, 6, .inl (nF (fun _ => 0))))] → va_S A s.heap H locs → lv_has ls 3 [(2, .int (nI k)), (0, .ref oq), (1, .ref lq)] → W p l e ({ frames := 2, cells := 6, slots := 1142, locals := 43 }) s m args below meth c H locs 6 1142 Q (F0 m 63 ls []) := by
    intro n
    induction n with
    | zero => intro k sm la gr H locs ls hm; exact absurd hm (Nat.not_lt_zero _)
    | succ n ih63 =>
      intro k sm la gr H locs ls hm hk hsm hla hgr hP hD hS hl
      refine lv_iload_n hx hb dX2_init_63 rfl (lv_at hl 0 rfl) ?_
      refine lv_iconst (v := nI (4)) hx hb dX2_init_64 (by decide) ?_
      refine r_icmp_ge (a := k) (b := 4) (tgt := 84) hx hb dX2_init_65 (by decide) (by omega) (by omega)  (fun c65 => ?_) (fun c65 => ?_)
      · skip
        obtain rfl : 4 = k := by omega
        have hP := P_arrI hP 1 (g := (nF SM)) rfl (fun j hj => congrArg nI (hsm j hj))
        have hD := D_arrI hD 1 (g := (nF SM)) rfl
        have hP : va_P D vwCl [(oq, .inr (2, [.ref lq, .ref smq, .ref laq, .ref grq, .ref chq, .ref cq])), (smq, .inl (cI, 210, .inl (nF SM))), (laq, .inl (cI, 210, .inl (nF la))), (grq, .inl (cI, 504, .inl (nF gr))), (chq, .inl (cI, 210, .inl (fun _ => 0))), (cq, .inr (0, [.ref tq, .int (nI 0)])), (tq, .inl (cI, 6, .inl (nF (fun _ => 0))))] _ := hP
        have hD : va_D A [(oq, .inr (2, [.ref lq, .ref smq, .ref laq, .ref grq, .ref chq, .ref cq])), (smq, .inl (cI, 210, .inl (nF SM))), (laq, .inl (cI, 210, .inl (nF la))), (grq, .inl (cI, 504, .inl (nF gr))), (chq, .inl (cI, 210, .inl (fun _ => 0))), (cq, .inr (0, [.ref tq, .int (nI 0)])), (tq, .inl (cI, 6, .inl (nF (fun _ => 0))))] := hD
        have hP := P_arrI hP 2 (g := (nF LA)) rfl (fun j hj => congrArg nI (hla j hj))
        have hD := D_arrI hD 2 (g := (nF LA)) rfl
        have hP : va_P D vwCl [(oq, .inr (2, [.ref lq, .ref smq, .ref laq, .ref grq, .ref chq, .ref cq])), (smq, .inl (cI, 210, .inl (nF SM))), (laq, .inl (cI, 210, .inl (nF LA))), (grq, .inl (cI, 504, .inl (nF gr))), (chq, .inl (cI, 210, .inl (fun _ => 0))), (cq, .inr (0, [.ref tq, .int (nI 0)])), (tq, .inl (cI, 6, .inl (nF (fun _ => 0))))] _ := hP
        have hD : va_D A [(oq, .inr (2, [.ref lq, .ref smq, .ref laq, .ref grq, .ref chq, .ref cq])), (smq, .inl (cI, 210, .inl (nF SM))), (laq, .inl (cI, 210, .inl (nF LA))), (grq, .inl (cI, 504, .inl (nF gr))), (chq, .inl (cI, 210, .inl (fun _ => 0))), (cq, .inr (0, [.ref tq, .int (nI 0)])), (tq, .inl (cI, 6, .inl (nF (fun _ => 0))))] := hD
        have hP := P_arrI hP 3 (g := (nF GR)) rfl (fun j hj => congrArg nI (hgr.1 j hj))
        have hD := D_arrI hD 3 (g := (nF GR)) rfl
        have hP : va_P D vwCl [(oq, .inr (2, [.ref lq, .ref smq, .ref laq, .ref grq, .ref chq, .ref cq])), (smq, .inl (cI, 210, .inl (nF SM))), (laq, .inl (cI, 210, .inl (nF LA))), (grq, .inl (cI, 504, .inl (nF GR))), (chq, .inl (cI, 210, .inl (fun _ => 0))), (cq, .inr (0, [.ref tq, .int (nI 0)])), (tq, .inl (cI, 6, .inl (nF (fun _ => 0))))] _ := hP
        have hD : va_D A [(oq, .inr (2, [.ref lq, .ref smq, .ref laq, .ref grq, .ref chq, .ref cq])), (smq, .inl (cI, 210, .inl (nF SM))), (laq, .inl (cI, 210, .inl (nF LA))), (grq, .inl (cI, 504, .inl (nF GR))), (chq, .inl (cI, 210, .inl (fun _ => 0))), (cq, .inr (0, [.ref tq, .int (nI 0)])), (tq, .inl (cI, 6, .inl (nF (fun _ => 0))))] := hD
        refine lv_aload_n hx hb dX2_init_84 rfl (lv_at hl 1 rfl) ?_
        have hPc := hP.sub (ws' := [(oq, .inr (2, [.ref lq, .ref smq, .ref laq, .ref grq, .ref chq, .ref cq])), (chq, .inl (cI, 210, .inl (fun _ => 0)))]) [0, 4] rfl
        have hDc := hD.sub (ws' := [(oq, .inr (2, [.ref lq, .ref smq, .ref laq, .ref grq, .ref chq, .ref cq])), (chq, .inl (cI, 210, .inl (fun _ => 0)))]) [0, 4] (by decide) rfl
        have hFc := va_free (wc := [(oq, .inr (2, [.ref lq, .ref smq, .ref laq, .ref grq, .ref chq, .ref cq])), (chq, .inl (cI, 210, .inl (fun _ => 0)))]) hD hS hA [0, 4] rfl
        refine w_callv (wc := [(oq, .inr (2, [.ref lq, .ref smq, .ref laq, .ref grq, .ref chq, .ref cq])), (chq, .inl (cI, 210, .inl (fun _ => 0)))]) (wr := [(smq, .inl (cI, 210, .inl (nF SM))), (laq, .inl (cI, 210, .inl (nF LA))), (grq, .inl (cI, 504, .inl (nF GR))), (cq, .inr (0, [.ref tq, .int (nI 0)])), (tq, .inl (cI, 6, .inl (nF (fun _ => 0))))]) hP hD hS [0, 4] [1, 2, 3, 5, 6] rfl rfl (by decide) (by decide) hFc (va_runV (As := []) (rest := []) ⟨hx, hb, hml, hown, hts⟩ (m_X2_forgetChoices l D cI cJ _ oq lq smq laq grq chq cq (fun _ => 0)) (cwV 0 hts gX2_init_X2_forgetChoices rfl rfl rfl (by decide +kernel) ⟨Nat.le_of_ble_eq_true rfl, Nat.le_of_ble_eq_true rfl⟩) ⟨PX.blind, va_recv hKB.1 hP (ci := 2) (q0 := 0) rfl rfl, fun U hU hW => ⟨rfl, by rw [hU], hKB.warm hW, by rw [hU]; exact hPc, hDc.weaken (fun _ _ _ _ => trivial)⟩⟩ rfl rfl hl.1 rfl (lv_room (Nat.le_of_ble_eq_true rfl)) dX2_init_85 ⟨Nat.le_of_ble_eq_true rfl, Nat.le_of_ble_eq_true rfl⟩) (fun u85 H locs hw85 hP hD hS => ?_)
        have hP : va_P D vwCl [(smq, .inl (cI, 210, .inl (nF SM))), (laq, .inl (cI, 210, .inl (nF LA))), (grq, .inl (cI, 504, .inl (nF GR))), (cq, .inr (0, [.ref tq, .int (nI 0)])), (tq, .inl (cI, 6, .inl (nF (fun _ => 0)))), (oq, .inr (2, [.ref lq, .ref smq, .ref laq, .ref grq, .ref chq, .ref cq])), (chq, .inl (cI, 210, .inl (fun _ => -1)))] _ := hP
        have hD : va_D A [(smq, .inl (cI, 210, .inl (nF SM))), (laq, .inl (cI, 210, .inl (nF LA))), (grq, .inl (cI, 504, .inl (nF GR))), (cq, .inr (0, [.ref tq, .int (nI 0)])), (tq, .inl (cI, 6, .inl (nF (fun _ => 0)))), (oq, .inr (2, [.ref lq, .ref smq, .ref laq, .ref grq, .ref chq, .ref cq])), (chq, .inl (cI, 210, .inl (fun _ => -1)))] := hD
        exact w_vret hx hb hr hlk hQ hAe (smq, laq, grq, chq, cq, tq) (hP.sub [5, 0, 1, 2, 6, 3, 4] rfl) (hD.sub [5, 0, 1, 2, 6, 3, 4] (by decide) rfl) hS (trivial) dX2_init_88
      refine lv_aload_n hx hb dX2_init_68 rfl (lv_at hl 1 rfl) ?_
      refine lv_iload_n hx hb dX2_init_69 rfl (lv_at hl 0 rfl) ?_
      have hPc := hP.sub (ws' := [(oq, .inr (2, [.ref lq, .ref smq, .ref laq, .ref grq, .ref chq, .ref cq])), (smq, .inl (cI, 210, .inl (nF sm))), (laq, .inl (cI, 210, .inl (nF la))), (grq, .inl (cI, 504, .inl (nF gr)))]) [0, 1, 2, 3] rfl
      have hDc := hD.sub (ws' := [(oq, .inr (2, [.ref lq, .ref smq, .ref laq, .ref grq, .ref chq, .ref cq])), (smq, .inl (cI, 210, .inl (nF sm))), (laq, .inl (cI, 210, .inl (nF la))), (grq, .inl (cI, 504, .inl (nF gr)))]) [0, 1, 2, 3] (by decide) rfl
      have hFc := va_free (wc := [(oq, .inr (2, [.ref lq, .ref smq, .ref laq, .ref grq, .ref chq, .ref cq])), (smq, .inl (cI, 210, .inl (nF sm))), (laq, .inl (cI, 210, .inl (nF la))), (grq, .inl (cI, 504, .inl (nF gr)))]) hD hS hA [0, 1, 2, 3] rfl
      refine w_callv (wc := [(oq, .inr (2, [.ref lq, .ref smq, .ref laq, .ref grq, .ref chq, .ref cq])), (smq, .inl (cI, 210, .inl (nF sm))), (laq, .inl (cI, 210, .inl (nF la))), (grq, .inl (cI, 504, .inl (nF gr)))]) (wr := [(chq, .inl (cI, 210, .inl (fun _ => 0))), (cq, .inr (0, [.ref tq, .int (nI 0)])), (tq, .inl (cI, 6, .inl (nF (fun _ => 0))))]) hP hD hS [0, 1, 2, 3] [4, 5, 6] rfl rfl (by decide) (by decide) hFc (va_runV (As := [.int (nI k)]) (rest := []) ⟨hx, hb, hml, hown, hts⟩ (m_X2_makeGreaterOnes l D cI cJ tT _ oq lq smq laq grq chq cq sm la gr k (c65) (hsm) (hla) (hgr)) (cwV 1 hts gX2_init_X2_makeGreaterOnes rfl rfl rfl (by decide +kernel) ⟨Nat.le_of_ble_eq_true rfl, Nat.le_of_ble_eq_true rfl⟩) ⟨PXT.blind, va_recv hKB.1 hP (ci := 2) (q0 := 0) rfl rfl, fun U hU hW => ⟨rfl, by rw [hU], hKB.warm hW, hFT.go hW (by rw [hU]; exact hS) hFc, by rw [hU]; exact hPc, hDc.weaken (fun _ _ _ _ => trivial)⟩⟩ rfl rfl hl.1 rfl (lv_room (Nat.le_of_ble_eq_true rfl)) dX2_init_70 ⟨Nat.le_of_ble_eq_true rfl, Nat.le_of_ble_eq_true rfl⟩) (fun u70 H locs hw70 hP hD hS => ?_)
      obtain ⟨sm2_70, la2_70, gr2_70⟩ := u70
      have hP : va_P D vwCl [(chq, .inl (cI, 210, .inl (fun _ => 0))), (cq, .inr (0, [.ref tq, .int (nI 0)])), (tq, .inl (cI, 6, .inl (nF (fun _ => 0)))), (oq, .inr (2, [.ref lq, .ref smq, .ref laq, .ref grq, .ref chq, .ref cq])), (smq, .inl (cI, 210, .inl (nF sm2_70))), (laq, .inl (cI, 210, .inl (nF la2_70))), (grq, .inl (cI, 504, .inl (nF gr2_70)))] _ := hP
      have hD : va_D A [(chq, .inl (cI, 210, .inl (fun _ => 0))), (cq, .inr (0, [.ref tq, .int (nI 0)])), (tq, .inl (cI, 6, .inl (nF (fun _ => 0)))), (oq, .inr (2, [.ref lq, .ref smq, .ref laq, .ref grq, .ref chq, .ref cq])), (smq, .inl (cI, 210, .inl (nF sm2_70))), (laq, .inl (cI, 210, .inl (nF la2_70))), (grq, .inl (cI, 504, .inl (nF gr2_70)))] := hD
      obtain ⟨hs5, hl5, hg5⟩ := (hw70 : (∀ j, j < fT (k + 2) → sm2_70 j = SM j) ∧ (∀ j, j < fT (k + 2) → la2_70 j = LA j) ∧ gD gr2_70 (fT k) (fT (k + 1)) 0)
      refine lv_aload_n hx hb dX2_init_73 rfl (lv_at hl 1 rfl) ?_
      refine lv_iload_n hx hb dX2_init_74 rfl (lv_at hl 0 rfl) ?_
      have hPc := hP.sub (ws' := [(oq, .inr (2, [.ref lq, .ref smq, .ref laq, .ref grq, .ref chq, .ref cq])), (smq, .inl (cI, 210, .inl (nF sm2_70))), (laq, .inl (cI, 210, .inl (nF la2_70))), (grq, .inl (cI, 504, .inl (nF gr2_70)))]) [3, 4, 5, 6] rfl
      have hDc := hD.sub (ws' := [(oq, .inr (2, [.ref lq, .ref smq, .ref laq, .ref grq, .ref chq, .ref cq])), (smq, .inl (cI, 210, .inl (nF sm2_70))), (laq, .inl (cI, 210, .inl (nF la2_70))), (grq, .inl (cI, 504, .inl (nF gr2_70)))]) [3, 4, 5, 6] (by decide) rfl
      have hFc := va_free (wc := [(oq, .inr (2, [.ref lq, .ref smq, .ref laq, .ref grq, .ref chq, .ref cq])), (smq, .inl (cI, 210, .inl (nF sm2_70))), (laq, .inl (cI, 210, .inl (nF la2_70))), (grq, .inl (cI, 504, .inl (nF gr2_70)))]) hD hS hA [3, 4, 5, 6] rfl
      refine w_callv (wc := [(oq, .inr (2, [.ref lq, .ref smq, .ref laq, .ref grq, .ref chq, .ref cq])), (smq, .inl (cI, 210, .inl (nF sm2_70))), (laq, .inl (cI, 210, .inl (nF la2_70))), (grq, .inl (cI, 504, .inl (nF gr2_70)))]) (wr := [(chq, .inl (cI, 210, .inl (fun _ => 0))), (cq, .inr (0, [.ref tq, .int (nI 0)])), (tq, .inl (cI, 6, .inl (nF (fun _ => 0))))]) hP hD hS [3, 4, 5, 6] [0, 1, 2] rfl rfl (by decide) (by decide) hFc (va_runV (As := [.int (nI k)]) (rest := []) ⟨hx, hb, hml, hown, hts⟩ (m_X2_joinGreaterOnes l D cI cJ tT _ oq lq smq laq grq chq cq sm2_70 la2_70 gr2_70 k (c65) (hs5) (hl5) (hg5)) (cwV 1 hts gX2_init_X2_joinGreaterOnes rfl rfl rfl (by decide +kernel) ⟨Nat.le_of_ble_eq_true rfl, Nat.le_of_ble_eq_true rfl⟩) ⟨PXT.blind, va_recv hKB.1 hP (ci := 2) (q0 := 3) rfl rfl, fun U hU hW => ⟨rfl, by rw [hU], hKB.warm hW, hFT.go hW (by rw [hU]; exact hS) hFc, by rw [hU]; exact hPc, hDc.weaken (fun _ _ _ _ => trivial)⟩⟩ rfl rfl hl.1 rfl (lv_room (Nat.le_of_ble_eq_true rfl)) dX2_init_75 ⟨Nat.le_of_ble_eq_true rfl, Nat.le_of_ble_eq_true rfl⟩) (fun u75 H locs hw75 hP hD hS => ?_)
      have hP : va_P D vwCl [(chq, .inl (cI, 210, .inl (fun _ => 0))), (cq, .inr (0, [.ref tq, .int (nI 0)])), (tq, .inl (cI, 6, .inl (nF (fun _ => 0)))), (oq, .inr (2, [.ref lq, .ref smq, .ref laq, .ref grq, .ref chq, .ref cq])), (smq, .inl (cI, 210, .inl (nF sm2_70))), (laq, .inl (cI, 210, .inl (nF la2_70))), (grq, .inl (cI, 504, .inl (nF u75)))] _ := hP
      have hD : va_D A [(chq, .inl (cI, 210, .inl (fun _ => 0))), (cq, .inr (0, [.ref tq, .int (nI 0)])), (tq, .inl (cI, 6, .inl (nF (fun _ => 0)))), (oq, .inr (2, [.ref lq, .ref smq, .ref laq, .ref grq, .ref chq, .ref cq])), (smq, .inl (cI, 210, .inl (nF sm2_70))), (laq, .inl (cI, 210, .inl (nF la2_70))), (grq, .inl (cI, 504, .inl (nF u75)))] := hD
      have hg6 : gJ u75 (fT (k + 1)) (fT (k + 1)) 0 := hw75
      refine lv_iinc (v := nI (k + 1)) (lv' := [(2, .int (nI (k + 1))), (0, .ref oq), (1, .ref lq)]) hx hb dX2_init_78 hl (k := 0) rfl (n_inc _ 1) (by decide) rfl (fun ls hl => ?_)
      refine lv_goto (tgt := 63) hx hb dX2_init_81 (by decide) ?_
      exact ih63 (k + 1) sm2_70 la2_70 u75 _ _ _ (by omega) (by omega) (hs5) (hl5) (gD_0 hg6 0 (Nat.zero_le _)) (hP.sub [3, 4, 5, 6, 0, 1, 2] rfl) (hD.sub [3, 4, 5, 6, 0, 1, 2] (by decide) rfl) hS hl
  exact L63 (4 - 0 + 1) 0 (fun _ => 0) (fun _ => 0) (fun _ => 0) _ _ _ (Nat.lt_succ_self _) (by omega) (by decide) (by decide) (⟨fun j hj => absurd hj (Nat.not_lt_zero j), fun a b _ _ _ hc => absurd hc (by rintro (h | ⟨-, h⟩); exact absurd h (Nat.not_lt_zero _); exact absurd h (Nat.not_lt_zero _))⟩) hP hD hS hl

set_option maxHeartbeats 4000000 in
set_option maxRecDepth 100000 in
theorem m_X2_countSayings (l : Launch) (D : va_G) (cI cJ : ClassId) (sz : Nat) (oq : Nat) (lq : Nat) (smq : Nat) (laq : Nat) (grq : Nat) (chq : Nat) (cq : Nat) (tq : Nat) (al : Nat) (tn : Nat → Nat) (lt : Nat) (hlt : lt < 210) : Met l yX2_countSayings wsX2_countSayings ({ frames := 2, cells := 0, slots := 0, locals := 43 }) (PX D cI cJ [(oq, .inr (2, [.ref lq, .ref smq, .ref laq, .ref grq, .ref chq, .ref cq])), (smq, .inl (cI, 210, .inl (nF SM))), (laq, .inl (cI, 210, .inl (nF LA))), (cq, .inr (0, [.ref tq, .int (nI al)])), (tq, .inl (cI, 6, .inl (nF tn)))] sz [.ref oq, .int (nI lt)]) (QWv D (S := Unit) [(oq, .inr (2, [.ref lq, .ref smq, .ref laq, .ref grq, .ref chq, .ref cq])), (smq, .inl (cI, 210, .inl (nF SM))), (laq, .inl (cI, 210, .inl (nF LA))), (cq, .inr (0, [.ref tq, .int (nI al)])), (tq, .inl (cI, 6, .inl (nF tn)))] sz (fun _ => True) (fun _ => [(oq, .inr (2, [.ref lq, .ref smq, .ref laq, .ref grq, .ref chq, .ref cq])), (smq, .inl (cI, 210, .inl (nF SM))), (laq, .inl (cI, 210, .inl (nF LA))), (cq, .inr (0, [.ref tq, .int (nI (LZ lt))])), (tq, .inl (cI, 6, .inl (nF (LC lt))))])) 0 0 (va_A [(oq, .inr (2, [.ref lq, .ref smq, .ref laq, .ref grq, .ref chq, .ref cq])), (smq, .inl (cI, 210, .inl (nF SM))), (laq, .inl (cI, 210, .inl (nF LA))), (cq, .inr (0, [.ref tq, .int (nI al)])), (tq, .inl (cI, 6, .inl (nF tn)))] sz) := by
  refine met_X (cc := cX2_countSayings) (maxL := 4) (ret := none) (by decide) rfl (Nat.le_of_ble_eq_true rfl) ?_
  intro p e s m args below meth c Q ls A hQ hAe hAt hKB hP hD hA hl
  obtain ⟨hx, hb, hr, hml, hlk, hts, hown, hnm⟩ := hAt
  have hown : s.vm.findClass RX2 = some m.cls := hown
  have hS : va_S A s.heap s.heap [] := va_S.rf
  have hl : lv_has ls 4 [(0, .ref oq), (1, .int (nI lt))] := hl
  have hiX2 : ∀ w ∈ u_ws RX2 TX2 6, w ∈ wsX2_countSayings := by decide +kernel
  have fl30 := hts (.fieldLink RX2 30 "TaughtTongues$Lots" "counts" "LTaughtTongues$Counts;") (by decide +kernel)
  have fl15 := hts (.fieldLink RX2 15 "TaughtTongues$Lots" "last" "[I") (by decide +kernel)
  have fl11 := hts (.fieldLink RX2 11 "TaughtTongues$Lots" "smaller" "[I") (by decide +kernel)
  refine lv_aload_n hx hb dX2_countSayings_0 rfl (lv_at hl 0 rfl) ?_
  refine va_get (D := D) (ci := 2) (v := .ref cq) (C := RX2) (T := TX2) (N := 6) hx hb hts hiX2 hown hKB.1 hP 0 rfl rfl 5 (by decide) fl30 (fun _ h9 => h9) rfl dX2_countSayings_1 ?_
  have hPc := hP.sub (ws' := [(cq, .inr (0, [.ref tq, .int (nI al)])), (tq, .inl (cI, 6, .inl (nF tn)))]) [3, 4] rfl
  have hDc := hD.sub (ws' := [(cq, .inr (0, [.ref tq, .int (nI al)])), (tq, .inl (cI, 6, .inl (nF tn)))]) [3, 4] (by decide) rfl
  have hFc := va_free (wc := [(cq, .inr (0, [.ref tq, .int (nI al)])), (tq, .inl (cI, 6, .inl (nF tn)))]) hD hS hA [3, 4] rfl
  refine w_callv (wc := [(cq, .inr (0, [.ref tq, .int (nI al)])), (tq, .inl (cI, 6, .inl (nF tn)))]) (wr := [(oq, .inr (2, [.ref lq, .ref smq, .ref laq, .ref grq, .ref chq, .ref cq])), (smq, .inl (cI, 210, .inl (nF SM))), (laq, .inl (cI, 210, .inl (nF LA)))]) hP hD hS [3, 4] [0, 1, 2] rfl rfl (by decide) (by decide) hFc (va_runV (As := []) (rest := []) ⟨hx, hb, hml, hown, hts⟩ (m_X0_clear l D cI cJ _ cq tq al tn) (cwV 0 hts gX2_countSayings_X0_clear rfl rfl rfl (by decide +kernel) ⟨Nat.le_of_ble_eq_true rfl, Nat.le_of_ble_eq_true rfl⟩) ⟨PX.blind, va_recv hKB.1 hP (ci := 0) (q0 := 3) rfl rfl, fun U hU hW => ⟨rfl, by rw [hU], hKB.warm hW, by rw [hU]; exact hPc, hDc.weaken (fun _ _ _ _ => trivial)⟩⟩ rfl rfl hl.1 rfl (lv_room (Nat.le_of_ble_eq_true rfl)) dX2_countSayings_4 ⟨Nat.le_of_ble_eq_true rfl, Nat.le_of_ble_eq_true rfl⟩) (fun u4 H locs hw4 hP hD hS => ?_)
  have hP : va_P D vwCl [(oq, .inr (2, [.ref lq, .ref smq, .ref laq, .ref grq, .ref chq, .ref cq])), (smq, .inl (cI, 210, .inl (nF SM))), (laq, .inl (cI, 210, .inl (nF LA))), (cq, .inr (0, [.ref tq, .int (nI 0)])), (tq, .inl (cI, 6, .inl (nF (nfl tn 0 6))))] _ := hP
  have hD : va_D A [(oq, .inr (2, [.ref lq, .ref smq, .ref laq, .ref grq, .ref chq, .ref cq])), (smq, .inl (cI, 210, .inl (nF SM))), (laq, .inl (cI, 210, .inl (nF LA))), (cq, .inr (0, [.ref tq, .int (nI 0)])), (tq, .inl (cI, 6, .inl (nF (nfl tn 0 6))))] := hD
  refine lv_iload_n hx hb dX2_countSayings_7 rfl (lv_at hl 1 rfl) ?_
  refine lv_istore_n (lv' := [(2, .int (nI lt)), (0, .ref oq), (1, .int (nI lt))]) hx hb dX2_countSayings_8 rfl hl (by decide) rfl (fun ls hl => ?_)
  refine lv_iconst (v := nI (0)) hx hb dX2_countSayings_9 (by decide) ?_
  refine lv_istore_n (lv' := [(3, .int (nI 0)), (2, .int (nI lt)), (0, .ref oq), (1, .int (nI lt))]) hx hb dX2_countSayings_10 rfl hl (by decide) rfl (fun ls hl => ?_)
  have L11 : ∀ (n : Nat) (k : Nat) (rst : Nat) (al3 : Nat) (tn3 : Nat → Nat) (H : Heap) (locs : List Loc) (ls : Array Slot), 4 - k < n → (k ≤ 4) → (rst < fT (5 - k)) → (cI2 tn3 lt (4 - k) rst) → (al3 + lz (4 - k) rst = LZ lt) → va_P D vwCl [(oq, .inr (2, [.ref lq, .ref smq, .ref laq, .ref grq, .ref chq, .ref cq])), (smq, .inl (cI, 210, .inl (nF SM))), (laq, .inl (cI, 210, .inl (nF LA))), (cq, .inr (0, [.ref tq, .int (nI al3)])), (tq, .inl (cI, 6, .inl (nF tn3)))] H → va_D A [(oq, .inr (2, [.ref lq, .ref smq, .ref laq, .ref grq, .ref chq, .ref cq])), (smq, .inl (cI, 210, .inl (nF SM))), (laq, .inl (cI, 210, .inl (nF LA))), (cq, .inr (0, [.ref tq, .int (nI al3)])), (tq, .inl (cI, 6, .inl (nF tn3)))] → va_S A s.heap H locs → lv_has ls 4 [(3, .int (nI k)), (2, .int (nI rst)), (0, .ref oq), (1, .int (nI lt))] → W p l e ({ frames := 2, cells := 0, slots := 0, locals := 43 }) s m args below meth c H locs 0 0 Q (F0 m 11 ls []) := by
    intro n
    induction n with
    | zero => intro k rst al3 tn3 H locs ls hm; exact absurd hm (Nat.not_lt_zero _)
    | succ n ih11 =>
      intro k rst al3 tn3 H locs ls hm hk hrl hc ha hP hD hS hl
      refine lv_iload_n hx hb dX2_countSayings_11 rfl (lv_at hl 0 rfl) ?_
      refine lv_iconst (v := nI (4)) hx hb dX2_countSayings_12 (by decide) ?_
      refine r_icmp_ge (a := k) (b := 4) (tgt := 46) hx hb dX2_countSayings_13 (by decide) (by omega) (by omega)  (fun c13 => ?_) (fun c13 => ?_)
      · skip
        have h0 : rst = 0 ∨ 4 - k = 0 := by omega
        have hal : al3 = LZ lt := h0.elim (fun h => by rw [h, lz_0] at ha; exact ha) (fun h => by rw [h] at ha; exact ha)
        subst hal
        have hP := P_arrI hP 4 (g := (nF (LC lt))) rfl (fun j hj => congrArg nI (cI2_e hc h0 j hj))
        have hD := D_arrI hD 4 (g := (nF (LC lt))) rfl
        have hP : va_P D vwCl [(oq, .inr (2, [.ref lq, .ref smq, .ref laq, .ref grq, .ref chq, .ref cq])), (smq, .inl (cI, 210, .inl (nF SM))), (laq, .inl (cI, 210, .inl (nF LA))), (cq, .inr (0, [.ref tq, .int (nI ((LZ lt)))])), (tq, .inl (cI, 6, .inl (nF (LC lt))))] _ := hP
        have hD : va_D A [(oq, .inr (2, [.ref lq, .ref smq, .ref laq, .ref grq, .ref chq, .ref cq])), (smq, .inl (cI, 210, .inl (nF SM))), (laq, .inl (cI, 210, .inl (nF LA))), (cq, .inr (0, [.ref tq, .int (nI ((LZ lt)))])), (tq, .inl (cI, 6, .inl (nF (LC lt))))] := hD
        exact w_vret hx hb hr hlk hQ hAe () hP hD hS (trivial) dX2_countSayings_46
      refine lv_iload_n hx hb dX2_countSayings_16 rfl (lv_at hl 1 rfl) ?_
      refine r_if_le (a := rst) (tgt := 46) hx hb dX2_countSayings_17 (by decide) (Nat.lt_trans (Nat.lt_of_lt_of_le hrl (fT_le _ (by omega))) (by decide)) (fun c17 => ?_) (fun c17 => ?_)
      · skip
        have h0 : rst = 0 ∨ 4 - k = 0 := by omega
        have hal : al3 = LZ lt := h0.elim (fun h => by rw [h, lz_0] at ha; exact ha) (fun h => by rw [h] at ha; exact ha)
        subst hal
        have hP := P_arrI hP 4 (g := (nF (LC lt))) rfl (fun j hj => congrArg nI (cI2_e hc h0 j hj))
        have hD := D_arrI hD 4 (g := (nF (LC lt))) rfl
        have hP : va_P D vwCl [(oq, .inr (2, [.ref lq, .ref smq, .ref laq, .ref grq, .ref chq, .ref cq])), (smq, .inl (cI, 210, .inl (nF SM))), (laq, .inl (cI, 210, .inl (nF LA))), (cq, .inr (0, [.ref tq, .int (nI ((LZ lt)))])), (tq, .inl (cI, 6, .inl (nF (LC lt))))] _ := hP
        have hD : va_D A [(oq, .inr (2, [.ref lq, .ref smq, .ref laq, .ref grq, .ref chq, .ref cq])), (smq, .inl (cI, 210, .inl (nF SM))), (laq, .inl (cI, 210, .inl (nF LA))), (cq, .inr (0, [.ref tq, .int (nI ((LZ lt)))])), (tq, .inl (cI, 6, .inl (nF (LC lt))))] := hD
        exact w_vret hx hb hr hlk hQ hAe () hP hD hS (trivial) dX2_countSayings_46
      have h210 : rst < 210 := Nat.lt_of_lt_of_le hrl (fT_le _ (by omega))
      have hla := tb_LA rst h210
      have hr1 := tb_r (3 - k) (by omega) rst h210 (by rw [show 3 - k + 2 = 5 - k by omega]; exact hrl)
      rw [show 4 - k = (3 - k) + 1 by omega] at hc ha
      refine lv_aload_n hx hb dX2_countSayings_20 rfl (lv_at hl 2 rfl) ?_
      refine va_get (D := D) (ci := 2) (v := .ref cq) (C := RX2) (T := TX2) (N := 6) hx hb hts hiX2 hown hKB.1 hP 0 rfl rfl 5 (by decide) fl30 (fun _ h9 => h9) rfl dX2_countSayings_21 ?_
      refine lv_aload_n hx hb dX2_countSayings_24 rfl (lv_at hl 2 rfl) ?_
      refine va_get (D := D) (ci := 2) (v := .ref laq) (C := RX2) (T := TX2) (N := 6) hx hb hts hiX2 hown hKB.1 hP 0 rfl rfl 2 (by decide) fl15 (fun _ h9 => h9) rfl dX2_countSayings_25 ?_
      refine lv_iload_n hx hb dX2_countSayings_28 rfl (lv_at hl 1 rfl) ?_
      refine r_iald (i := rst) (v := nI (LA rst)) hx hb hKB.1 hP 2 0 rfl rfl (by omega) (by decide) (rfl) dX2_countSayings_29 ?_
      have hPc := hP.sub (ws' := [(cq, .inr (0, [.ref tq, .int (nI al3)])), (tq, .inl (cI, 6, .inl (nF tn3)))]) [3, 4] rfl
      have hDc := hD.sub (ws' := [(cq, .inr (0, [.ref tq, .int (nI al3)])), (tq, .inl (cI, 6, .inl (nF tn3)))]) [3, 4] (by decide) rfl
      have hFc := va_free (wc := [(cq, .inr (0, [.ref tq, .int (nI al3)])), (tq, .inl (cI, 6, .inl (nF tn3)))]) hD hS hA [3, 4] rfl
      refine w_callv (wc := [(cq, .inr (0, [.ref tq, .int (nI al3)])), (tq, .inl (cI, 6, .inl (nF tn3)))]) (wr := [(oq, .inr (2, [.ref lq, .ref smq, .ref laq, .ref grq, .ref chq, .ref cq])), (smq, .inl (cI, 210, .inl (nF SM))), (laq, .inl (cI, 210, .inl (nF LA)))]) hP hD hS [3, 4] [0, 1, 2] rfl rfl (by decide) (by decide) hFc (va_runV (As := [.int (nI (LA rst))]) (rest := []) ⟨hx, hb, hml, hown, hts⟩ (m_X0_add l D cI cJ _ cq tq al3 tn3 (LA rst) (by omega)) (cwV 1 hts gX2_countSayings_X0_add rfl rfl rfl (by decide +kernel) ⟨Nat.le_of_ble_eq_true rfl, Nat.le_of_ble_eq_true rfl⟩) ⟨PX.blind, va_recv hKB.1 hP (ci := 0) (q0 := 3) rfl rfl, fun U hU hW => ⟨rfl, by rw [hU], hKB.warm hW, by rw [hU]; exact hPc, hDc.weaken (fun _ _ _ _ => trivial)⟩⟩ rfl rfl hl.1 rfl (lv_room (Nat.le_of_ble_eq_true rfl)) dX2_countSayings_30 ⟨Nat.le_of_ble_eq_true rfl, Nat.le_of_ble_eq_true rfl⟩) (fun u30 H locs hw30 hP hD hS => ?_)
      have hP : va_P D vwCl [(oq, .inr (2, [.ref lq, .ref smq, .ref laq, .ref grq, .ref chq, .ref cq])), (smq, .inl (cI, 210, .inl (nF SM))), (laq, .inl (cI, 210, .inl (nF LA))), (cq, .inr (0, [.ref tq, .int (nI (al3 + 1))])), (tq, .inl (cI, 6, .inl (nF (nu tn3 (LA rst) (tn3 (LA rst) + 1)))))] _ := hP
      have hD : va_D A [(oq, .inr (2, [.ref lq, .ref smq, .ref laq, .ref grq, .ref chq, .ref cq])), (smq, .inl (cI, 210, .inl (nF SM))), (laq, .inl (cI, 210, .inl (nF LA))), (cq, .inr (0, [.ref tq, .int (nI (al3 + 1))])), (tq, .inl (cI, 6, .inl (nF (nu tn3 (LA rst) (tn3 (LA rst) + 1)))))] := hD
      refine lv_aload_n hx hb dX2_countSayings_33 rfl (lv_at hl 2 rfl) ?_
      refine va_get (D := D) (ci := 2) (v := .ref smq) (C := RX2) (T := TX2) (N := 6) hx hb hts hiX2 hown hKB.1 hP 0 rfl rfl 1 (by decide) fl11 (fun _ h9 => h9) rfl dX2_countSayings_34 ?_
      refine lv_iload_n hx hb dX2_countSayings_37 rfl (lv_at hl 1 rfl) ?_
      refine r_iald (i := rst) (v := nI (SM rst)) hx hb hKB.1 hP 1 0 rfl rfl (by omega) (by decide) (rfl) dX2_countSayings_38 ?_
      refine lv_istore_n (lv' := [(2, .int (nI (SM rst))), (3, .int (nI k)), (0, .ref oq), (1, .int (nI lt))]) hx hb dX2_countSayings_39 rfl hl (by decide) rfl (fun ls hl => ?_)
      refine lv_iinc (v := nI (k + 1)) (lv' := [(3, .int (nI (k + 1))), (2, .int (nI (SM rst))), (0, .ref oq), (1, .int (nI lt))]) hx hb dX2_countSayings_40 hl (k := 1) rfl (n_inc _ 1) (by decide) rfl (fun ls hl => ?_)
      refine lv_goto (tgt := 11) hx hb dX2_countSayings_43 (by decide) ?_
      exact ih11 (k + 1) (SM rst) (al3 + 1) (nu tn3 (LA rst) (tn3 (LA rst) + 1)) _ _ _ (by omega) (by omega) (by rw [show 5 - (k + 1) = 3 - k + 1 by omega]; exact hr1) (by rw [show 4 - (k + 1) = 3 - k by omega]; exact cI2_s hc c17) (by rw [show 4 - (k + 1) = 3 - k by omega]; rw [lz, if_neg (by omega)] at ha; omega) hP hD hS hl
  exact L11 (4 - 0 + 1) 0 lt 0 (nfl tn 0 6) _ _ _ (Nat.lt_succ_self _) (by omega) (hlt) (cI2_0 tn lt) (Nat.zero_add _) hP hD hS hl

set_option maxHeartbeats 4000000 in
set_option maxRecDepth 100000 in
theorem m_X2_choiceBehind (l : Launch) (D : va_G) (cI cJ : ClassId) (sz : Nat) (oq : Nat) (lq : Nat) (smq : Nat) (laq : Nat) (grq : Nat) (chq : Nat) (cq : Nat) (tq : Nat) (al : Nat) (tn : Nat → Nat) (nq : Nat) (slip : Nat) (kd : Nat) (num : Nat → Nat) (fch : Nat → Int32) (lt : Nat) (hlt : lt < 210) (hsl : slip ≤ 12) (hnum : ∀ j, j < 8 → num j < 10) (hkd : kd < 3) (hch : chOk num slip kd fch) : Met l yX2_choiceBehind wsX2_choiceBehind ({ frames := 3, cells := 0, slots := 0, locals := 76 }) (PX D cI cJ [(oq, .inr (2, [.ref lq, .ref smq, .ref laq, .ref grq, .ref chq, .ref cq])), (smq, .inl (cI, 210, .inl (nF SM))), (laq, .inl (cI, 210, .inl (nF LA))), (chq, .inl (cI, 210, .inl fch)), (cq, .inr (0, [.ref tq, .int (nI al)])), (tq, .inl (cI, 6, .inl (nF tn))), (lq, .inr (1, [.ref nq, .int (nI slip), .int (nI kd)])), (nq, .inl (cI, 8, .inl (nF num)))] sz [.ref oq, .int (nI lt)]) (QWi D (S := (Nat → Int32) × (Nat → Nat) × Nat) [(oq, .inr (2, [.ref lq, .ref smq, .ref laq, .ref grq, .ref chq, .ref cq])), (smq, .inl (cI, 210, .inl (nF SM))), (laq, .inl (cI, 210, .inl (nF LA))), (chq, .inl (cI, 210, .inl fch)), (cq, .inr (0, [.ref tq, .int (nI al)])), (tq, .inl (cI, 6, .inl (nF tn))), (lq, .inr (1, [.ref nq, .int (nI slip), .int (nI kd)])), (nq, .inl (cI, 8, .inl (nF num)))] sz (fun r u => r = nI (chF num slip kd lt) ∧ (chOk num slip kd u.1)) (fun u => [(oq, .inr (2, [.ref lq, .ref smq, .ref laq, .ref grq, .ref chq, .ref cq])), (smq, .inl (cI, 210, .inl (nF SM))), (laq, .inl (cI, 210, .inl (nF LA))), (chq, .inl (cI, 210, .inl u.1)), (cq, .inr (0, [.ref tq, .int (nI (u.2.2))])), (tq, .inl (cI, 6, .inl (nF u.2.1))), (lq, .inr (1, [.ref nq, .int (nI slip), .int (nI kd)])), (nq, .inl (cI, 8, .inl (nF num)))])) 0 0 (va_A [(oq, .inr (2, [.ref lq, .ref smq, .ref laq, .ref grq, .ref chq, .ref cq])), (smq, .inl (cI, 210, .inl (nF SM))), (laq, .inl (cI, 210, .inl (nF LA))), (chq, .inl (cI, 210, .inl fch)), (cq, .inr (0, [.ref tq, .int (nI al)])), (tq, .inl (cI, 6, .inl (nF tn))), (lq, .inr (1, [.ref nq, .int (nI slip), .int (nI kd)])), (nq, .inl (cI, 8, .inl (nF num)))] sz) := by
  refine met_X (cc := cX2_choiceBehind) (maxL := 2) (ret := (some .int)) (by decide) rfl (Nat.le_of_ble_eq_true rfl) ?_
  intro p e s m args below meth c Q ls A hQ hAe hAt hKB hP hD hA hl
  obtain ⟨hx, hb, hr, hml, hlk, hts, hown, hnm⟩ := hAt
  have hown : s.vm.findClass RX2 = some m.cls := hown
  have hS : va_S A s.heap s.heap [] := va_S.rf
  have hl : lv_has ls 2 [(0, .ref oq), (1, .int (nI lt))] := hl
  have hiX2 : ∀ w ∈ u_ws RX2 TX2 6, w ∈ wsX2_choiceBehind := by decide +kernel
  have fl24 := hts (.fieldLink RX2 24 "TaughtTongues$Lots" "choices" "[I") (by decide +kernel)
  have fl34 := hts (.fieldLink RX2 34 "TaughtTongues$Lots" "learner" "LTaughtTongues$Learner;") (by decide +kernel)
  have fl30 := hts (.fieldLink RX2 30 "TaughtTongues$Lots" "counts" "LTaughtTongues$Counts;") (by decide +kernel)
  refine lv_aload_n hx hb dX2_choiceBehind_0 rfl (lv_at hl 0 rfl) ?_
  refine va_get (D := D) (ci := 2) (v := .ref chq) (C := RX2) (T := TX2) (N := 6) hx hb hts hiX2 hown hKB.1 hP 0 rfl rfl 4 (by decide) fl24 (fun _ h9 => h9) rfl dX2_choiceBehind_1 ?_
  refine lv_iload_n hx hb dX2_choiceBehind_4 rfl (lv_at hl 1 rfl) ?_
  refine r_iald (i := lt) (v := fch lt) hx hb hKB.1 hP 3 0 rfl rfl (by omega) (by decide) (rfl) dX2_choiceBehind_5 ?_
  refine lv_iconst (v := (-1)) hx hb dX2_choiceBehind_6 (by decide) ?_
  refine lv_icmp_ne (tgt := 32) hx hb dX2_choiceBehind_7 (by decide) (fun c7 => ?_) (fun c7 => ?_)
  · skip
    refine lv_aload_n hx hb dX2_choiceBehind_32 rfl (lv_at hl 0 rfl) ?_
    refine va_get (D := D) (ci := 2) (v := .ref chq) (C := RX2) (T := TX2) (N := 6) hx hb hts hiX2 hown hKB.1 hP 0 rfl rfl 4 (by decide) fl24 (fun _ h9 => h9) rfl dX2_choiceBehind_33 ?_
    refine lv_iload_n hx hb dX2_choiceBehind_36 rfl (lv_at hl 1 rfl) ?_
    refine r_iald (i := lt) (v := fch lt) hx hb hKB.1 hP 3 0 rfl rfl (by omega) (by decide) (rfl) dX2_choiceBehind_37 ?_
    exact w_iret hx hb hr hlk hQ hAe (fch, tn, al) hP hD hS (by first | exact ⟨(hch lt hlt).resolve_left c7, hch⟩ | exact ⟨pk_us, chOk_u hch⟩) dX2_choiceBehind_38
  refine lv_aload_n hx hb dX2_choiceBehind_10 rfl (lv_at hl 0 rfl) ?_
  refine lv_iload_n hx hb dX2_choiceBehind_11 rfl (lv_at hl 1 rfl) ?_
  have hPc := hP.sub (ws' := [(oq, .inr (2, [.ref lq, .ref smq, .ref laq, .ref grq, .ref chq, .ref cq])), (smq, .inl (cI, 210, .inl (nF SM))), (laq, .inl (cI, 210, .inl (nF LA))), (cq, .inr (0, [.ref tq, .int (nI al)])), (tq, .inl (cI, 6, .inl (nF tn)))]) [0, 1, 2, 4, 5] rfl
  have hDc := hD.sub (ws' := [(oq, .inr (2, [.ref lq, .ref smq, .ref laq, .ref grq, .ref chq, .ref cq])), (smq, .inl (cI, 210, .inl (nF SM))), (laq, .inl (cI, 210, .inl (nF LA))), (cq, .inr (0, [.ref tq, .int (nI al)])), (tq, .inl (cI, 6, .inl (nF tn)))]) [0, 1, 2, 4, 5] (by decide) rfl
  have hFc := va_free (wc := [(oq, .inr (2, [.ref lq, .ref smq, .ref laq, .ref grq, .ref chq, .ref cq])), (smq, .inl (cI, 210, .inl (nF SM))), (laq, .inl (cI, 210, .inl (nF LA))), (cq, .inr (0, [.ref tq, .int (nI al)])), (tq, .inl (cI, 6, .inl (nF tn)))]) hD hS hA [0, 1, 2, 4, 5] rfl
  refine w_callv (wc := [(oq, .inr (2, [.ref lq, .ref smq, .ref laq, .ref grq, .ref chq, .ref cq])), (smq, .inl (cI, 210, .inl (nF SM))), (laq, .inl (cI, 210, .inl (nF LA))), (cq, .inr (0, [.ref tq, .int (nI al)])), (tq, .inl (cI, 6, .inl (nF tn)))]) (wr := [(chq, .inl (cI, 210, .inl fch)), (lq, .inr (1, [.ref nq, .int (nI slip), .int (nI kd)])), (nq, .inl (cI, 8, .inl (nF num)))]) hP hD hS [0, 1, 2, 4, 5] [3, 6, 7] rfl rfl (by decide) (by decide) hFc (va_runV (As := [.int (nI lt)]) (rest := []) ⟨hx, hb, hml, hown, hts⟩ (m_X2_countSayings l D cI cJ _ oq lq smq laq grq chq cq tq al tn lt (by omega)) (cwV 1 hts gX2_choiceBehind_X2_countSayings rfl rfl rfl (by decide +kernel) ⟨Nat.le_of_ble_eq_true rfl, Nat.le_of_ble_eq_true rfl⟩) ⟨PX.blind, va_recv hKB.1 hP (ci := 2) (q0 := 0) rfl rfl, fun U hU hW => ⟨rfl, by rw [hU], hKB.warm hW, by rw [hU]; exact hPc, hDc.weaken (fun _ _ _ _ => trivial)⟩⟩ rfl rfl hl.1 rfl (lv_room (Nat.le_of_ble_eq_true rfl)) dX2_choiceBehind_12 ⟨Nat.le_of_ble_eq_true rfl, Nat.le_of_ble_eq_true rfl⟩) (fun u12 H locs hw12 hP hD hS => ?_)
  have hP : va_P D vwCl [(chq, .inl (cI, 210, .inl fch)), (lq, .inr (1, [.ref nq, .int (nI slip), .int (nI kd)])), (nq, .inl (cI, 8, .inl (nF num))), (oq, .inr (2, [.ref lq, .ref smq, .ref laq, .ref grq, .ref chq, .ref cq])), (smq, .inl (cI, 210, .inl (nF SM))), (laq, .inl (cI, 210, .inl (nF LA))), (cq, .inr (0, [.ref tq, .int (nI (LZ lt))])), (tq, .inl (cI, 6, .inl (nF (LC lt))))] _ := hP
  have hD : va_D A [(chq, .inl (cI, 210, .inl fch)), (lq, .inr (1, [.ref nq, .int (nI slip), .int (nI kd)])), (nq, .inl (cI, 8, .inl (nF num))), (oq, .inr (2, [.ref lq, .ref smq, .ref laq, .ref grq, .ref chq, .ref cq])), (smq, .inl (cI, 210, .inl (nF SM))), (laq, .inl (cI, 210, .inl (nF LA))), (cq, .inr (0, [.ref tq, .int (nI (LZ lt))])), (tq, .inl (cI, 6, .inl (nF (LC lt))))] := hD
  refine lv_aload_n hx hb dX2_choiceBehind_15 rfl (lv_at hl 0 rfl) ?_
  refine va_get (D := D) (ci := 2) (v := .ref chq) (C := RX2) (T := TX2) (N := 6) hx hb hts hiX2 hown hKB.1 hP 3 rfl rfl 4 (by decide) fl24 (fun _ h9 => h9) rfl dX2_choiceBehind_16 ?_
  refine lv_iload_n hx hb dX2_choiceBehind_19 rfl (lv_at hl 1 rfl) ?_
  refine lv_aload_n hx hb dX2_choiceBehind_20 rfl (lv_at hl 0 rfl) ?_
  refine va_get (D := D) (ci := 2) (v := .ref lq) (C := RX2) (T := TX2) (N := 6) hx hb hts hiX2 hown hKB.1 hP 3 rfl rfl 0 (by decide) fl34 (fun _ h9 => h9) rfl dX2_choiceBehind_21 ?_
  refine lv_aload_n hx hb dX2_choiceBehind_24 rfl (lv_at hl 0 rfl) ?_
  refine va_get (D := D) (ci := 2) (v := .ref cq) (C := RX2) (T := TX2) (N := 6) hx hb hts hiX2 hown hKB.1 hP 3 rfl rfl 5 (by decide) fl30 (fun _ h9 => h9) rfl dX2_choiceBehind_25 ?_
  have hPc := hP.sub (ws' := [(lq, .inr (1, [.ref nq, .int (nI slip), .int (nI kd)])), (nq, .inl (cI, 8, .inl (nF num))), (cq, .inr (0, [.ref tq, .int (nI (LZ lt))])), (tq, .inl (cI, 6, .inl (nF (LC lt))))]) [1, 2, 6, 7] rfl
  refine r_calli hP hS (va_runV (As := [.ref cq]) (rest := [.int (nI lt), .ref chq]) ⟨hx, hb, hml, hown, hts⟩ (m_X1_choice l D cI cJ lq nq slip kd num cq tq (LZ lt) (LC lt) (by assumption) (by assumption) (Nat.le_trans (tb_LZ lt hlt) (by decide)) (tb_sh lt hlt) (by assumption)) (cwV 1 hts gX2_choiceBehind_X1_choice rfl rfl rfl (by decide +kernel) ⟨Nat.le_of_ble_eq_true rfl, Nat.le_of_ble_eq_true rfl⟩) ⟨PR.blind, va_recv hKB.1 hP (ci := 1) (q0 := 1) rfl rfl, fun U hU hW => ⟨rfl, hKB.warm hW, by rw [hU]; exact hPc⟩⟩ rfl rfl hl.1 rfl (lv_room (Nat.le_of_ble_eq_true rfl)) dX2_choiceBehind_28 ⟨Nat.le_of_ble_eq_true rfl, Nat.le_of_ble_eq_true rfl⟩) (fun r2 H locs hw28 hP hS => ?_)
  have hw28 : r2 = nI (tk (lkC num slip (LC lt) (LZ lt)) kd (fun t => decide (shw (LC lt) t 3 = (LZ lt)))) := hw28
  subst hw28
  refine lv_topi (fun z3 ez3 => ?_)
  obtain rfl : z3 = nI (chF num slip kd lt) := ez3.trans (rfl)
  refine r_iast (i := lt) hx hb hKB.1 hP hD hS 0 0 rfl rfl (by omega) (by decide) dX2_choiceBehind_31 (fun H locs hP hD hS => ?_)
  have hP : va_P D vwCl [(chq, .inl (cI, 210, .inl (upd fch lt (nI (chF num slip kd lt))))), (lq, .inr (1, [.ref nq, .int (nI slip), .int (nI kd)])), (nq, .inl (cI, 8, .inl (nF num))), (oq, .inr (2, [.ref lq, .ref smq, .ref laq, .ref grq, .ref chq, .ref cq])), (smq, .inl (cI, 210, .inl (nF SM))), (laq, .inl (cI, 210, .inl (nF LA))), (cq, .inr (0, [.ref tq, .int (nI (LZ lt))])), (tq, .inl (cI, 6, .inl (nF (LC lt))))] _ := hP
  have hD : va_D A [(chq, .inl (cI, 210, .inl (upd fch lt (nI (chF num slip kd lt))))), (lq, .inr (1, [.ref nq, .int (nI slip), .int (nI kd)])), (nq, .inl (cI, 8, .inl (nF num))), (oq, .inr (2, [.ref lq, .ref smq, .ref laq, .ref grq, .ref chq, .ref cq])), (smq, .inl (cI, 210, .inl (nF SM))), (laq, .inl (cI, 210, .inl (nF LA))), (cq, .inr (0, [.ref tq, .int (nI (LZ lt))])), (tq, .inl (cI, 6, .inl (nF (LC lt))))] := hD
  refine lv_aload_n hx hb dX2_choiceBehind_32 rfl (lv_at hl 0 rfl) ?_
  refine va_get (D := D) (ci := 2) (v := .ref chq) (C := RX2) (T := TX2) (N := 6) hx hb hts hiX2 hown hKB.1 hP 3 rfl rfl 4 (by decide) fl24 (fun _ h9 => h9) rfl dX2_choiceBehind_33 ?_
  refine lv_iload_n hx hb dX2_choiceBehind_36 rfl (lv_at hl 1 rfl) ?_
  refine r_iald (i := lt) (v := (upd fch lt (nI (chF num slip kd lt))) lt) hx hb hKB.1 hP 0 0 rfl rfl (by omega) (by decide) (rfl) dX2_choiceBehind_37 ?_
  exact w_iret hx hb hr hlk hQ hAe (upd fch lt (nI (chF num slip kd lt)), LC lt, LZ lt) (hP.sub [3, 4, 5, 0, 6, 7, 1, 2] rfl) (hD.sub [3, 4, 5, 0, 6, 7, 1, 2] (by decide) rfl) hS (by first | exact ⟨(hch lt hlt).resolve_left c7, hch⟩ | exact ⟨pk_us, chOk_u hch⟩) dX2_choiceBehind_38

set_option maxHeartbeats 4000000 in
set_option maxRecDepth 100000 in
theorem m_X2_sizeOf (l : Launch) (D : va_G) (cI cJ : ClassId) (tT : Nat) (oq : Nat) (lq : Nat) (smq : Nat) (laq : Nat) (grq : Nat) (chq : Nat) (cq : Nat) (lt : Nat) (hlt : lt < 210) : Met l yX2_sizeOf wsX2_sizeOf ({ frames := 0, cells := 0, slots := 0, locals := 0 }) (PRT D cI cJ tT [(oq, .inr (2, [.ref lq, .ref smq, .ref laq, .ref grq, .ref chq, .ref cq]))] [.ref oq, .int (nI lt)]) (QRi (fun r => r = nI (szL lt))) 0 0 NA := by
  refine met_RT (cc := cX2_sizeOf) (maxL := 3) (ret := (some .int)) (by decide) rfl (Nat.le_of_ble_eq_true rfl) ?_
  intro p e s m args below meth c Q ls hQ hFT hAt hKB hP hl
  obtain ⟨hx, hb, hr, hml, hlk, hts, hown, hnm⟩ := hAt
  have hown : s.vm.findClass RX2 = some m.cls := hown
  have hS : va_S NA s.heap s.heap [] := va_S.rf
  have hl : lv_has ls 3 [(0, .ref oq), (1, .int (nI lt))] := hl
  have fl18 := hts (.fieldLink RX2 18 "TaughtTongues$Lots" "FIRST" "[I") (by decide +kernel)
  refine lv_iconst (v := nI (0)) hx hb dX2_sizeOf_0 (by decide) ?_
  refine lv_istore_n (lv' := [(2, .int (nI 0)), (0, .ref oq), (1, .int (nI lt))]) hx hb dX2_sizeOf_1 rfl hl (by decide) rfl (fun ls hl => ?_)
  have L2 : ∀ (n : Nat) (k : Nat) (H : Heap) (locs : List Loc) (ls : Array Slot), 4 - k < n → (k ≤ 4) → (∀ j, j < k → (fun k => decide (lt < fT (k + 1))) j = false) → va_P D vwCl [(oq, .inr (2, [.ref lq, .ref smq, .ref laq, .ref grq, .ref chq, .ref cq]))] H → va_S NA s.heap H locs → lv_has ls 3 [(2, .int (nI k)), (0, .ref oq), (1, .int (nI lt))] → W p l e ({ frames := 0, cells := 0, slots := 0, locals := 0 }) s m args below meth c H locs 0 0 Q (F0 m 2 ls []) := by
    intro n
    induction n with
    | zero => intro k H locs ls hm; exact absurd hm (Nat.not_lt_zero _)
    | succ n ih2 =>
      intro k H locs ls hm hk hn hP hS hl
      refine lv_iload_n hx hb dX2_sizeOf_2 rfl (lv_at hl 0 rfl) ?_
      refine lv_iconst (v := nI (4)) hx hb dX2_sizeOf_3 (by decide) ?_
      refine r_icmp_ge (a := k) (b := 4) (tgt := 24) hx hb dX2_sizeOf_4 (by decide) (by omega) (by omega)  (fun c4 => ?_) (fun c4 => ?_)
      · skip
        refine lv_iload_n hx hb dX2_sizeOf_24 rfl (lv_at hl 0 rfl) ?_
        exact r_iret hx hb hr hlk hQ hS (by first | rw [szL_hit c4 hn c15] | rw [szL_end (by omega) hn]) dX2_sizeOf_25
      refine lv_iload_n hx hb dX2_sizeOf_7 rfl (lv_at hl 2 rfl) ?_
      refine va_gets hx hb hFT.1 hS hown fl18 (fun _ h9 => h9) dX2_sizeOf_8 ?_
      refine lv_iload_n hx hb dX2_sizeOf_11 rfl (lv_at hl 0 rfl) ?_
      refine lv_iconst (v := nI (1)) hx hb dX2_sizeOf_12 (by decide) ?_
      refine r_iadd (a := k) (b := 1) hx hb dX2_sizeOf_13  ?_
      refine r_ti (i := k + 1) hx hb hFT hS (by omega) dX2_sizeOf_14 ?_
      refine r_icmp_lt (a := lt) (b := fT (k + 1)) (tgt := 24) hx hb dX2_sizeOf_15 (by decide) (by omega) (by have := fT_le (k + 1) (by omega); omega)  (fun c15 => ?_) (fun c15 => ?_)
      · skip
        refine lv_iload_n hx hb dX2_sizeOf_24 rfl (lv_at hl 0 rfl) ?_
        exact r_iret hx hb hr hlk hQ hS (by first | rw [szL_hit c4 hn c15] | rw [szL_end (by omega) hn]) dX2_sizeOf_25
      refine lv_iinc (v := nI (k + 1)) (lv' := [(2, .int (nI (k + 1))), (0, .ref oq), (1, .int (nI lt))]) hx hb dX2_sizeOf_18 hl (k := 0) rfl (n_inc _ 1) (by decide) rfl (fun ls hl => ?_)
      refine lv_goto (tgt := 2) hx hb dX2_sizeOf_21 (by decide) ?_
      exact ih2 (k + 1) _ _ _ (by omega) (by omega) (nh_s hn (decide_eq_false (by omega))) hP hS hl
  exact L2 (4 - 0 + 1) 0 _ _ _ (Nat.lt_succ_self _) (by omega) (fun j hj => absurd hj (Nat.not_lt_zero j)) hP hS hl

set_option maxHeartbeats 4000000 in
set_option maxRecDepth 100000 in
theorem m_X2_sayingOf (l : Launch) (D : va_G) (cI cJ : ClassId) (oq : Nat) (lq : Nat) (smq : Nat) (laq : Nat) (grq : Nat) (chq : Nat) (cq : Nat) (lt : Nat) (bh : Nat) (hlt : lt < 210) (hbh : bh ≤ 4) : Met l yX2_sayingOf wsX2_sayingOf ({ frames := 0, cells := 0, slots := 0, locals := 0 }) (PR D cI cJ [(oq, .inr (2, [.ref lq, .ref smq, .ref laq, .ref grq, .ref chq, .ref cq])), (smq, .inl (cI, 210, .inl (nF SM))), (laq, .inl (cI, 210, .inl (nF LA)))] [.ref oq, .int (nI lt), .int (nI bh)]) (QRi (fun r => r = nI (LA (smI lt bh)))) 0 0 NA := by
  refine met_R (cc := cX2_sayingOf) (maxL := 5) (ret := (some .int)) (by decide) rfl (Nat.le_of_ble_eq_true rfl) ?_
  intro p e s m args below meth c Q ls hQ hAt hKB hP hl
  obtain ⟨hx, hb, hr, hml, hlk, hts, hown, hnm⟩ := hAt
  have hown : s.vm.findClass RX2 = some m.cls := hown
  have hS : va_S NA s.heap s.heap [] := va_S.rf
  have hl : lv_has ls 5 [(0, .ref oq), (1, .int (nI lt)), (2, .int (nI bh))] := hl
  have hiX2 : ∀ w ∈ u_ws RX2 TX2 6, w ∈ wsX2_sayingOf := by decide +kernel
  have fl15 := hts (.fieldLink RX2 15 "TaughtTongues$Lots" "last" "[I") (by decide +kernel)
  have fl11 := hts (.fieldLink RX2 11 "TaughtTongues$Lots" "smaller" "[I") (by decide +kernel)
  refine lv_iload_n hx hb dX2_sayingOf_0 rfl (lv_at hl 1 rfl) ?_
  refine lv_istore_n (lv' := [(3, .int (nI lt)), (0, .ref oq), (1, .int (nI lt)), (2, .int (nI bh))]) hx hb dX2_sayingOf_1 rfl hl (by decide) rfl (fun ls hl => ?_)
  refine lv_iconst (v := nI (0)) hx hb dX2_sayingOf_2 (by decide) ?_
  refine lv_istore (lv' := [(4, .int (nI 0)), (3, .int (nI lt)), (0, .ref oq), (1, .int (nI lt)), (2, .int (nI bh))]) hx hb dX2_sayingOf_3 hl (by decide) rfl (fun ls hl => ?_)
  have L5 : ∀ (n : Nat) (k : Nat) (H : Heap) (locs : List Loc) (ls : Array Slot), 4 - k < n → (k ≤ bh) → va_P D vwCl [(oq, .inr (2, [.ref lq, .ref smq, .ref laq, .ref grq, .ref chq, .ref cq])), (smq, .inl (cI, 210, .inl (nF SM))), (laq, .inl (cI, 210, .inl (nF LA)))] H → va_S NA s.heap H locs → lv_has ls 5 [(4, .int (nI k)), (3, .int (nI (smI lt k))), (0, .ref oq), (1, .int (nI lt)), (2, .int (nI bh))] → W p l e ({ frames := 0, cells := 0, slots := 0, locals := 0 }) s m args below meth c H locs 0 0 Q (F0 m 5 ls []) := by
    intro n
    induction n with
    | zero => intro k H locs ls hm; exact absurd hm (Nat.not_lt_zero _)
    | succ n ih5 =>
      intro k H locs ls hm hk hP hS hl
      refine lv_iload hx hb dX2_sayingOf_5 (lv_at hl 0 rfl) ?_
      refine lv_iload_n hx hb dX2_sayingOf_7 rfl (lv_at hl 4 rfl) ?_
      refine r_icmp_ge (a := k) (b := bh) (tgt := 30) hx hb dX2_sayingOf_8 (by decide) (by omega) (by omega)  (fun c8 => ?_) (fun c8 => ?_)
      · skip
        refine lv_aload_n hx hb dX2_sayingOf_30 rfl (lv_at hl 2 rfl) ?_
        refine va_get (D := D) (ci := 2) (v := .ref laq) (C := RX2) (T := TX2) (N := 6) hx hb hts hiX2 hown hKB.1 hP 0 rfl rfl 2 (by decide) fl15 (fun _ h9 => h9) rfl dX2_sayingOf_31 ?_
        refine lv_iload_n hx hb dX2_sayingOf_34 rfl (lv_at hl 1 rfl) ?_
        refine r_iald (i := smI lt k) (v := nI (LA (smI lt k))) hx hb hKB.1 hP 2 0 rfl rfl (smI_lt hlt k) (by decide) (rfl) dX2_sayingOf_35 ?_
        exact r_iret hx hb hr hlk hQ hS (by rw [show k = bh by omega]) dX2_sayingOf_36
      refine lv_iload hx hb dX2_sayingOf_11 (lv_at hl 0 rfl) ?_
      refine lv_iconst (v := nI (4)) hx hb dX2_sayingOf_13 (by decide) ?_
      refine r_icmp_ge (a := k) (b := 4) (tgt := 30) hx hb dX2_sayingOf_14 (by decide) (by omega) (by omega)  (fun c14 => ?_) (fun c14 => ?_)
      · skip
        refine lv_aload_n hx hb dX2_sayingOf_30 rfl (lv_at hl 2 rfl) ?_
        refine va_get (D := D) (ci := 2) (v := .ref laq) (C := RX2) (T := TX2) (N := 6) hx hb hts hiX2 hown hKB.1 hP 0 rfl rfl 2 (by decide) fl15 (fun _ h9 => h9) rfl dX2_sayingOf_31 ?_
        refine lv_iload_n hx hb dX2_sayingOf_34 rfl (lv_at hl 1 rfl) ?_
        refine r_iald (i := smI lt k) (v := nI (LA (smI lt k))) hx hb hKB.1 hP 2 0 rfl rfl (smI_lt hlt k) (by decide) (rfl) dX2_sayingOf_35 ?_
        exact r_iret hx hb hr hlk hQ hS (by rw [show k = bh by omega]) dX2_sayingOf_36
      refine lv_aload_n hx hb dX2_sayingOf_17 rfl (lv_at hl 2 rfl) ?_
      refine va_get (D := D) (ci := 2) (v := .ref smq) (C := RX2) (T := TX2) (N := 6) hx hb hts hiX2 hown hKB.1 hP 0 rfl rfl 1 (by decide) fl11 (fun _ h9 => h9) rfl dX2_sayingOf_18 ?_
      refine lv_iload_n hx hb dX2_sayingOf_21 rfl (lv_at hl 1 rfl) ?_
      refine r_iald (i := smI lt k) (v := nI (SM (smI lt k))) hx hb hKB.1 hP 1 0 rfl rfl (smI_lt hlt k) (by decide) (rfl) dX2_sayingOf_22 ?_
      refine lv_istore_n (lv' := [(3, .int (nI (SM (smI lt k)))), (4, .int (nI k)), (0, .ref oq), (1, .int (nI lt)), (2, .int (nI bh))]) hx hb dX2_sayingOf_23 rfl hl (by decide) rfl (fun ls hl => ?_)
      refine lv_iinc (v := nI (k + 1)) (lv' := [(4, .int (nI (k + 1))), (3, .int (nI (SM (smI lt k)))), (0, .ref oq), (1, .int (nI lt)), (2, .int (nI bh))]) hx hb dX2_sayingOf_24 hl (k := 1) rfl (n_inc _ 1) (by decide) rfl (fun ls hl => ?_)
      refine lv_goto (tgt := 5) hx hb dX2_sayingOf_27 (by decide) ?_
      exact ih5 (k + 1) _ _ _ (by omega) (by omega) hP hS hl
  exact L5 (4 - 0 + 1) 0 _ _ _ (Nat.lt_succ_self _) (by omega) hP hS hl

set_option maxHeartbeats 4000000 in
set_option maxRecDepth 100000 in
theorem m_X2_firstThatTeaches (l : Launch) (D : va_G) (cI cJ : ClassId) (sz : Nat) (oq : Nat) (lq : Nat) (smq : Nat) (laq : Nat) (grq : Nat) (chq : Nat) (cq : Nat) (tq : Nat) (al : Nat) (tn : Nat → Nat) (nq : Nat) (slip : Nat) (kd : Nat) (num : Nat → Nat) (fch : Nat → Int32) (t : Nat) (ht : t < 8) (hsl : slip ≤ 12) (hnum : ∀ j, j < 8 → num j < 10) (hkd : kd < 3) (hch : chOk num slip kd fch) : Met l yX2_firstThatTeaches wsX2_firstThatTeaches ({ frames := 4, cells := 0, slots := 0, locals := 97 }) (PX D cI cJ [(oq, .inr (2, [.ref lq, .ref smq, .ref laq, .ref grq, .ref chq, .ref cq])), (smq, .inl (cI, 210, .inl (nF SM))), (laq, .inl (cI, 210, .inl (nF LA))), (chq, .inl (cI, 210, .inl fch)), (cq, .inr (0, [.ref tq, .int (nI al)])), (tq, .inl (cI, 6, .inl (nF tn))), (lq, .inr (1, [.ref nq, .int (nI slip), .int (nI kd)])), (nq, .inl (cI, 8, .inl (nF num)))] sz [.ref oq, .int (nI t)]) (QWi D (S := (Nat → Int32) × (Nat → Nat) × Nat) [(oq, .inr (2, [.ref lq, .ref smq, .ref laq, .ref grq, .ref chq, .ref cq])), (smq, .inl (cI, 210, .inl (nF SM))), (laq, .inl (cI, 210, .inl (nF LA))), (chq, .inl (cI, 210, .inl fch)), (cq, .inr (0, [.ref tq, .int (nI al)])), (tq, .inl (cI, 6, .inl (nF tn))), (lq, .inr (1, [.ref nq, .int (nI slip), .int (nI kd)])), (nq, .inl (cI, 8, .inl (nF num)))] sz (fun r u => r = ftI num slip kd t ∧ (chOk num slip kd u.1)) (fun u => [(oq, .inr (2, [.ref lq, .ref smq, .ref laq, .ref grq, .ref chq, .ref cq])), (smq, .inl (cI, 210, .inl (nF SM))), (laq, .inl (cI, 210, .inl (nF LA))), (chq, .inl (cI, 210, .inl u.1)), (cq, .inr (0, [.ref tq, .int (nI (u.2.2))])), (tq, .inl (cI, 6, .inl (nF u.2.1))), (lq, .inr (1, [.ref nq, .int (nI slip), .int (nI kd)])), (nq, .inl (cI, 8, .inl (nF num)))])) 0 0 (va_A [(oq, .inr (2, [.ref lq, .ref smq, .ref laq, .ref grq, .ref chq, .ref cq])), (smq, .inl (cI, 210, .inl (nF SM))), (laq, .inl (cI, 210, .inl (nF LA))), (chq, .inl (cI, 210, .inl fch)), (cq, .inr (0, [.ref tq, .int (nI al)])), (tq, .inl (cI, 6, .inl (nF tn))), (lq, .inr (1, [.ref nq, .int (nI slip), .int (nI kd)])), (nq, .inl (cI, 8, .inl (nF num)))] sz) := by
  refine met_X (cc := cX2_firstThatTeaches) (maxL := 3) (ret := (some .int)) (by decide) rfl (Nat.le_of_ble_eq_true rfl) ?_
  intro p e s m args below meth c Q ls A hQ hAe hAt hKB hP hD hA hl
  obtain ⟨hx, hb, hr, hml, hlk, hts, hown, hnm⟩ := hAt
  have hown : s.vm.findClass RX2 = some m.cls := hown
  have hS : va_S A s.heap s.heap [] := va_S.rf
  have hl : lv_has ls 3 [(0, .ref oq), (1, .int (nI t))] := hl
  have hiX2 : ∀ w ∈ u_ws RX2 TX2 6, w ∈ wsX2_firstThatTeaches := by decide +kernel
  have fl30 := hts (.fieldLink RX2 30 "TaughtTongues$Lots" "counts" "LTaughtTongues$Counts;") (by decide +kernel)
  have hiX0 : ∀ w ∈ u_ws RX0 TX0 2, w ∈ wsX2_firstThatTeaches := by decide +kernel
  refine lv_iconst (v := nI (1)) hx hb dX2_firstThatTeaches_0 (by decide) ?_
  refine lv_istore_n (lv' := [(2, .int (nI 1)), (0, .ref oq), (1, .int (nI t))]) hx hb dX2_firstThatTeaches_1 rfl hl (by decide) rfl (fun ls hl => ?_)
  have L2 : ∀ (n : Nat) (k : Nat) (fch3 : Nat → Int32) (al3 : Nat) (tn3 : Nat → Nat) (H : Heap) (locs : List Loc) (ls : Array Slot), 210 - k < n → (1 ≤ k ∧ k ≤ 210) → (ftL num slip kd t = fi (tch num slip kd t) (210 - k) k) → (chOk num slip kd fch3) → va_P D vwCl [(oq, .inr (2, [.ref lq, .ref smq, .ref laq, .ref grq, .ref chq, .ref cq])), (smq, .inl (cI, 210, .inl (nF SM))), (laq, .inl (cI, 210, .inl (nF LA))), (chq, .inl (cI, 210, .inl fch3)), (cq, .inr (0, [.ref tq, .int (nI al3)])), (tq, .inl (cI, 6, .inl (nF tn3))), (lq, .inr (1, [.ref nq, .int (nI slip), .int (nI kd)])), (nq, .inl (cI, 8, .inl (nF num)))] H → va_D A [(oq, .inr (2, [.ref lq, .ref smq, .ref laq, .ref grq, .ref chq, .ref cq])), (smq, .inl (cI, 210, .inl (nF SM))), (laq, .inl (cI, 210, .inl (nF LA))), (chq, .inl (cI, 210, .inl fch3)), (cq, .inr (0, [.ref tq, .int (nI al3)])), (tq, .inl (cI, 6, .inl (nF tn3))), (lq, .inr (1, [.ref nq, .int (nI slip), .int (nI kd)])), (nq, .inl (cI, 8, .inl (nF num)))] → va_S A s.heap H locs → lv_has ls 3 [(2, .int (nI k)), (0, .ref oq), (1, .int (nI t))] → W p l e ({ frames := 4, cells := 0, slots := 0, locals := 97 }) s m args below meth c H locs 0 0 Q (F0 m 2 ls []) := by
    intro n
    induction n with
    | zero => intro k fch3 al3 tn3 H locs ls hm; exact absurd hm (Nat.not_lt_zero _)
    | succ n ih2 =>
      intro k fch3 al3 tn3 H locs ls hm hk hres hch3 hP hD hS hl
      refine lv_iload_n hx hb dX2_firstThatTeaches_2 rfl (lv_at hl 0 rfl) ?_
      refine lv_sipush (v := nI (210)) hx hb dX2_firstThatTeaches_3 (by decide) ?_
      refine r_icmp_ge (a := k) (b := 210) (tgt := 49) hx hb dX2_firstThatTeaches_6 (by decide) (by omega) (by omega)  (fun c6 => ?_) (fun c6 => ?_)
      · skip
        refine lv_bipush (v := (-6)) hx hb dX2_firstThatTeaches_49 (by decide) ?_
        exact w_iret hx hb hr hlk hQ hAe (fch3, tn3, al3) hP hD hS (by refine ⟨?_, hch3⟩; rw [ftI, hres, show 210 - k = 0 by omega, fi, if_neg (by omega)]) dX2_firstThatTeaches_51
      refine lv_aload_n hx hb dX2_firstThatTeaches_9 rfl (lv_at hl 1 rfl) ?_
      refine lv_iload_n hx hb dX2_firstThatTeaches_10 rfl (lv_at hl 0 rfl) ?_
      have hPc := hP.sub (ws' := [(oq, .inr (2, [.ref lq, .ref smq, .ref laq, .ref grq, .ref chq, .ref cq])), (smq, .inl (cI, 210, .inl (nF SM))), (laq, .inl (cI, 210, .inl (nF LA))), (cq, .inr (0, [.ref tq, .int (nI al3)])), (tq, .inl (cI, 6, .inl (nF tn3)))]) [0, 1, 2, 4, 5] rfl
      have hDc := hD.sub (ws' := [(oq, .inr (2, [.ref lq, .ref smq, .ref laq, .ref grq, .ref chq, .ref cq])), (smq, .inl (cI, 210, .inl (nF SM))), (laq, .inl (cI, 210, .inl (nF LA))), (cq, .inr (0, [.ref tq, .int (nI al3)])), (tq, .inl (cI, 6, .inl (nF tn3)))]) [0, 1, 2, 4, 5] (by decide) rfl
      have hFc := va_free (wc := [(oq, .inr (2, [.ref lq, .ref smq, .ref laq, .ref grq, .ref chq, .ref cq])), (smq, .inl (cI, 210, .inl (nF SM))), (laq, .inl (cI, 210, .inl (nF LA))), (cq, .inr (0, [.ref tq, .int (nI al3)])), (tq, .inl (cI, 6, .inl (nF tn3)))]) hD hS hA [0, 1, 2, 4, 5] rfl
      refine w_callv (wc := [(oq, .inr (2, [.ref lq, .ref smq, .ref laq, .ref grq, .ref chq, .ref cq])), (smq, .inl (cI, 210, .inl (nF SM))), (laq, .inl (cI, 210, .inl (nF LA))), (cq, .inr (0, [.ref tq, .int (nI al3)])), (tq, .inl (cI, 6, .inl (nF tn3)))]) (wr := [(chq, .inl (cI, 210, .inl fch3)), (lq, .inr (1, [.ref nq, .int (nI slip), .int (nI kd)])), (nq, .inl (cI, 8, .inl (nF num)))]) hP hD hS [0, 1, 2, 4, 5] [3, 6, 7] rfl rfl (by decide) (by decide) hFc (va_runV (As := [.int (nI k)]) (rest := []) ⟨hx, hb, hml, hown, hts⟩ (m_X2_countSayings l D cI cJ _ oq lq smq laq grq chq cq tq al3 tn3 k (by omega)) (cwV 1 hts gX2_firstThatTeaches_X2_countSayings rfl rfl rfl (by decide +kernel) ⟨Nat.le_of_ble_eq_true rfl, Nat.le_of_ble_eq_true rfl⟩) ⟨PX.blind, va_recv hKB.1 hP (ci := 2) (q0 := 0) rfl rfl, fun U hU hW => ⟨rfl, by rw [hU], hKB.warm hW, by rw [hU]; exact hPc, hDc.weaken (fun _ _ _ _ => trivial)⟩⟩ rfl rfl hl.1 rfl (lv_room (Nat.le_of_ble_eq_true rfl)) dX2_firstThatTeaches_11 ⟨Nat.le_of_ble_eq_true rfl, Nat.le_of_ble_eq_true rfl⟩) (fun u11 H locs hw11 hP hD hS => ?_)
      have hP : va_P D vwCl [(chq, .inl (cI, 210, .inl fch3)), (lq, .inr (1, [.ref nq, .int (nI slip), .int (nI kd)])), (nq, .inl (cI, 8, .inl (nF num))), (oq, .inr (2, [.ref lq, .ref smq, .ref laq, .ref grq, .ref chq, .ref cq])), (smq, .inl (cI, 210, .inl (nF SM))), (laq, .inl (cI, 210, .inl (nF LA))), (cq, .inr (0, [.ref tq, .int (nI (LZ k))])), (tq, .inl (cI, 6, .inl (nF (LC k))))] _ := hP
      have hD : va_D A [(chq, .inl (cI, 210, .inl fch3)), (lq, .inr (1, [.ref nq, .int (nI slip), .int (nI kd)])), (nq, .inl (cI, 8, .inl (nF num))), (oq, .inr (2, [.ref lq, .ref smq, .ref laq, .ref grq, .ref chq, .ref cq])), (smq, .inl (cI, 210, .inl (nF SM))), (laq, .inl (cI, 210, .inl (nF LA))), (cq, .inr (0, [.ref tq, .int (nI (LZ k))])), (tq, .inl (cI, 6, .inl (nF (LC k))))] := hD
      have hz4 := tb_LZ k c6
      have hsh1 := tb_sh k c6 t ht
      refine lv_aload_n hx hb dX2_firstThatTeaches_14 rfl (lv_at hl 1 rfl) ?_
      refine va_get (D := D) (ci := 2) (v := .ref cq) (C := RX2) (T := TX2) (N := 6) hx hb hts hiX2 hown hKB.1 hP 3 rfl rfl 5 (by decide) fl30 (fun _ h9 => h9) rfl dX2_firstThatTeaches_15 ?_
      refine lv_iload_n hx hb dX2_firstThatTeaches_18 rfl (lv_at hl 2 rfl) ?_
      have hPc := hP.sub (ws' := [(cq, .inr (0, [.ref tq, .int (nI (LZ k))])), (tq, .inl (cI, 6, .inl (nF (LC k))))]) [6, 7] rfl
      refine r_calli hP hS (va_runV (As := [.int (nI t)]) (rest := []) ⟨hx, hb, hml, hown, hts⟩ (m_X0_sharedWith l D cI cJ cq tq (LZ k) (LC k) t (by omega)) (cwV 1 hts gX2_firstThatTeaches_X0_sharedWith rfl rfl rfl (by decide +kernel) ⟨Nat.le_of_ble_eq_true rfl, Nat.le_of_ble_eq_true rfl⟩) ⟨PR.blind, va_recv hKB.1 hP (ci := 0) (q0 := 6) rfl rfl, fun U hU hW => ⟨rfl, hKB.warm hW, by rw [hU]; exact hPc⟩⟩ rfl rfl hl.1 rfl (lv_room (Nat.le_of_ble_eq_true rfl)) dX2_firstThatTeaches_19 ⟨Nat.le_of_ble_eq_true rfl, Nat.le_of_ble_eq_true rfl⟩) (fun r2 H locs hw19 hP hS => ?_)
      have hw19 : r2 = nI (shw (LC k) t 3) := hw19
      subst hw19
      refine lv_aload_n hx hb dX2_firstThatTeaches_22 rfl (lv_at hl 1 rfl) ?_
      refine va_get (D := D) (ci := 2) (v := .ref cq) (C := RX2) (T := TX2) (N := 6) hx hb hts hiX2 hown hKB.1 hP 3 rfl rfl 5 (by decide) fl30 (fun _ h9 => h9) rfl dX2_firstThatTeaches_23 ?_
      refine va_getN (D := D) (ci := 0) (v := .int (nI (LZ k))) (C := RX0) (T := TX0) (N := 2) hx hb hts hiX0 hown hKB.1 hP 6 rfl rfl 1 (by decide) (hKB.2.f (q := ("TaughtTongues$Lots", 73, "TaughtTongues$Counts", "all", "I")) 9 rfl) (fun _ h9 => h9) rfl dX2_firstThatTeaches_26 ?_
      refine r_icmp_ne (a := shw (LC k) t 3) (b := LZ k) (tgt := 43) hx hb dX2_firstThatTeaches_29 (by decide) (by omega) (by omega)  (fun c29 => ?_) (fun c29 => ?_)
      · skip
        refine lv_iinc (v := nI (k + 1)) (lv' := [(2, .int (nI (k + 1))), (0, .ref oq), (1, .int (nI t))]) hx hb dX2_firstThatTeaches_43 hl (k := 0) rfl (n_inc _ 1) (by decide) rfl (fun ls hl => ?_)
        refine lv_goto (tgt := 2) hx hb dX2_firstThatTeaches_46 (by decide) ?_
        exact ih2 (k + 1) fch3 (LZ k) (LC k) _ _ _ (by omega) (by omega) (hres.trans (fi_no (by omega) (by first | (simp [tch, c29]; done) | (simp [tch, c38]; done)))) (by assumption) (hP.sub [3, 4, 5, 0, 6, 7, 1, 2] rfl) (hD.sub [3, 4, 5, 0, 6, 7, 1, 2] (by decide) rfl) hS hl
      refine lv_aload_n hx hb dX2_firstThatTeaches_32 rfl (lv_at hl 1 rfl) ?_
      refine lv_iload_n hx hb dX2_firstThatTeaches_33 rfl (lv_at hl 0 rfl) ?_
      have hPc := hP.sub (ws' := [(oq, .inr (2, [.ref lq, .ref smq, .ref laq, .ref grq, .ref chq, .ref cq])), (smq, .inl (cI, 210, .inl (nF SM))), (laq, .inl (cI, 210, .inl (nF LA))), (chq, .inl (cI, 210, .inl fch3)), (cq, .inr (0, [.ref tq, .int (nI (LZ k))])), (tq, .inl (cI, 6, .inl (nF (LC k)))), (lq, .inr (1, [.ref nq, .int (nI slip), .int (nI kd)])), (nq, .inl (cI, 8, .inl (nF num)))]) [3, 4, 5, 0, 6, 7, 1, 2] rfl
      have hDc := hD.sub (ws' := [(oq, .inr (2, [.ref lq, .ref smq, .ref laq, .ref grq, .ref chq, .ref cq])), (smq, .inl (cI, 210, .inl (nF SM))), (laq, .inl (cI, 210, .inl (nF LA))), (chq, .inl (cI, 210, .inl fch3)), (cq, .inr (0, [.ref tq, .int (nI (LZ k))])), (tq, .inl (cI, 6, .inl (nF (LC k)))), (lq, .inr (1, [.ref nq, .int (nI slip), .int (nI kd)])), (nq, .inl (cI, 8, .inl (nF num)))]) [3, 4, 5, 0, 6, 7, 1, 2] (by decide) rfl
      have hFc := va_free (wc := [(oq, .inr (2, [.ref lq, .ref smq, .ref laq, .ref grq, .ref chq, .ref cq])), (smq, .inl (cI, 210, .inl (nF SM))), (laq, .inl (cI, 210, .inl (nF LA))), (chq, .inl (cI, 210, .inl fch3)), (cq, .inr (0, [.ref tq, .int (nI (LZ k))])), (tq, .inl (cI, 6, .inl (nF (LC k)))), (lq, .inr (1, [.ref nq, .int (nI slip), .int (nI kd)])), (nq, .inl (cI, 8, .inl (nF num)))]) hD hS hA [3, 4, 5, 0, 6, 7, 1, 2] rfl
      refine w_calli (wc := [(oq, .inr (2, [.ref lq, .ref smq, .ref laq, .ref grq, .ref chq, .ref cq])), (smq, .inl (cI, 210, .inl (nF SM))), (laq, .inl (cI, 210, .inl (nF LA))), (chq, .inl (cI, 210, .inl fch3)), (cq, .inr (0, [.ref tq, .int (nI (LZ k))])), (tq, .inl (cI, 6, .inl (nF (LC k)))), (lq, .inr (1, [.ref nq, .int (nI slip), .int (nI kd)])), (nq, .inl (cI, 8, .inl (nF num)))]) (wr := []) hP hD hS [3, 4, 5, 0, 6, 7, 1, 2] [] rfl rfl (by decide) (by decide) hFc (va_runV (As := [.int (nI k)]) (rest := []) ⟨hx, hb, hml, hown, hts⟩ (m_X2_choiceBehind l D cI cJ _ oq lq smq laq grq chq cq tq (LZ k) (LC k) nq slip kd num fch3 k (by omega) (by assumption) (by assumption) (by assumption) (hch3)) (cwV 1 hts gX2_firstThatTeaches_X2_choiceBehind rfl rfl rfl (by decide +kernel) ⟨Nat.le_of_ble_eq_true rfl, Nat.le_of_ble_eq_true rfl⟩) ⟨PX.blind, va_recv hKB.1 hP (ci := 2) (q0 := 3) rfl rfl, fun U hU hW => ⟨rfl, by rw [hU], hKB.warm hW, by rw [hU]; exact hPc, hDc.weaken (fun _ _ _ _ => trivial)⟩⟩ rfl rfl hl.1 rfl (lv_room (Nat.le_of_ble_eq_true rfl)) dX2_firstThatTeaches_34 ⟨Nat.le_of_ble_eq_true rfl, Nat.le_of_ble_eq_true rfl⟩) (fun r3 u34 H locs hw34 hP hD hS => ?_)
      obtain ⟨fch2_34, tn2_34, al2_34⟩ := u34
      have hP : va_P D vwCl [(oq, .inr (2, [.ref lq, .ref smq, .ref laq, .ref grq, .ref chq, .ref cq])), (smq, .inl (cI, 210, .inl (nF SM))), (laq, .inl (cI, 210, .inl (nF LA))), (chq, .inl (cI, 210, .inl fch2_34)), (cq, .inr (0, [.ref tq, .int (nI al2_34)])), (tq, .inl (cI, 6, .inl (nF tn2_34))), (lq, .inr (1, [.ref nq, .int (nI slip), .int (nI kd)])), (nq, .inl (cI, 8, .inl (nF num)))] _ := hP
      have hD : va_D A [(oq, .inr (2, [.ref lq, .ref smq, .ref laq, .ref grq, .ref chq, .ref cq])), (smq, .inl (cI, 210, .inl (nF SM))), (laq, .inl (cI, 210, .inl (nF LA))), (chq, .inl (cI, 210, .inl fch2_34)), (cq, .inr (0, [.ref tq, .int (nI al2_34)])), (tq, .inl (cI, 6, .inl (nF tn2_34))), (lq, .inr (1, [.ref nq, .int (nI slip), .int (nI kd)])), (nq, .inl (cI, 8, .inl (nF num)))] := hD
      have hw34 : r3 = nI (chF num slip kd k) ∧ (chOk num slip kd fch2_34) := hw34
      obtain ⟨hw34, hE34⟩ := hw34
      subst hw34
      have hP : va_P D vwCl [(oq, .inr (2, [.ref lq, .ref smq, .ref laq, .ref grq, .ref chq, .ref cq])), (smq, .inl (cI, 210, .inl (nF SM))), (laq, .inl (cI, 210, .inl (nF LA))), (chq, .inl (cI, 210, .inl fch2_34)), (cq, .inr (0, [.ref tq, .int (nI al2_34)])), (tq, .inl (cI, 6, .inl (nF tn2_34))), (lq, .inr (1, [.ref nq, .int (nI slip), .int (nI kd)])), (nq, .inl (cI, 8, .inl (nF num)))] _ := hP
      have hD : va_D A [(oq, .inr (2, [.ref lq, .ref smq, .ref laq, .ref grq, .ref chq, .ref cq])), (smq, .inl (cI, 210, .inl (nF SM))), (laq, .inl (cI, 210, .inl (nF LA))), (chq, .inl (cI, 210, .inl fch2_34)), (cq, .inr (0, [.ref tq, .int (nI al2_34)])), (tq, .inl (cI, 6, .inl (nF tn2_34))), (lq, .inr (1, [.ref nq, .int (nI slip), .int (nI kd)])), (nq, .inl (cI, 8, .inl (nF num)))] := hD
      have hch4 := hE34
      refine lv_iload_n hx hb dX2_firstThatTeaches_37 rfl (lv_at hl 2 rfl) ?_
      refine r_icmp_ne (a := chF num slip kd k) (b := t) (tgt := 43) hx hb dX2_firstThatTeaches_38 (by decide) (Nat.lt_trans chF_lt (by decide)) (by omega)  (fun c38 => ?_) (fun c38 => ?_)
      · skip
        refine lv_iinc (v := nI (k + 1)) (lv' := [(2, .int (nI (k + 1))), (0, .ref oq), (1, .int (nI t))]) hx hb dX2_firstThatTeaches_43 hl (k := 0) rfl (n_inc _ 1) (by decide) rfl (fun ls hl => ?_)
        refine lv_goto (tgt := 2) hx hb dX2_firstThatTeaches_46 (by decide) ?_
        exact ih2 (k + 1) fch2_34 al2_34 tn2_34 _ _ _ (by omega) (by omega) (hres.trans (fi_no (by omega) (by first | (simp [tch, c29]; done) | (simp [tch, c38]; done)))) (by assumption) hP hD hS hl
      refine lv_iload_n hx hb dX2_firstThatTeaches_41 rfl (lv_at hl 0 rfl) ?_
      exact w_iret hx hb hr hlk hQ hAe (fch2_34, tn2_34, al2_34) hP hD hS (by refine ⟨?_, by assumption⟩; rw [ftI, hres, fi_yes (by omega) (by simp [tch, c29, c38]), if_pos c6]) dX2_firstThatTeaches_42
  exact L2 (210 - 1 + 1) 1 fch al tn _ _ _ (Nat.lt_succ_self _) (by omega) (rfl) (hch) hP hD hS hl


set_option maxHeartbeats 4000000 in
set_option maxRecDepth 100000 in
theorem m_X5_init (l : Launch) (D : va_G) (cI cJ : ClassId) (tT : Nat) (sz : Nat) (xq : Nat) : Met l yX5_init wsX5_init ({ frames := 3, cells := 23, slots := 1542, locals := 65 }) (PXT D cI cJ tT [(xq, .inr (5, [.null, .null, .null, .null, .null, .null]))] sz [.ref xq]) (QWv D (S := Nat × Nat × Nat × Nat × Nat × Nat × Nat × Nat × Nat × Nat × Nat × Nat × Nat × Nat × Nat × Nat × Nat × Nat × Nat × Nat × Nat × Nat × Nat) [(xq, .inr (5, [.null, .null, .null, .null, .null, .null]))] sz (fun _ => True) (fun u => [(xq, .inr (5, [.ref u.1, .ref u.2.1, .ref u.2.2.1, .ref u.2.2.2.1, .ref u.2.2.2.2.1, .ref u.2.2.2.2.2.1])), (u.1, .inr (3, [.ref u.2.2.2.2.2.2.1, .int (nI 0)])), (u.2.2.2.2.2.2.1, .inl (cI, 40, .inl (nF (fun _ => 0)))), (u.2.1, .inr (0, [.ref u.2.2.2.2.2.2.2.1, .int (nI 0)])), (u.2.2.2.2.2.2.2.1, .inl (cI, 6, .inl (nF (fun _ => 0)))), (u.2.2.1, .inr (1, [.ref u.2.2.2.2.2.2.2.2.1, .int (nI 1), .int (nI 0)])), (u.2.2.2.2.2.2.2.2.1, .inl (cI, 8, .inl (nF (fun _ => 1)))), (u.2.2.2.1, .inr (2, [.ref u.2.2.1, .ref u.2.2.2.2.2.2.2.2.2.1, .ref u.2.2.2.2.2.2.2.2.2.2.1, .ref u.2.2.2.2.2.2.2.2.2.2.2.1, .ref u.2.2.2.2.2.2.2.2.2.2.2.2.1, .ref u.2.2.2.2.2.2.2.2.2.2.2.2.2.1])), (u.2.2.2.2.2.2.2.2.2.1, .inl (cI, 210, .inl (nF SM))), (u.2.2.2.2.2.2.2.2.2.2.1, .inl (cI, 210, .inl (nF LA))), (u.2.2.2.2.2.2.2.2.2.2.2.1, .inl (cI, 504, .inl (nF GR))), (u.2.2.2.2.2.2.2.2.2.2.2.2.1, .inl (cI, 210, .inl (fun _ => -1))), (u.2.2.2.2.2.2.2.2.2.2.2.2.2.1, .inr (0, [.ref u.2.2.2.2.2.2.2.2.2.2.2.2.2.2.1, .int (nI 0)])), (u.2.2.2.2.2.2.2.2.2.2.2.2.2.2.1, .inl (cI, 6, .inl (nF (fun _ => 0)))), (u.2.2.2.2.1, .inr (4, [.ref u.2.2.1, .ref u.2.2.2.1, .ref u.2.2.2.2.2.2.2.2.2.2.2.2.2.2.2.1, .int (nI 2), .ref u.2.2.2.2.2.2.2.2.2.2.2.2.2.2.2.2.1, .ref u.2.2.2.2.2.2.2.2.2.2.2.2.2.2.2.2.2.1, .ref u.2.2.2.2.2.2.2.2.2.2.2.2.2.2.2.2.2.2.1, .ref u.2.2.2.2.2.2.2.2.2.2.2.2.2.2.2.2.2.2.2.1, .ref u.2.2.2.2.2.2.2.2.2.2.2.2.2.2.2.2.2.2.2.2.1, .int (nI 0), .ref u.2.2.2.2.2.2.2.2.2.2.2.2.2.2.2.2.2.2.2.2.2.1, .ref u.2.2.2.2.2.2.2.2.2.2.2.2.2.2.2.2.2.2.2.2.2.2])), (u.2.2.2.2.2.2.2.2.2.2.2.2.2.2.2.1, .inl (cI, 3, .inl (nF (fun _ => 1)))), (u.2.2.2.2.2.2.2.2.2.2.2.2.2.2.2.2.1, .inl (cJ, 6, .inr (.inl (lF (fun _ => 0))))), (u.2.2.2.2.2.2.2.2.2.2.2.2.2.2.2.2.2.1, .inl (cJ, 6, .inr (.inl (lF (fun _ => 0))))), (u.2.2.2.2.2.2.2.2.2.2.2.2.2.2.2.2.2.2.1, .inl (cJ, 210, .inr (.inl (lF (fun _ => 0))))), (u.2.2.2.2.2.2.2.2.2.2.2.2.2.2.2.2.2.2.2.1, .inl (cJ, 8, .inr (.inl (lF (fun _ => 0))))), (u.2.2.2.2.2.2.2.2.2.2.2.2.2.2.2.2.2.2.2.2.1, .inl (cJ, 64, .inr (.inl (lF (fun _ => 0))))), (u.2.2.2.2.2.2.2.2.2.2.2.2.2.2.2.2.2.2.2.2.2.1, .inl (cJ, 8, .inr (.inl (lF (fun _ => 0))))), (u.2.2.2.2.2.2.2.2.2.2.2.2.2.2.2.2.2.2.2.2.2.2, .inl (cJ, 8, .inr (.inl (lF (fun _ => 0))))), (u.2.2.2.2.2.1, .inl (cI, 8, .inl (nF (fun _ => 0))))])) 23 1542 (va_A [(xq, .inr (5, [.null, .null, .null, .null, .null, .null]))] sz) := by
  refine met_XT (cc := cX5_init) (maxL := 1) (ret := none) (by decide) rfl (Nat.le_of_ble_eq_true rfl) ?_
  intro p e s m args below meth c Q ls A hQ hAe hFT hAt hKB hP hD hA hl
  obtain ⟨hx, hb, hr, hml, hlk, hts, hown, hnm⟩ := hAt
  have hown : s.vm.findClass RX5 = some m.cls := hown
  have hS : va_S A s.heap s.heap [] := va_S.rf
  have hl : lv_has ls 1 [(0, .ref xq)] := hl
  have oi1 := hts (.methodLink RX5 1 objectInit) (by decide +kernel)
  have oi2 := hts (.instanceMethod objectInit) (by decide +kernel)
  have oi3 := hts (.code objectInit ⟨#[0xb1]⟩ 1 none) (by decide +kernel)
  have hiX3 : ∀ w ∈ u_ws RX3 TX3 2, w ∈ wsX5_init := by decide +kernel
  have ck7 := hts (.classLink RX5 7 RX3) (by decide +kernel)
  have isX3 := hts (.instantiable RX3 2) (by decide +kernel)
  have inX3 := hts (.initialized RX3) (by decide +kernel)
  have im_X3_init := hts (.instanceMethod yX3_init) (by decide +kernel)
  have hiX5 : ∀ w ∈ u_ws RX5 TX5 6, w ∈ wsX5_init := by decide +kernel
  have fl10 := hts (.fieldLink RX5 10 "TaughtTongues" "signs" "LTaughtTongues$Signs;") (by decide +kernel)
  have hiX0 : ∀ w ∈ u_ws RX0 TX0 2, w ∈ wsX5_init := by decide +kernel
  have ck16 := hts (.classLink RX5 16 RX0) (by decide +kernel)
  have isX0 := hts (.instantiable RX0 2) (by decide +kernel)
  have inX0 := hts (.initialized RX0) (by decide +kernel)
  have im_X0_init := hts (.instanceMethod yX0_init) (by decide +kernel)
  have fl19 := hts (.fieldLink RX5 19 "TaughtTongues" "heard" "LTaughtTongues$Counts;") (by decide +kernel)
  have hiX1 : ∀ w ∈ u_ws RX1 TX1 3, w ∈ wsX5_init := by decide +kernel
  have ck23 := hts (.classLink RX5 23 RX1) (by decide +kernel)
  have isX1 := hts (.instantiable RX1 3) (by decide +kernel)
  have inX1 := hts (.initialized RX1) (by decide +kernel)
  have im_X1_init := hts (.instanceMethod yX1_init) (by decide +kernel)
  have fl26 := hts (.fieldLink RX5 26 "TaughtTongues" "learner" "LTaughtTongues$Learner;") (by decide +kernel)
  have hiX2 : ∀ w ∈ u_ws RX2 TX2 6, w ∈ wsX5_init := by decide +kernel
  have ck30 := hts (.classLink RX5 30 RX2) (by decide +kernel)
  have isX2 := hts (.instantiable RX2 6) (by decide +kernel)
  have inX2 := hts (.initialized RX2) (by decide +kernel)
  have ml32 := hts (.methodLink RX5 32 yX2_init) (by decide +kernel)
  have im_X2_init := hts (.instanceMethod yX2_init) (by decide +kernel)
  have fl35 := hts (.fieldLink RX5 35 "TaughtTongues" "lots" "LTaughtTongues$Lots;") (by decide +kernel)
  have hiX4 : ∀ w ∈ u_ws RX4 TX4 12, w ∈ wsX5_init := by decide +kernel
  have ck39 := hts (.classLink RX5 39 RX4) (by decide +kernel)
  have isX4 := hts (.instantiable RX4 12) (by decide +kernel)
  have inX4 := hts (.initialized RX4) (by decide +kernel)
  have ml41 := hts (.methodLink RX5 41 yX4_init) (by decide +kernel)
  have im_X4_init := hts (.instanceMethod yX4_init) (by decide +kernel)
  have fl44 := hts (.fieldLink RX5 44 "TaughtTongues" "steps" "LTaughtTongues$Steps;") (by decide +kernel)
  have acI := hts (.arrayClass .int) (by decide +kernel)
  have fl48 := hts (.fieldLink RX5 48 "TaughtTongues" "reaches" "[I") (by decide +kernel)
  refine lv_aload_n hx hb dX5_init_0 rfl (lv_at hl 0 rfl) ?_
  refine W.objInit hx hb hown oi1 oi2 oi3 rfl (by rw [hml]; exact hl.1) rfl dX5_init_1 (Nat.le_of_ble_eq_true rfl) (Nat.le_of_ble_eq_true rfl) ?_
  refine W.eq (g2 := F0 m 4 ls []) rfl ?_
  refine lv_aload_n hx hb dX5_init_4 rfl (lv_at hl 0 rfl) ?_
  refine va_new (ci := 3) (fs := [.null, .int 0]) (C := RX3) (T := TX3) (N := 2) hx hb hts hiX3 tyX3 tyX3_ok hown ck7 isX3 inX3 hKB.1 hP hD hS hA rfl (fun j hj => by rcases (show j = 0 ∨ j = 1 by omega) with rfl | rfl <;> rfl) (Nat.le_of_ble_eq_true rfl) (Nat.le_of_ble_eq_true rfl) dX5_init_5 (fun sq H hP hD hS => ?_)
  have hP : va_P D vwCl [(xq, .inr (5, [.null, .null, .null, .null, .null, .null])), (sq, .inr (3, [.null, .int 0]))] _ := hP
  have hD : va_D A [(xq, .inr (5, [.null, .null, .null, .null, .null, .null])), (sq, .inr (3, [.null, .int 0]))] := hD
  refine W.widen (k := 1) (n := 2) (by decide) (by decide) ?_
  refine lv_dup hx hb dX5_init_8 rfl ?_
  have hPc := hP.sub (ws' := [(sq, .inr (3, [.null, .int 0]))]) [1] rfl
  have hDc := hD.sub (ws' := [(sq, .inr (3, [.null, .int 0]))]) [1] (by decide) rfl
  have hFc := va_free (wc := [(sq, .inr (3, [.null, .int 0]))]) hD hS hA [1] rfl
  refine w_callv (wc := [(sq, .inr (3, [.null, .int 0]))]) (wr := [(xq, .inr (5, [.null, .null, .null, .null, .null, .null]))]) hP hD hS [1] [0] rfl rfl (by decide) (by decide) hFc (va_runIN (As := []) (rest := [.ref sq, .ref xq]) ⟨hx, hb, hml, hown, hts⟩ (m_X3_init l D cI cJ _ sq) (⟨va_cnB 0 hts gX5_init_X3_init_n9 rfl rfl rfl (hKB.2.m (q := ("TaughtTongues", 9, yX3_init)) 2 rfl) inX3 (by decide +kernel) ⟨Nat.le_of_ble_eq_true rfl, Nat.le_of_ble_eq_true rfl⟩, rfl, im_X3_init⟩) ⟨PX.blind, fun U hU hW => ⟨rfl, by rw [hU], hKB.warm hW, by rw [hU]; exact hPc, hDc.weaken (fun _ _ _ _ => trivial)⟩⟩ rfl rfl hl.1 rfl (lv_room (Nat.le_of_ble_eq_true rfl)) dX5_init_9 ⟨Nat.le_of_ble_eq_true rfl, Nat.le_of_ble_eq_true rfl⟩) (fun u9 H locs hw9 hP hD hS => ?_)
  have hP : va_P D vwCl [(xq, .inr (5, [.null, .null, .null, .null, .null, .null])), (sq, .inr (3, [.ref u9, .int (nI 0)])), (u9, .inl (cI, 40, .inl (nF (fun _ => 0))))] _ := hP
  have hD : va_D A [(xq, .inr (5, [.null, .null, .null, .null, .null, .null])), (sq, .inr (3, [.ref u9, .int (nI 0)])), (u9, .inl (cI, 40, .inl (nF (fun _ => 0))))] := hD
  refine W.widen (k := 2) (n := 42) (by decide) (by decide) ?_
  obtain ⟨qc, rfl⟩ : ∃ z, z = u9 := ⟨_, rfl⟩
  refine va_putF (D := D) (ci := 5) (v := .ref sq) (ty := .object "TaughtTongues$Signs") (C := RX5) (T := TX5) (N := 6) hx hb hts hiX5 tyX5 tyX5_ok nmX5 hown hKB.1 hP hD hS 0 rfl rfl 0 (by decide) fl10 (fun _ h9 => h9) rfl hnm rfl (by decide +kernel) rfl rfl (Nat.le_of_ble_eq_true rfl) dX5_init_12 (fun H locs hP hD hS => ?_)
  have hP : va_P D vwCl [(xq, .inr (5, [.ref sq, .null, .null, .null, .null, .null])), (sq, .inr (3, [.ref qc, .int (nI 0)])), (qc, .inl (cI, 40, .inl (nF (fun _ => 0))))] _ := hP
  have hD : va_D A [(xq, .inr (5, [.ref sq, .null, .null, .null, .null, .null])), (sq, .inr (3, [.ref qc, .int (nI 0)])), (qc, .inl (cI, 40, .inl (nF (fun _ => 0))))] := hD
  refine lv_aload_n hx hb dX5_init_15 rfl (lv_at hl 0 rfl) ?_
  refine va_new (ci := 0) (fs := [.null, .int 0]) (C := RX0) (T := TX0) (N := 2) hx hb hts hiX0 tyX0 tyX0_ok hown ck16 isX0 inX0 hKB.1 hP hD hS hA rfl (fun j hj => by rcases (show j = 0 ∨ j = 1 by omega) with rfl | rfl <;> rfl) (Nat.le_of_ble_eq_true rfl) (Nat.le_of_ble_eq_true rfl) dX5_init_16 (fun hq H hP hD hS => ?_)
  have hP : va_P D vwCl [(xq, .inr (5, [.ref sq, .null, .null, .null, .null, .null])), (sq, .inr (3, [.ref qc, .int (nI 0)])), (qc, .inl (cI, 40, .inl (nF (fun _ => 0)))), (hq, .inr (0, [.null, .int 0]))] _ := hP
  have hD : va_D A [(xq, .inr (5, [.ref sq, .null, .null, .null, .null, .null])), (sq, .inr (3, [.ref qc, .int (nI 0)])), (qc, .inl (cI, 40, .inl (nF (fun _ => 0)))), (hq, .inr (0, [.null, .int 0]))] := hD
  refine W.widen (k := 3) (n := 44) (by decide) (by decide) ?_
  refine lv_dup hx hb dX5_init_19 rfl ?_
  have hPc := hP.sub (ws' := [(hq, .inr (0, [.null, .int 0]))]) [3] rfl
  have hDc := hD.sub (ws' := [(hq, .inr (0, [.null, .int 0]))]) [3] (by decide) rfl
  have hFc := va_free (wc := [(hq, .inr (0, [.null, .int 0]))]) hD hS hA [3] rfl
  refine w_callv (wc := [(hq, .inr (0, [.null, .int 0]))]) (wr := [(xq, .inr (5, [.ref sq, .null, .null, .null, .null, .null])), (sq, .inr (3, [.ref qc, .int (nI 0)])), (qc, .inl (cI, 40, .inl (nF (fun _ => 0))))]) hP hD hS [3] [0, 1, 2] rfl rfl (by decide) (by decide) hFc (va_runIN (As := []) (rest := [.ref hq, .ref xq]) ⟨hx, hb, hml, hown, hts⟩ (m_X0_init l D cI cJ _ hq) (⟨va_cnB 0 hts gX5_init_X0_init_n18 rfl rfl rfl (hKB.2.m (q := ("TaughtTongues", 18, yX0_init)) 0 rfl) inX0 (by decide +kernel) ⟨Nat.le_of_ble_eq_true rfl, Nat.le_of_ble_eq_true rfl⟩, rfl, im_X0_init⟩) ⟨PX.blind, fun U hU hW => ⟨rfl, by rw [hU], hKB.warm hW, by rw [hU]; exact hPc, hDc.weaken (fun _ _ _ _ => trivial)⟩⟩ rfl rfl hl.1 rfl (lv_room (Nat.le_of_ble_eq_true rfl)) dX5_init_20 ⟨Nat.le_of_ble_eq_true rfl, Nat.le_of_ble_eq_true rfl⟩) (fun u20 H locs hw20 hP hD hS => ?_)
  have hP : va_P D vwCl [(xq, .inr (5, [.ref sq, .null, .null, .null, .null, .null])), (sq, .inr (3, [.ref qc, .int (nI 0)])), (qc, .inl (cI, 40, .inl (nF (fun _ => 0)))), (hq, .inr (0, [.ref u20, .int (nI 0)])), (u20, .inl (cI, 6, .inl (nF (fun _ => 0))))] _ := hP
  have hD : va_D A [(xq, .inr (5, [.ref sq, .null, .null, .null, .null, .null])), (sq, .inr (3, [.ref qc, .int (nI 0)])), (qc, .inl (cI, 40, .inl (nF (fun _ => 0)))), (hq, .inr (0, [.ref u20, .int (nI 0)])), (u20, .inl (cI, 6, .inl (nF (fun _ => 0))))] := hD
  refine W.widen (k := 4) (n := 50) (by decide) (by decide) ?_
  obtain ⟨htq, rfl⟩ : ∃ z, z = u20 := ⟨_, rfl⟩
  refine va_putF (D := D) (ci := 5) (v := .ref hq) (ty := .object "TaughtTongues$Counts") (C := RX5) (T := TX5) (N := 6) hx hb hts hiX5 tyX5 tyX5_ok nmX5 hown hKB.1 hP hD hS 0 rfl rfl 1 (by decide) fl19 (fun _ h9 => h9) rfl hnm rfl (by decide +kernel) rfl rfl (Nat.le_of_ble_eq_true rfl) dX5_init_23 (fun H locs hP hD hS => ?_)
  have hP : va_P D vwCl [(xq, .inr (5, [.ref sq, .ref hq, .null, .null, .null, .null])), (sq, .inr (3, [.ref qc, .int (nI 0)])), (qc, .inl (cI, 40, .inl (nF (fun _ => 0)))), (hq, .inr (0, [.ref htq, .int (nI 0)])), (htq, .inl (cI, 6, .inl (nF (fun _ => 0))))] _ := hP
  have hD : va_D A [(xq, .inr (5, [.ref sq, .ref hq, .null, .null, .null, .null])), (sq, .inr (3, [.ref qc, .int (nI 0)])), (qc, .inl (cI, 40, .inl (nF (fun _ => 0)))), (hq, .inr (0, [.ref htq, .int (nI 0)])), (htq, .inl (cI, 6, .inl (nF (fun _ => 0))))] := hD
  refine lv_aload_n hx hb dX5_init_26 rfl (lv_at hl 0 rfl) ?_
  refine va_new (ci := 1) (fs := [.null, .int 0, .int 0]) (C := RX1) (T := TX1) (N := 3) hx hb hts hiX1 tyX1 tyX1_ok hown ck23 isX1 inX1 hKB.1 hP hD hS hA rfl (fun j hj => by rcases (show j = 0 ∨ j = 1 ∨ j = 2 by omega) with rfl | rfl | rfl <;> rfl) (Nat.le_of_ble_eq_true rfl) (Nat.le_of_ble_eq_true rfl) dX5_init_27 (fun lq H hP hD hS => ?_)
  have hP : va_P D vwCl [(xq, .inr (5, [.ref sq, .ref hq, .null, .null, .null, .null])), (sq, .inr (3, [.ref qc, .int (nI 0)])), (qc, .inl (cI, 40, .inl (nF (fun _ => 0)))), (hq, .inr (0, [.ref htq, .int (nI 0)])), (htq, .inl (cI, 6, .inl (nF (fun _ => 0)))), (lq, .inr (1, [.null, .int 0, .int 0]))] _ := hP
  have hD : va_D A [(xq, .inr (5, [.ref sq, .ref hq, .null, .null, .null, .null])), (sq, .inr (3, [.ref qc, .int (nI 0)])), (qc, .inl (cI, 40, .inl (nF (fun _ => 0)))), (hq, .inr (0, [.ref htq, .int (nI 0)])), (htq, .inl (cI, 6, .inl (nF (fun _ => 0)))), (lq, .inr (1, [.null, .int 0, .int 0]))] := hD
  refine W.widen (k := 5) (n := 53) (by decide) (by decide) ?_
  refine lv_dup hx hb dX5_init_30 rfl ?_
  have hPc := hP.sub (ws' := [(lq, .inr (1, [.null, .int 0, .int 0]))]) [5] rfl
  have hDc := hD.sub (ws' := [(lq, .inr (1, [.null, .int 0, .int 0]))]) [5] (by decide) rfl
  have hFc := va_free (wc := [(lq, .inr (1, [.null, .int 0, .int 0]))]) hD hS hA [5] rfl
  refine w_callv (wc := [(lq, .inr (1, [.null, .int 0, .int 0]))]) (wr := [(xq, .inr (5, [.ref sq, .ref hq, .null, .null, .null, .null])), (sq, .inr (3, [.ref qc, .int (nI 0)])), (qc, .inl (cI, 40, .inl (nF (fun _ => 0)))), (hq, .inr (0, [.ref htq, .int (nI 0)])), (htq, .inl (cI, 6, .inl (nF (fun _ => 0))))]) hP hD hS [5] [0, 1, 2, 3, 4] rfl rfl (by decide) (by decide) hFc (va_runIN (As := []) (rest := [.ref lq, .ref xq]) ⟨hx, hb, hml, hown, hts⟩ (m_X1_init l D cI cJ _ lq) (⟨va_cnB 0 hts gX5_init_X1_init_n25 rfl rfl rfl (hKB.2.m (q := ("TaughtTongues", 25, yX1_init)) 1 rfl) inX1 (by decide +kernel) ⟨Nat.le_of_ble_eq_true rfl, Nat.le_of_ble_eq_true rfl⟩, rfl, im_X1_init⟩) ⟨PX.blind, fun U hU hW => ⟨rfl, by rw [hU], hKB.warm hW, by rw [hU]; exact hPc, hDc.weaken (fun _ _ _ _ => trivial)⟩⟩ rfl rfl hl.1 rfl (lv_room (Nat.le_of_ble_eq_true rfl)) dX5_init_31 ⟨Nat.le_of_ble_eq_true rfl, Nat.le_of_ble_eq_true rfl⟩) (fun u31 H locs hw31 hP hD hS => ?_)
  have hP : va_P D vwCl [(xq, .inr (5, [.ref sq, .ref hq, .null, .null, .null, .null])), (sq, .inr (3, [.ref qc, .int (nI 0)])), (qc, .inl (cI, 40, .inl (nF (fun _ => 0)))), (hq, .inr (0, [.ref htq, .int (nI 0)])), (htq, .inl (cI, 6, .inl (nF (fun _ => 0)))), (lq, .inr (1, [.ref u31, .int (nI 1), .int (nI 0)])), (u31, .inl (cI, 8, .inl (nF (nu (nu (nu (nu (nu (nu (nu (nu (fun _ => 0) 0 1) 1 1) 2 1) 3 1) 4 1) 5 1) 6 1) 7 1))))] _ := hP
  have hD : va_D A [(xq, .inr (5, [.ref sq, .ref hq, .null, .null, .null, .null])), (sq, .inr (3, [.ref qc, .int (nI 0)])), (qc, .inl (cI, 40, .inl (nF (fun _ => 0)))), (hq, .inr (0, [.ref htq, .int (nI 0)])), (htq, .inl (cI, 6, .inl (nF (fun _ => 0)))), (lq, .inr (1, [.ref u31, .int (nI 1), .int (nI 0)])), (u31, .inl (cI, 8, .inl (nF (nu (nu (nu (nu (nu (nu (nu (nu (fun _ => 0) 0 1) 1 1) 2 1) 3 1) 4 1) 5 1) 6 1) 7 1))))] := hD
  refine W.widen (k := 6) (n := 61) (by decide) (by decide) ?_
  obtain ⟨nq, rfl⟩ : ∃ z, z = u31 := ⟨_, rfl⟩
  have hP := P_arrI hP 6 (g := (nF (fun _ => 1))) rfl (by decide)
  have hD := D_arrI hD 6 (g := (nF (fun _ => 1))) rfl
  have hP : va_P D vwCl [(xq, .inr (5, [.ref sq, .ref hq, .null, .null, .null, .null])), (sq, .inr (3, [.ref qc, .int (nI 0)])), (qc, .inl (cI, 40, .inl (nF (fun _ => 0)))), (hq, .inr (0, [.ref htq, .int (nI 0)])), (htq, .inl (cI, 6, .inl (nF (fun _ => 0)))), (lq, .inr (1, [.ref nq, .int (nI 1), .int (nI 0)])), (nq, .inl (cI, 8, .inl (nF (fun _ => 1))))] _ := hP
  have hD : va_D A [(xq, .inr (5, [.ref sq, .ref hq, .null, .null, .null, .null])), (sq, .inr (3, [.ref qc, .int (nI 0)])), (qc, .inl (cI, 40, .inl (nF (fun _ => 0)))), (hq, .inr (0, [.ref htq, .int (nI 0)])), (htq, .inl (cI, 6, .inl (nF (fun _ => 0)))), (lq, .inr (1, [.ref nq, .int (nI 1), .int (nI 0)])), (nq, .inl (cI, 8, .inl (nF (fun _ => 1))))] := hD
  refine va_putF (D := D) (ci := 5) (v := .ref lq) (ty := .object "TaughtTongues$Learner") (C := RX5) (T := TX5) (N := 6) hx hb hts hiX5 tyX5 tyX5_ok nmX5 hown hKB.1 hP hD hS 0 rfl rfl 2 (by decide) fl26 (fun _ h9 => h9) rfl hnm rfl (by decide +kernel) rfl rfl (Nat.le_of_ble_eq_true rfl) dX5_init_34 (fun H locs hP hD hS => ?_)
  have hP : va_P D vwCl [(xq, .inr (5, [.ref sq, .ref hq, .ref lq, .null, .null, .null])), (sq, .inr (3, [.ref qc, .int (nI 0)])), (qc, .inl (cI, 40, .inl (nF (fun _ => 0)))), (hq, .inr (0, [.ref htq, .int (nI 0)])), (htq, .inl (cI, 6, .inl (nF (fun _ => 0)))), (lq, .inr (1, [.ref nq, .int (nI 1), .int (nI 0)])), (nq, .inl (cI, 8, .inl (nF (fun _ => 1))))] _ := hP
  have hD : va_D A [(xq, .inr (5, [.ref sq, .ref hq, .ref lq, .null, .null, .null])), (sq, .inr (3, [.ref qc, .int (nI 0)])), (qc, .inl (cI, 40, .inl (nF (fun _ => 0)))), (hq, .inr (0, [.ref htq, .int (nI 0)])), (htq, .inl (cI, 6, .inl (nF (fun _ => 0)))), (lq, .inr (1, [.ref nq, .int (nI 1), .int (nI 0)])), (nq, .inl (cI, 8, .inl (nF (fun _ => 1))))] := hD
  refine lv_aload_n hx hb dX5_init_37 rfl (lv_at hl 0 rfl) ?_
  refine va_new (ci := 2) (fs := [.null, .null, .null, .null, .null, .null]) (C := RX2) (T := TX2) (N := 6) hx hb hts hiX2 tyX2 tyX2_ok hown ck30 isX2 inX2 hKB.1 hP hD hS hA rfl (fun j hj => by rcases (show j = 0 ∨ j = 1 ∨ j = 2 ∨ j = 3 ∨ j = 4 ∨ j = 5 by omega) with rfl | rfl | rfl | rfl | rfl | rfl <;> rfl) (Nat.le_of_ble_eq_true rfl) (Nat.le_of_ble_eq_true rfl) dX5_init_38 (fun oq H hP hD hS => ?_)
  have hP : va_P D vwCl [(xq, .inr (5, [.ref sq, .ref hq, .ref lq, .null, .null, .null])), (sq, .inr (3, [.ref qc, .int (nI 0)])), (qc, .inl (cI, 40, .inl (nF (fun _ => 0)))), (hq, .inr (0, [.ref htq, .int (nI 0)])), (htq, .inl (cI, 6, .inl (nF (fun _ => 0)))), (lq, .inr (1, [.ref nq, .int (nI 1), .int (nI 0)])), (nq, .inl (cI, 8, .inl (nF (fun _ => 1)))), (oq, .inr (2, [.null, .null, .null, .null, .null, .null]))] _ := hP
  have hD : va_D A [(xq, .inr (5, [.ref sq, .ref hq, .ref lq, .null, .null, .null])), (sq, .inr (3, [.ref qc, .int (nI 0)])), (qc, .inl (cI, 40, .inl (nF (fun _ => 0)))), (hq, .inr (0, [.ref htq, .int (nI 0)])), (htq, .inl (cI, 6, .inl (nF (fun _ => 0)))), (lq, .inr (1, [.ref nq, .int (nI 1), .int (nI 0)])), (nq, .inl (cI, 8, .inl (nF (fun _ => 1)))), (oq, .inr (2, [.null, .null, .null, .null, .null, .null]))] := hD
  refine W.widen (k := 7) (n := 67) (by decide) (by decide) ?_
  refine lv_dup hx hb dX5_init_41 rfl ?_
  refine lv_aload_n hx hb dX5_init_42 rfl (lv_at hl 0 rfl) ?_
  refine va_get (D := D) (ci := 5) (v := .ref lq) (C := RX5) (T := TX5) (N := 6) hx hb hts hiX5 hown hKB.1 hP 0 rfl rfl 2 (by decide) fl26 (fun _ h9 => h9) rfl dX5_init_43 ?_
  have hPc := hP.sub (ws' := [(oq, .inr (2, [.null, .null, .null, .null, .null, .null]))]) [7] rfl
  have hDc := hD.sub (ws' := [(oq, .inr (2, [.null, .null, .null, .null, .null, .null]))]) [7] (by decide) rfl
  have hFc := va_free (wc := [(oq, .inr (2, [.null, .null, .null, .null, .null, .null]))]) hD hS hA [7] rfl
  refine w_callv (wc := [(oq, .inr (2, [.null, .null, .null, .null, .null, .null]))]) (wr := [(xq, .inr (5, [.ref sq, .ref hq, .ref lq, .null, .null, .null])), (sq, .inr (3, [.ref qc, .int (nI 0)])), (qc, .inl (cI, 40, .inl (nF (fun _ => 0)))), (hq, .inr (0, [.ref htq, .int (nI 0)])), (htq, .inl (cI, 6, .inl (nF (fun _ => 0)))), (lq, .inr (1, [.ref nq, .int (nI 1), .int (nI 0)])), (nq, .inl (cI, 8, .inl (nF (fun _ => 1))))]) hP hD hS [7] [0, 1, 2, 3, 4, 5, 6] rfl rfl (by decide) (by decide) hFc (va_runI (As := [.ref lq]) (rest := [.ref oq, .ref xq]) ⟨hx, hb, hml, hown, hts⟩ (m_X2_init l D cI cJ tT _ oq lq) (cwI 1 hts gX5_init_X2_init rfl rfl rfl inX2 ml32 im_X2_init rfl (by decide +kernel) ⟨Nat.le_of_ble_eq_true rfl, Nat.le_of_ble_eq_true rfl⟩) ⟨PXT.blind, fun U hU hW => ⟨rfl, by rw [hU], hKB.warm hW, hFT.go hW (by rw [hU]; exact hS) hFc, by rw [hU]; exact hPc, hDc.weaken (fun _ _ _ _ => trivial)⟩⟩ rfl rfl hl.1 rfl (lv_room (Nat.le_of_ble_eq_true rfl)) dX5_init_46 ⟨Nat.le_of_ble_eq_true rfl, Nat.le_of_ble_eq_true rfl⟩) (fun u46 H locs hw46 hP hD hS => ?_)
  obtain ⟨smq, laq, grq, chq, cq, tq⟩ := u46
  have hP : va_P D vwCl [(xq, .inr (5, [.ref sq, .ref hq, .ref lq, .null, .null, .null])), (sq, .inr (3, [.ref qc, .int (nI 0)])), (qc, .inl (cI, 40, .inl (nF (fun _ => 0)))), (hq, .inr (0, [.ref htq, .int (nI 0)])), (htq, .inl (cI, 6, .inl (nF (fun _ => 0)))), (lq, .inr (1, [.ref nq, .int (nI 1), .int (nI 0)])), (nq, .inl (cI, 8, .inl (nF (fun _ => 1)))), (oq, .inr (2, [.ref lq, .ref smq, .ref laq, .ref grq, .ref chq, .ref cq])), (smq, .inl (cI, 210, .inl (nF SM))), (laq, .inl (cI, 210, .inl (nF LA))), (grq, .inl (cI, 504, .inl (nF GR))), (chq, .inl (cI, 210, .inl (fun _ => -1))), (cq, .inr (0, [.ref tq, .int (nI 0)])), (tq, .inl (cI, 6, .inl (nF (fun _ => 0))))] _ := hP
  have hD : va_D A [(xq, .inr (5, [.ref sq, .ref hq, .ref lq, .null, .null, .null])), (sq, .inr (3, [.ref qc, .int (nI 0)])), (qc, .inl (cI, 40, .inl (nF (fun _ => 0)))), (hq, .inr (0, [.ref htq, .int (nI 0)])), (htq, .inl (cI, 6, .inl (nF (fun _ => 0)))), (lq, .inr (1, [.ref nq, .int (nI 1), .int (nI 0)])), (nq, .inl (cI, 8, .inl (nF (fun _ => 1)))), (oq, .inr (2, [.ref lq, .ref smq, .ref laq, .ref grq, .ref chq, .ref cq])), (smq, .inl (cI, 210, .inl (nF SM))), (laq, .inl (cI, 210, .inl (nF LA))), (grq, .inl (cI, 504, .inl (nF GR))), (chq, .inl (cI, 210, .inl (fun _ => -1))), (cq, .inr (0, [.ref tq, .int (nI 0)])), (tq, .inl (cI, 6, .inl (nF (fun _ => 0))))] := hD
  refine W.widen (k := 13) (n := 1209) (by decide) (by decide) ?_
  refine va_putF (D := D) (ci := 5) (v := .ref oq) (ty := .object "TaughtTongues$Lots") (C := RX5) (T := TX5) (N := 6) hx hb hts hiX5 tyX5 tyX5_ok nmX5 hown hKB.1 hP hD hS 0 rfl rfl 3 (by decide) fl35 (fun _ h9 => h9) rfl hnm rfl (by decide +kernel) rfl rfl (Nat.le_of_ble_eq_true rfl) dX5_init_49 (fun H locs hP hD hS => ?_)
  have hP : va_P D vwCl [(xq, .inr (5, [.ref sq, .ref hq, .ref lq, .ref oq, .null, .null])), (sq, .inr (3, [.ref qc, .int (nI 0)])), (qc, .inl (cI, 40, .inl (nF (fun _ => 0)))), (hq, .inr (0, [.ref htq, .int (nI 0)])), (htq, .inl (cI, 6, .inl (nF (fun _ => 0)))), (lq, .inr (1, [.ref nq, .int (nI 1), .int (nI 0)])), (nq, .inl (cI, 8, .inl (nF (fun _ => 1)))), (oq, .inr (2, [.ref lq, .ref smq, .ref laq, .ref grq, .ref chq, .ref cq])), (smq, .inl (cI, 210, .inl (nF SM))), (laq, .inl (cI, 210, .inl (nF LA))), (grq, .inl (cI, 504, .inl (nF GR))), (chq, .inl (cI, 210, .inl (fun _ => -1))), (cq, .inr (0, [.ref tq, .int (nI 0)])), (tq, .inl (cI, 6, .inl (nF (fun _ => 0))))] _ := hP
  have hD : va_D A [(xq, .inr (5, [.ref sq, .ref hq, .ref lq, .ref oq, .null, .null])), (sq, .inr (3, [.ref qc, .int (nI 0)])), (qc, .inl (cI, 40, .inl (nF (fun _ => 0)))), (hq, .inr (0, [.ref htq, .int (nI 0)])), (htq, .inl (cI, 6, .inl (nF (fun _ => 0)))), (lq, .inr (1, [.ref nq, .int (nI 1), .int (nI 0)])), (nq, .inl (cI, 8, .inl (nF (fun _ => 1)))), (oq, .inr (2, [.ref lq, .ref smq, .ref laq, .ref grq, .ref chq, .ref cq])), (smq, .inl (cI, 210, .inl (nF SM))), (laq, .inl (cI, 210, .inl (nF LA))), (grq, .inl (cI, 504, .inl (nF GR))), (chq, .inl (cI, 210, .inl (fun _ => -1))), (cq, .inr (0, [.ref tq, .int (nI 0)])), (tq, .inl (cI, 6, .inl (nF (fun _ => 0))))] := hD
  refine lv_aload_n hx hb dX5_init_52 rfl (lv_at hl 0 rfl) ?_
  refine va_new (ci := 4) (fs := [.null, .null, .null, .int 0, .null, .null, .null, .null, .null, .int 0, .null, .null]) (C := RX4) (T := TX4) (N := 12) hx hb hts hiX4 tyX4 tyX4_ok hown ck39 isX4 inX4 hKB.1 hP hD hS hA rfl (fun j hj => by rcases (show j = 0 ∨ j = 1 ∨ j = 2 ∨ j = 3 ∨ j = 4 ∨ j = 5 ∨ j = 6 ∨ j = 7 ∨ j = 8 ∨ j = 9 ∨ j = 10 ∨ j = 11 by omega) with rfl | rfl | rfl | rfl | rfl | rfl | rfl | rfl | rfl | rfl | rfl | rfl <;> rfl) (Nat.le_of_ble_eq_true rfl) (Nat.le_of_ble_eq_true rfl) dX5_init_53 (fun pq H hP hD hS => ?_)
  have hP : va_P D vwCl [(xq, .inr (5, [.ref sq, .ref hq, .ref lq, .ref oq, .null, .null])), (sq, .inr (3, [.ref qc, .int (nI 0)])), (qc, .inl (cI, 40, .inl (nF (fun _ => 0)))), (hq, .inr (0, [.ref htq, .int (nI 0)])), (htq, .inl (cI, 6, .inl (nF (fun _ => 0)))), (lq, .inr (1, [.ref nq, .int (nI 1), .int (nI 0)])), (nq, .inl (cI, 8, .inl (nF (fun _ => 1)))), (oq, .inr (2, [.ref lq, .ref smq, .ref laq, .ref grq, .ref chq, .ref cq])), (smq, .inl (cI, 210, .inl (nF SM))), (laq, .inl (cI, 210, .inl (nF LA))), (grq, .inl (cI, 504, .inl (nF GR))), (chq, .inl (cI, 210, .inl (fun _ => -1))), (cq, .inr (0, [.ref tq, .int (nI 0)])), (tq, .inl (cI, 6, .inl (nF (fun _ => 0)))), (pq, .inr (4, [.null, .null, .null, .int 0, .null, .null, .null, .null, .null, .int 0, .null, .null]))] _ := hP
  have hD : va_D A [(xq, .inr (5, [.ref sq, .ref hq, .ref lq, .ref oq, .null, .null])), (sq, .inr (3, [.ref qc, .int (nI 0)])), (qc, .inl (cI, 40, .inl (nF (fun _ => 0)))), (hq, .inr (0, [.ref htq, .int (nI 0)])), (htq, .inl (cI, 6, .inl (nF (fun _ => 0)))), (lq, .inr (1, [.ref nq, .int (nI 1), .int (nI 0)])), (nq, .inl (cI, 8, .inl (nF (fun _ => 1)))), (oq, .inr (2, [.ref lq, .ref smq, .ref laq, .ref grq, .ref chq, .ref cq])), (smq, .inl (cI, 210, .inl (nF SM))), (laq, .inl (cI, 210, .inl (nF LA))), (grq, .inl (cI, 504, .inl (nF GR))), (chq, .inl (cI, 210, .inl (fun _ => -1))), (cq, .inr (0, [.ref tq, .int (nI 0)])), (tq, .inl (cI, 6, .inl (nF (fun _ => 0)))), (pq, .inr (4, [.null, .null, .null, .int 0, .null, .null, .null, .null, .null, .int 0, .null, .null]))] := hD
  refine W.widen (k := 14) (n := 1221) (by decide) (by decide) ?_
  refine lv_dup hx hb dX5_init_56 rfl ?_
  refine lv_aload_n hx hb dX5_init_57 rfl (lv_at hl 0 rfl) ?_
  refine va_get (D := D) (ci := 5) (v := .ref lq) (C := RX5) (T := TX5) (N := 6) hx hb hts hiX5 hown hKB.1 hP 0 rfl rfl 2 (by decide) fl26 (fun _ h9 => h9) rfl dX5_init_58 ?_
  refine lv_aload_n hx hb dX5_init_61 rfl (lv_at hl 0 rfl) ?_
  refine va_get (D := D) (ci := 5) (v := .ref oq) (C := RX5) (T := TX5) (N := 6) hx hb hts hiX5 hown hKB.1 hP 0 rfl rfl 3 (by decide) fl35 (fun _ h9 => h9) rfl dX5_init_62 ?_
  have hPc := hP.sub (ws' := [(pq, .inr (4, [.null, .null, .null, .int 0, .null, .null, .null, .null, .null, .int 0, .null, .null]))]) [14] rfl
  have hDc := hD.sub (ws' := [(pq, .inr (4, [.null, .null, .null, .int 0, .null, .null, .null, .null, .null, .int 0, .null, .null]))]) [14] (by decide) rfl
  have hFc := va_free (wc := [(pq, .inr (4, [.null, .null, .null, .int 0, .null, .null, .null, .null, .null, .int 0, .null, .null]))]) hD hS hA [14] rfl
  refine w_callv (wc := [(pq, .inr (4, [.null, .null, .null, .int 0, .null, .null, .null, .null, .null, .int 0, .null, .null]))]) (wr := [(xq, .inr (5, [.ref sq, .ref hq, .ref lq, .ref oq, .null, .null])), (sq, .inr (3, [.ref qc, .int (nI 0)])), (qc, .inl (cI, 40, .inl (nF (fun _ => 0)))), (hq, .inr (0, [.ref htq, .int (nI 0)])), (htq, .inl (cI, 6, .inl (nF (fun _ => 0)))), (lq, .inr (1, [.ref nq, .int (nI 1), .int (nI 0)])), (nq, .inl (cI, 8, .inl (nF (fun _ => 1)))), (oq, .inr (2, [.ref lq, .ref smq, .ref laq, .ref grq, .ref chq, .ref cq])), (smq, .inl (cI, 210, .inl (nF SM))), (laq, .inl (cI, 210, .inl (nF LA))), (grq, .inl (cI, 504, .inl (nF GR))), (chq, .inl (cI, 210, .inl (fun _ => -1))), (cq, .inr (0, [.ref tq, .int (nI 0)])), (tq, .inl (cI, 6, .inl (nF (fun _ => 0))))]) hP hD hS [14] [0, 1, 2, 3, 4, 5, 6, 7, 8, 9, 10, 11, 12, 13] rfl rfl (by decide) (by decide) hFc (va_runI (As := [.ref lq, .ref oq]) (rest := [.ref pq, .ref xq]) ⟨hx, hb, hml, hown, hts⟩ (m_X4_init l D cI cJ _ pq lq oq) (cwI 2 hts gX5_init_X4_init rfl rfl rfl inX4 ml41 im_X4_init rfl (by decide +kernel) ⟨Nat.le_of_ble_eq_true rfl, Nat.le_of_ble_eq_true rfl⟩) ⟨PX.blind, fun U hU hW => ⟨rfl, by rw [hU], hKB.warm hW, by rw [hU]; exact hPc, hDc.weaken (fun _ _ _ _ => trivial)⟩⟩ rfl rfl hl.1 rfl (lv_room (Nat.le_of_ble_eq_true rfl)) dX5_init_65 ⟨Nat.le_of_ble_eq_true rfl, Nat.le_of_ble_eq_true rfl⟩) (fun u65 H locs hw65 hP hD hS => ?_)
  obtain ⟨wq, bq, teq, loq, rq, odq, nwq, nxq⟩ := u65
  have hP : va_P D vwCl [(xq, .inr (5, [.ref sq, .ref hq, .ref lq, .ref oq, .null, .null])), (sq, .inr (3, [.ref qc, .int (nI 0)])), (qc, .inl (cI, 40, .inl (nF (fun _ => 0)))), (hq, .inr (0, [.ref htq, .int (nI 0)])), (htq, .inl (cI, 6, .inl (nF (fun _ => 0)))), (lq, .inr (1, [.ref nq, .int (nI 1), .int (nI 0)])), (nq, .inl (cI, 8, .inl (nF (fun _ => 1)))), (oq, .inr (2, [.ref lq, .ref smq, .ref laq, .ref grq, .ref chq, .ref cq])), (smq, .inl (cI, 210, .inl (nF SM))), (laq, .inl (cI, 210, .inl (nF LA))), (grq, .inl (cI, 504, .inl (nF GR))), (chq, .inl (cI, 210, .inl (fun _ => -1))), (cq, .inr (0, [.ref tq, .int (nI 0)])), (tq, .inl (cI, 6, .inl (nF (fun _ => 0)))), (pq, .inr (4, [.ref lq, .ref oq, .ref wq, .int (nI 2), .ref bq, .ref teq, .ref loq, .ref rq, .ref odq, .int (nI 0), .ref nwq, .ref nxq])), (wq, .inl (cI, 3, .inl (nF (nu (nu (nu (fun _ => 0) 0 1) 1 1) 2 1)))), (bq, .inl (cJ, 6, .inr (.inl (lF (fun _ => 0))))), (teq, .inl (cJ, 6, .inr (.inl (lF (fun _ => 0))))), (loq, .inl (cJ, 210, .inr (.inl (lF (fun _ => 0))))), (rq, .inl (cJ, 8, .inr (.inl (lF (fun _ => 0))))), (odq, .inl (cJ, 64, .inr (.inl (lF (fun _ => 0))))), (nwq, .inl (cJ, 8, .inr (.inl (lF (fun _ => 0))))), (nxq, .inl (cJ, 8, .inr (.inl (lF (fun _ => 0)))))] _ := hP
  have hD : va_D A [(xq, .inr (5, [.ref sq, .ref hq, .ref lq, .ref oq, .null, .null])), (sq, .inr (3, [.ref qc, .int (nI 0)])), (qc, .inl (cI, 40, .inl (nF (fun _ => 0)))), (hq, .inr (0, [.ref htq, .int (nI 0)])), (htq, .inl (cI, 6, .inl (nF (fun _ => 0)))), (lq, .inr (1, [.ref nq, .int (nI 1), .int (nI 0)])), (nq, .inl (cI, 8, .inl (nF (fun _ => 1)))), (oq, .inr (2, [.ref lq, .ref smq, .ref laq, .ref grq, .ref chq, .ref cq])), (smq, .inl (cI, 210, .inl (nF SM))), (laq, .inl (cI, 210, .inl (nF LA))), (grq, .inl (cI, 504, .inl (nF GR))), (chq, .inl (cI, 210, .inl (fun _ => -1))), (cq, .inr (0, [.ref tq, .int (nI 0)])), (tq, .inl (cI, 6, .inl (nF (fun _ => 0)))), (pq, .inr (4, [.ref lq, .ref oq, .ref wq, .int (nI 2), .ref bq, .ref teq, .ref loq, .ref rq, .ref odq, .int (nI 0), .ref nwq, .ref nxq])), (wq, .inl (cI, 3, .inl (nF (nu (nu (nu (fun _ => 0) 0 1) 1 1) 2 1)))), (bq, .inl (cJ, 6, .inr (.inl (lF (fun _ => 0))))), (teq, .inl (cJ, 6, .inr (.inl (lF (fun _ => 0))))), (loq, .inl (cJ, 210, .inr (.inl (lF (fun _ => 0))))), (rq, .inl (cJ, 8, .inr (.inl (lF (fun _ => 0))))), (odq, .inl (cJ, 64, .inr (.inl (lF (fun _ => 0))))), (nwq, .inl (cJ, 8, .inr (.inl (lF (fun _ => 0))))), (nxq, .inl (cJ, 8, .inr (.inl (lF (fun _ => 0)))))] := hD
  refine W.widen (k := 22) (n := 1534) (by decide) (by decide) ?_
  have hP := P_arrI hP 15 (g := (nF (fun _ => 1))) rfl (by decide)
  have hD := D_arrI hD 15 (g := (nF (fun _ => 1))) rfl
  have hP : va_P D vwCl [(xq, .inr (5, [.ref sq, .ref hq, .ref lq, .ref oq, .null, .null])), (sq, .inr (3, [.ref qc, .int (nI 0)])), (qc, .inl (cI, 40, .inl (nF (fun _ => 0)))), (hq, .inr (0, [.ref htq, .int (nI 0)])), (htq, .inl (cI, 6, .inl (nF (fun _ => 0)))), (lq, .inr (1, [.ref nq, .int (nI 1), .int (nI 0)])), (nq, .inl (cI, 8, .inl (nF (fun _ => 1)))), (oq, .inr (2, [.ref lq, .ref smq, .ref laq, .ref grq, .ref chq, .ref cq])), (smq, .inl (cI, 210, .inl (nF SM))), (laq, .inl (cI, 210, .inl (nF LA))), (grq, .inl (cI, 504, .inl (nF GR))), (chq, .inl (cI, 210, .inl (fun _ => -1))), (cq, .inr (0, [.ref tq, .int (nI 0)])), (tq, .inl (cI, 6, .inl (nF (fun _ => 0)))), (pq, .inr (4, [.ref lq, .ref oq, .ref wq, .int (nI 2), .ref bq, .ref teq, .ref loq, .ref rq, .ref odq, .int (nI 0), .ref nwq, .ref nxq])), (wq, .inl (cI, 3, .inl (nF (fun _ => 1)))), (bq, .inl (cJ, 6, .inr (.inl (lF (fun _ => 0))))), (teq, .inl (cJ, 6, .inr (.inl (lF (fun _ => 0))))), (loq, .inl (cJ, 210, .inr (.inl (lF (fun _ => 0))))), (rq, .inl (cJ, 8, .inr (.inl (lF (fun _ => 0))))), (odq, .inl (cJ, 64, .inr (.inl (lF (fun _ => 0))))), (nwq, .inl (cJ, 8, .inr (.inl (lF (fun _ => 0))))), (nxq, .inl (cJ, 8, .inr (.inl (lF (fun _ => 0)))))] _ := hP
  have hD : va_D A [(xq, .inr (5, [.ref sq, .ref hq, .ref lq, .ref oq, .null, .null])), (sq, .inr (3, [.ref qc, .int (nI 0)])), (qc, .inl (cI, 40, .inl (nF (fun _ => 0)))), (hq, .inr (0, [.ref htq, .int (nI 0)])), (htq, .inl (cI, 6, .inl (nF (fun _ => 0)))), (lq, .inr (1, [.ref nq, .int (nI 1), .int (nI 0)])), (nq, .inl (cI, 8, .inl (nF (fun _ => 1)))), (oq, .inr (2, [.ref lq, .ref smq, .ref laq, .ref grq, .ref chq, .ref cq])), (smq, .inl (cI, 210, .inl (nF SM))), (laq, .inl (cI, 210, .inl (nF LA))), (grq, .inl (cI, 504, .inl (nF GR))), (chq, .inl (cI, 210, .inl (fun _ => -1))), (cq, .inr (0, [.ref tq, .int (nI 0)])), (tq, .inl (cI, 6, .inl (nF (fun _ => 0)))), (pq, .inr (4, [.ref lq, .ref oq, .ref wq, .int (nI 2), .ref bq, .ref teq, .ref loq, .ref rq, .ref odq, .int (nI 0), .ref nwq, .ref nxq])), (wq, .inl (cI, 3, .inl (nF (fun _ => 1)))), (bq, .inl (cJ, 6, .inr (.inl (lF (fun _ => 0))))), (teq, .inl (cJ, 6, .inr (.inl (lF (fun _ => 0))))), (loq, .inl (cJ, 210, .inr (.inl (lF (fun _ => 0))))), (rq, .inl (cJ, 8, .inr (.inl (lF (fun _ => 0))))), (odq, .inl (cJ, 64, .inr (.inl (lF (fun _ => 0))))), (nwq, .inl (cJ, 8, .inr (.inl (lF (fun _ => 0))))), (nxq, .inl (cJ, 8, .inr (.inl (lF (fun _ => 0)))))] := hD
  refine va_putF (D := D) (ci := 5) (v := .ref pq) (ty := .object "TaughtTongues$Steps") (C := RX5) (T := TX5) (N := 6) hx hb hts hiX5 tyX5 tyX5_ok nmX5 hown hKB.1 hP hD hS 0 rfl rfl 4 (by decide) fl44 (fun _ h9 => h9) rfl hnm rfl (by decide +kernel) rfl rfl (Nat.le_of_ble_eq_true rfl) dX5_init_68 (fun H locs hP hD hS => ?_)
  have hP : va_P D vwCl [(xq, .inr (5, [.ref sq, .ref hq, .ref lq, .ref oq, .ref pq, .null])), (sq, .inr (3, [.ref qc, .int (nI 0)])), (qc, .inl (cI, 40, .inl (nF (fun _ => 0)))), (hq, .inr (0, [.ref htq, .int (nI 0)])), (htq, .inl (cI, 6, .inl (nF (fun _ => 0)))), (lq, .inr (1, [.ref nq, .int (nI 1), .int (nI 0)])), (nq, .inl (cI, 8, .inl (nF (fun _ => 1)))), (oq, .inr (2, [.ref lq, .ref smq, .ref laq, .ref grq, .ref chq, .ref cq])), (smq, .inl (cI, 210, .inl (nF SM))), (laq, .inl (cI, 210, .inl (nF LA))), (grq, .inl (cI, 504, .inl (nF GR))), (chq, .inl (cI, 210, .inl (fun _ => -1))), (cq, .inr (0, [.ref tq, .int (nI 0)])), (tq, .inl (cI, 6, .inl (nF (fun _ => 0)))), (pq, .inr (4, [.ref lq, .ref oq, .ref wq, .int (nI 2), .ref bq, .ref teq, .ref loq, .ref rq, .ref odq, .int (nI 0), .ref nwq, .ref nxq])), (wq, .inl (cI, 3, .inl (nF (fun _ => 1)))), (bq, .inl (cJ, 6, .inr (.inl (lF (fun _ => 0))))), (teq, .inl (cJ, 6, .inr (.inl (lF (fun _ => 0))))), (loq, .inl (cJ, 210, .inr (.inl (lF (fun _ => 0))))), (rq, .inl (cJ, 8, .inr (.inl (lF (fun _ => 0))))), (odq, .inl (cJ, 64, .inr (.inl (lF (fun _ => 0))))), (nwq, .inl (cJ, 8, .inr (.inl (lF (fun _ => 0))))), (nxq, .inl (cJ, 8, .inr (.inl (lF (fun _ => 0)))))] _ := hP
  have hD : va_D A [(xq, .inr (5, [.ref sq, .ref hq, .ref lq, .ref oq, .ref pq, .null])), (sq, .inr (3, [.ref qc, .int (nI 0)])), (qc, .inl (cI, 40, .inl (nF (fun _ => 0)))), (hq, .inr (0, [.ref htq, .int (nI 0)])), (htq, .inl (cI, 6, .inl (nF (fun _ => 0)))), (lq, .inr (1, [.ref nq, .int (nI 1), .int (nI 0)])), (nq, .inl (cI, 8, .inl (nF (fun _ => 1)))), (oq, .inr (2, [.ref lq, .ref smq, .ref laq, .ref grq, .ref chq, .ref cq])), (smq, .inl (cI, 210, .inl (nF SM))), (laq, .inl (cI, 210, .inl (nF LA))), (grq, .inl (cI, 504, .inl (nF GR))), (chq, .inl (cI, 210, .inl (fun _ => -1))), (cq, .inr (0, [.ref tq, .int (nI 0)])), (tq, .inl (cI, 6, .inl (nF (fun _ => 0)))), (pq, .inr (4, [.ref lq, .ref oq, .ref wq, .int (nI 2), .ref bq, .ref teq, .ref loq, .ref rq, .ref odq, .int (nI 0), .ref nwq, .ref nxq])), (wq, .inl (cI, 3, .inl (nF (fun _ => 1)))), (bq, .inl (cJ, 6, .inr (.inl (lF (fun _ => 0))))), (teq, .inl (cJ, 6, .inr (.inl (lF (fun _ => 0))))), (loq, .inl (cJ, 210, .inr (.inl (lF (fun _ => 0))))), (rq, .inl (cJ, 8, .inr (.inl (lF (fun _ => 0))))), (odq, .inl (cJ, 64, .inr (.inl (lF (fun _ => 0))))), (nwq, .inl (cJ, 8, .inr (.inl (lF (fun _ => 0))))), (nxq, .inl (cJ, 8, .inr (.inl (lF (fun _ => 0)))))] := hD
  refine lv_aload_n hx hb dX5_init_71 rfl (lv_at hl 0 rfl) ?_
  refine lv_bipush (v := nI (8)) hx hb dX5_init_72 (by decide) ?_
  refine r_newI (n := 8) hx hb acI hKB.1 hP hD hS hA (by decide) (by decide) (Nat.le_of_ble_eq_true rfl) (Nat.le_of_ble_eq_true rfl) dX5_init_74 (fun req H hP hD hS => ?_)
  have hP : va_P D vwCl [(xq, .inr (5, [.ref sq, .ref hq, .ref lq, .ref oq, .ref pq, .null])), (sq, .inr (3, [.ref qc, .int (nI 0)])), (qc, .inl (cI, 40, .inl (nF (fun _ => 0)))), (hq, .inr (0, [.ref htq, .int (nI 0)])), (htq, .inl (cI, 6, .inl (nF (fun _ => 0)))), (lq, .inr (1, [.ref nq, .int (nI 1), .int (nI 0)])), (nq, .inl (cI, 8, .inl (nF (fun _ => 1)))), (oq, .inr (2, [.ref lq, .ref smq, .ref laq, .ref grq, .ref chq, .ref cq])), (smq, .inl (cI, 210, .inl (nF SM))), (laq, .inl (cI, 210, .inl (nF LA))), (grq, .inl (cI, 504, .inl (nF GR))), (chq, .inl (cI, 210, .inl (fun _ => -1))), (cq, .inr (0, [.ref tq, .int (nI 0)])), (tq, .inl (cI, 6, .inl (nF (fun _ => 0)))), (pq, .inr (4, [.ref lq, .ref oq, .ref wq, .int (nI 2), .ref bq, .ref teq, .ref loq, .ref rq, .ref odq, .int (nI 0), .ref nwq, .ref nxq])), (wq, .inl (cI, 3, .inl (nF (fun _ => 1)))), (bq, .inl (cJ, 6, .inr (.inl (lF (fun _ => 0))))), (teq, .inl (cJ, 6, .inr (.inl (lF (fun _ => 0))))), (loq, .inl (cJ, 210, .inr (.inl (lF (fun _ => 0))))), (rq, .inl (cJ, 8, .inr (.inl (lF (fun _ => 0))))), (odq, .inl (cJ, 64, .inr (.inl (lF (fun _ => 0))))), (nwq, .inl (cJ, 8, .inr (.inl (lF (fun _ => 0))))), (nxq, .inl (cJ, 8, .inr (.inl (lF (fun _ => 0))))), (req, .inl (cI, 8, .inl (fun _ => 0)))] _ := hP
  have hD : va_D A [(xq, .inr (5, [.ref sq, .ref hq, .ref lq, .ref oq, .ref pq, .null])), (sq, .inr (3, [.ref qc, .int (nI 0)])), (qc, .inl (cI, 40, .inl (nF (fun _ => 0)))), (hq, .inr (0, [.ref htq, .int (nI 0)])), (htq, .inl (cI, 6, .inl (nF (fun _ => 0)))), (lq, .inr (1, [.ref nq, .int (nI 1), .int (nI 0)])), (nq, .inl (cI, 8, .inl (nF (fun _ => 1)))), (oq, .inr (2, [.ref lq, .ref smq, .ref laq, .ref grq, .ref chq, .ref cq])), (smq, .inl (cI, 210, .inl (nF SM))), (laq, .inl (cI, 210, .inl (nF LA))), (grq, .inl (cI, 504, .inl (nF GR))), (chq, .inl (cI, 210, .inl (fun _ => -1))), (cq, .inr (0, [.ref tq, .int (nI 0)])), (tq, .inl (cI, 6, .inl (nF (fun _ => 0)))), (pq, .inr (4, [.ref lq, .ref oq, .ref wq, .int (nI 2), .ref bq, .ref teq, .ref loq, .ref rq, .ref odq, .int (nI 0), .ref nwq, .ref nxq])), (wq, .inl (cI, 3, .inl (nF (fun _ => 1)))), (bq, .inl (cJ, 6, .inr (.inl (lF (fun _ => 0))))), (teq, .inl (cJ, 6, .inr (.inl (lF (fun _ => 0))))), (loq, .inl (cJ, 210, .inr (.inl (lF (fun _ => 0))))), (rq, .inl (cJ, 8, .inr (.inl (lF (fun _ => 0))))), (odq, .inl (cJ, 64, .inr (.inl (lF (fun _ => 0))))), (nwq, .inl (cJ, 8, .inr (.inl (lF (fun _ => 0))))), (nxq, .inl (cJ, 8, .inr (.inl (lF (fun _ => 0))))), (req, .inl (cI, 8, .inl (fun _ => 0)))] := hD
  refine W.widen (k := 23) (n := 1542) (by decide) (by decide) ?_
  refine va_putF (D := D) (ci := 5) (v := .ref req) (ty := .array .int) (C := RX5) (T := TX5) (N := 6) hx hb hts hiX5 tyX5 tyX5_ok nmX5 hown hKB.1 hP hD hS 0 rfl rfl 5 (by decide) fl48 (fun _ h9 => h9) rfl hnm rfl (by decide +kernel) rfl rfl (Nat.le_of_ble_eq_true rfl) dX5_init_76 (fun H locs hP hD hS => ?_)
  have hP : va_P D vwCl [(xq, .inr (5, [.ref sq, .ref hq, .ref lq, .ref oq, .ref pq, .ref req])), (sq, .inr (3, [.ref qc, .int (nI 0)])), (qc, .inl (cI, 40, .inl (nF (fun _ => 0)))), (hq, .inr (0, [.ref htq, .int (nI 0)])), (htq, .inl (cI, 6, .inl (nF (fun _ => 0)))), (lq, .inr (1, [.ref nq, .int (nI 1), .int (nI 0)])), (nq, .inl (cI, 8, .inl (nF (fun _ => 1)))), (oq, .inr (2, [.ref lq, .ref smq, .ref laq, .ref grq, .ref chq, .ref cq])), (smq, .inl (cI, 210, .inl (nF SM))), (laq, .inl (cI, 210, .inl (nF LA))), (grq, .inl (cI, 504, .inl (nF GR))), (chq, .inl (cI, 210, .inl (fun _ => -1))), (cq, .inr (0, [.ref tq, .int (nI 0)])), (tq, .inl (cI, 6, .inl (nF (fun _ => 0)))), (pq, .inr (4, [.ref lq, .ref oq, .ref wq, .int (nI 2), .ref bq, .ref teq, .ref loq, .ref rq, .ref odq, .int (nI 0), .ref nwq, .ref nxq])), (wq, .inl (cI, 3, .inl (nF (fun _ => 1)))), (bq, .inl (cJ, 6, .inr (.inl (lF (fun _ => 0))))), (teq, .inl (cJ, 6, .inr (.inl (lF (fun _ => 0))))), (loq, .inl (cJ, 210, .inr (.inl (lF (fun _ => 0))))), (rq, .inl (cJ, 8, .inr (.inl (lF (fun _ => 0))))), (odq, .inl (cJ, 64, .inr (.inl (lF (fun _ => 0))))), (nwq, .inl (cJ, 8, .inr (.inl (lF (fun _ => 0))))), (nxq, .inl (cJ, 8, .inr (.inl (lF (fun _ => 0))))), (req, .inl (cI, 8, .inl (fun _ => 0)))] _ := hP
  have hD : va_D A [(xq, .inr (5, [.ref sq, .ref hq, .ref lq, .ref oq, .ref pq, .ref req])), (sq, .inr (3, [.ref qc, .int (nI 0)])), (qc, .inl (cI, 40, .inl (nF (fun _ => 0)))), (hq, .inr (0, [.ref htq, .int (nI 0)])), (htq, .inl (cI, 6, .inl (nF (fun _ => 0)))), (lq, .inr (1, [.ref nq, .int (nI 1), .int (nI 0)])), (nq, .inl (cI, 8, .inl (nF (fun _ => 1)))), (oq, .inr (2, [.ref lq, .ref smq, .ref laq, .ref grq, .ref chq, .ref cq])), (smq, .inl (cI, 210, .inl (nF SM))), (laq, .inl (cI, 210, .inl (nF LA))), (grq, .inl (cI, 504, .inl (nF GR))), (chq, .inl (cI, 210, .inl (fun _ => -1))), (cq, .inr (0, [.ref tq, .int (nI 0)])), (tq, .inl (cI, 6, .inl (nF (fun _ => 0)))), (pq, .inr (4, [.ref lq, .ref oq, .ref wq, .int (nI 2), .ref bq, .ref teq, .ref loq, .ref rq, .ref odq, .int (nI 0), .ref nwq, .ref nxq])), (wq, .inl (cI, 3, .inl (nF (fun _ => 1)))), (bq, .inl (cJ, 6, .inr (.inl (lF (fun _ => 0))))), (teq, .inl (cJ, 6, .inr (.inl (lF (fun _ => 0))))), (loq, .inl (cJ, 210, .inr (.inl (lF (fun _ => 0))))), (rq, .inl (cJ, 8, .inr (.inl (lF (fun _ => 0))))), (odq, .inl (cJ, 64, .inr (.inl (lF (fun _ => 0))))), (nwq, .inl (cJ, 8, .inr (.inl (lF (fun _ => 0))))), (nxq, .inl (cJ, 8, .inr (.inl (lF (fun _ => 0))))), (req, .inl (cI, 8, .inl (fun _ => 0)))] := hD
  have hP := P_arrI hP 23 (g := (nF (fun _ => 0))) rfl (fun _ _ => rfl)
  have hD := D_arrI hD 23 (g := (nF (fun _ => 0))) rfl
  have hP : va_P D vwCl [(xq, .inr (5, [.ref sq, .ref hq, .ref lq, .ref oq, .ref pq, .ref req])), (sq, .inr (3, [.ref qc, .int (nI 0)])), (qc, .inl (cI, 40, .inl (nF (fun _ => 0)))), (hq, .inr (0, [.ref htq, .int (nI 0)])), (htq, .inl (cI, 6, .inl (nF (fun _ => 0)))), (lq, .inr (1, [.ref nq, .int (nI 1), .int (nI 0)])), (nq, .inl (cI, 8, .inl (nF (fun _ => 1)))), (oq, .inr (2, [.ref lq, .ref smq, .ref laq, .ref grq, .ref chq, .ref cq])), (smq, .inl (cI, 210, .inl (nF SM))), (laq, .inl (cI, 210, .inl (nF LA))), (grq, .inl (cI, 504, .inl (nF GR))), (chq, .inl (cI, 210, .inl (fun _ => -1))), (cq, .inr (0, [.ref tq, .int (nI 0)])), (tq, .inl (cI, 6, .inl (nF (fun _ => 0)))), (pq, .inr (4, [.ref lq, .ref oq, .ref wq, .int (nI 2), .ref bq, .ref teq, .ref loq, .ref rq, .ref odq, .int (nI 0), .ref nwq, .ref nxq])), (wq, .inl (cI, 3, .inl (nF (fun _ => 1)))), (bq, .inl (cJ, 6, .inr (.inl (lF (fun _ => 0))))), (teq, .inl (cJ, 6, .inr (.inl (lF (fun _ => 0))))), (loq, .inl (cJ, 210, .inr (.inl (lF (fun _ => 0))))), (rq, .inl (cJ, 8, .inr (.inl (lF (fun _ => 0))))), (odq, .inl (cJ, 64, .inr (.inl (lF (fun _ => 0))))), (nwq, .inl (cJ, 8, .inr (.inl (lF (fun _ => 0))))), (nxq, .inl (cJ, 8, .inr (.inl (lF (fun _ => 0))))), (req, .inl (cI, 8, .inl (nF (fun _ => 0))))] _ := hP
  have hD : va_D A [(xq, .inr (5, [.ref sq, .ref hq, .ref lq, .ref oq, .ref pq, .ref req])), (sq, .inr (3, [.ref qc, .int (nI 0)])), (qc, .inl (cI, 40, .inl (nF (fun _ => 0)))), (hq, .inr (0, [.ref htq, .int (nI 0)])), (htq, .inl (cI, 6, .inl (nF (fun _ => 0)))), (lq, .inr (1, [.ref nq, .int (nI 1), .int (nI 0)])), (nq, .inl (cI, 8, .inl (nF (fun _ => 1)))), (oq, .inr (2, [.ref lq, .ref smq, .ref laq, .ref grq, .ref chq, .ref cq])), (smq, .inl (cI, 210, .inl (nF SM))), (laq, .inl (cI, 210, .inl (nF LA))), (grq, .inl (cI, 504, .inl (nF GR))), (chq, .inl (cI, 210, .inl (fun _ => -1))), (cq, .inr (0, [.ref tq, .int (nI 0)])), (tq, .inl (cI, 6, .inl (nF (fun _ => 0)))), (pq, .inr (4, [.ref lq, .ref oq, .ref wq, .int (nI 2), .ref bq, .ref teq, .ref loq, .ref rq, .ref odq, .int (nI 0), .ref nwq, .ref nxq])), (wq, .inl (cI, 3, .inl (nF (fun _ => 1)))), (bq, .inl (cJ, 6, .inr (.inl (lF (fun _ => 0))))), (teq, .inl (cJ, 6, .inr (.inl (lF (fun _ => 0))))), (loq, .inl (cJ, 210, .inr (.inl (lF (fun _ => 0))))), (rq, .inl (cJ, 8, .inr (.inl (lF (fun _ => 0))))), (odq, .inl (cJ, 64, .inr (.inl (lF (fun _ => 0))))), (nwq, .inl (cJ, 8, .inr (.inl (lF (fun _ => 0))))), (nxq, .inl (cJ, 8, .inr (.inl (lF (fun _ => 0))))), (req, .inl (cI, 8, .inl (nF (fun _ => 0))))] := hD
  exact w_vret hx hb hr hlk hQ hAe (sq, hq, lq, oq, pq, req, qc, htq, nq, smq, laq, grq, chq, cq, tq, wq, bq, teq, loq, rq, odq, nwq, nxq) hP hD hS (trivial) dX5_init_79

set_option maxHeartbeats 4000000 in
set_option maxRecDepth 100000 in
theorem m_X5_learnerChanged (l : Launch) (D : va_G) (cI cJ : ClassId) (sz : Nat) (xq : Nat) (sq : Nat) (hq : Nat) (lq : Nat) (oq : Nat) (pq : Nat) (req : Nat) (smq : Nat) (laq : Nat) (grq : Nat) (chq : Nat) (cq : Nat) (wq : Nat) (h : Nat) (bq : Nat) (teq : Nat) (loq : Nat) (rq : Nat) (odq : Nat) (kn : Nat) (nwq : Nat) (nxq : Nat) (fch : Nat → Int32) : Met l yX5_learnerChanged wsX5_learnerChanged ({ frames := 2, cells := 0, slots := 0, locals := 43 }) (PX D cI cJ [(xq, .inr (5, [.ref sq, .ref hq, .ref lq, .ref oq, .ref pq, .ref req])), (oq, .inr (2, [.ref lq, .ref smq, .ref laq, .ref grq, .ref chq, .ref cq])), (chq, .inl (cI, 210, .inl fch)), (pq, .inr (4, [.ref lq, .ref oq, .ref wq, .int (nI h), .ref bq, .ref teq, .ref loq, .ref rq, .ref odq, .int (nI kn), .ref nwq, .ref nxq]))] sz [.ref xq]) (QWv D (S := Unit) [(xq, .inr (5, [.ref sq, .ref hq, .ref lq, .ref oq, .ref pq, .ref req])), (oq, .inr (2, [.ref lq, .ref smq, .ref laq, .ref grq, .ref chq, .ref cq])), (chq, .inl (cI, 210, .inl fch)), (pq, .inr (4, [.ref lq, .ref oq, .ref wq, .int (nI h), .ref bq, .ref teq, .ref loq, .ref rq, .ref odq, .int (nI kn), .ref nwq, .ref nxq]))] sz (fun _ => True) (fun _ => [(xq, .inr (5, [.ref sq, .ref hq, .ref lq, .ref oq, .ref pq, .ref req])), (oq, .inr (2, [.ref lq, .ref smq, .ref laq, .ref grq, .ref chq, .ref cq])), (chq, .inl (cI, 210, .inl (fun _ => -1))), (pq, .inr (4, [.ref lq, .ref oq, .ref wq, .int (nI h), .ref bq, .ref teq, .ref loq, .ref rq, .ref odq, .int (nI 0), .ref nwq, .ref nxq]))])) 0 0 (va_A [(xq, .inr (5, [.ref sq, .ref hq, .ref lq, .ref oq, .ref pq, .ref req])), (oq, .inr (2, [.ref lq, .ref smq, .ref laq, .ref grq, .ref chq, .ref cq])), (chq, .inl (cI, 210, .inl fch)), (pq, .inr (4, [.ref lq, .ref oq, .ref wq, .int (nI h), .ref bq, .ref teq, .ref loq, .ref rq, .ref odq, .int (nI kn), .ref nwq, .ref nxq]))] sz) := by
  refine met_X (cc := cX5_learnerChanged) (maxL := 1) (ret := none) (by decide) rfl (Nat.le_of_ble_eq_true rfl) ?_
  intro p e s m args below meth c Q ls A hQ hAe hAt hKB hP hD hA hl
  obtain ⟨hx, hb, hr, hml, hlk, hts, hown, hnm⟩ := hAt
  have hown : s.vm.findClass RX5 = some m.cls := hown
  have hS : va_S A s.heap s.heap [] := va_S.rf
  have hl : lv_has ls 1 [(0, .ref xq)] := hl
  have hiX5 : ∀ w ∈ u_ws RX5 TX5 6, w ∈ wsX5_learnerChanged := by decide +kernel
  have fl35 := hts (.fieldLink RX5 35 "TaughtTongues" "lots" "LTaughtTongues$Lots;") (by decide +kernel)
  have fl44 := hts (.fieldLink RX5 44 "TaughtTongues" "steps" "LTaughtTongues$Steps;") (by decide +kernel)
  have hiX4 : ∀ w ∈ u_ws RX4 TX4 12, w ∈ wsX5_learnerChanged := by decide +kernel
  refine lv_aload_n hx hb dX5_learnerChanged_0 rfl (lv_at hl 0 rfl) ?_
  refine va_get (D := D) (ci := 5) (v := .ref oq) (C := RX5) (T := TX5) (N := 6) hx hb hts hiX5 hown hKB.1 hP 0 rfl rfl 3 (by decide) fl35 (fun _ h9 => h9) rfl dX5_learnerChanged_1 ?_
  have hPc := hP.sub (ws' := [(oq, .inr (2, [.ref lq, .ref smq, .ref laq, .ref grq, .ref chq, .ref cq])), (chq, .inl (cI, 210, .inl fch))]) [1, 2] rfl
  have hDc := hD.sub (ws' := [(oq, .inr (2, [.ref lq, .ref smq, .ref laq, .ref grq, .ref chq, .ref cq])), (chq, .inl (cI, 210, .inl fch))]) [1, 2] (by decide) rfl
  have hFc := va_free (wc := [(oq, .inr (2, [.ref lq, .ref smq, .ref laq, .ref grq, .ref chq, .ref cq])), (chq, .inl (cI, 210, .inl fch))]) hD hS hA [1, 2] rfl
  refine w_callv (wc := [(oq, .inr (2, [.ref lq, .ref smq, .ref laq, .ref grq, .ref chq, .ref cq])), (chq, .inl (cI, 210, .inl fch))]) (wr := [(xq, .inr (5, [.ref sq, .ref hq, .ref lq, .ref oq, .ref pq, .ref req])), (pq, .inr (4, [.ref lq, .ref oq, .ref wq, .int (nI h), .ref bq, .ref teq, .ref loq, .ref rq, .ref odq, .int (nI kn), .ref nwq, .ref nxq]))]) hP hD hS [1, 2] [0, 3] rfl rfl (by decide) (by decide) hFc (va_runV (As := []) (rest := []) ⟨hx, hb, hml, hown, hts⟩ (m_X2_forgetChoices l D cI cJ _ oq lq smq laq grq chq cq fch) (cwV 0 hts gX5_learnerChanged_X2_forgetChoices rfl rfl rfl (by decide +kernel) ⟨Nat.le_of_ble_eq_true rfl, Nat.le_of_ble_eq_true rfl⟩) ⟨PX.blind, va_recv hKB.1 hP (ci := 2) (q0 := 1) rfl rfl, fun U hU hW => ⟨rfl, by rw [hU], hKB.warm hW, by rw [hU]; exact hPc, hDc.weaken (fun _ _ _ _ => trivial)⟩⟩ rfl rfl hl.1 rfl (lv_room (Nat.le_of_ble_eq_true rfl)) dX5_learnerChanged_4 ⟨Nat.le_of_ble_eq_true rfl, Nat.le_of_ble_eq_true rfl⟩) (fun u4 H locs hw4 hP hD hS => ?_)
  have hP : va_P D vwCl [(xq, .inr (5, [.ref sq, .ref hq, .ref lq, .ref oq, .ref pq, .ref req])), (pq, .inr (4, [.ref lq, .ref oq, .ref wq, .int (nI h), .ref bq, .ref teq, .ref loq, .ref rq, .ref odq, .int (nI kn), .ref nwq, .ref nxq])), (oq, .inr (2, [.ref lq, .ref smq, .ref laq, .ref grq, .ref chq, .ref cq])), (chq, .inl (cI, 210, .inl (fun _ => -1)))] _ := hP
  have hD : va_D A [(xq, .inr (5, [.ref sq, .ref hq, .ref lq, .ref oq, .ref pq, .ref req])), (pq, .inr (4, [.ref lq, .ref oq, .ref wq, .int (nI h), .ref bq, .ref teq, .ref loq, .ref rq, .ref odq, .int (nI kn), .ref nwq, .ref nxq])), (oq, .inr (2, [.ref lq, .ref smq, .ref laq, .ref grq, .ref chq, .ref cq])), (chq, .inl (cI, 210, .inl (fun _ => -1)))] := hD
  refine lv_aload_n hx hb dX5_learnerChanged_7 rfl (lv_at hl 0 rfl) ?_
  refine va_get (D := D) (ci := 5) (v := .ref pq) (C := RX5) (T := TX5) (N := 6) hx hb hts hiX5 hown hKB.1 hP 0 rfl rfl 4 (by decide) fl44 (fun _ h9 => h9) rfl dX5_learnerChanged_8 ?_
  refine lv_iconst (v := nI (0)) hx hb dX5_learnerChanged_11 (by decide) ?_
  refine va_putN (D := D) (ci := 4) (v := .int (nI 0)) (ty := .boolean) (C := RX4) (T := TX4) (N := 12) hx hb hts hiX4 tyX4 tyX4_ok nmX4 hown hKB.1 hP hD hS 1 rfl rfl 9 (by decide) (hKB.2.f (q := ("TaughtTongues", 63, "TaughtTongues$Steps", "known", "Z")) 5 rfl) (fun _ h9 => h9) rfl (by decide +kernel) rfl rfl (Nat.le_of_ble_eq_true rfl) dX5_learnerChanged_12 (fun H locs hP hD hS => ?_)
  have hP : va_P D vwCl [(xq, .inr (5, [.ref sq, .ref hq, .ref lq, .ref oq, .ref pq, .ref req])), (pq, .inr (4, [.ref lq, .ref oq, .ref wq, .int (nI h), .ref bq, .ref teq, .ref loq, .ref rq, .ref odq, .int (nI 0), .ref nwq, .ref nxq])), (oq, .inr (2, [.ref lq, .ref smq, .ref laq, .ref grq, .ref chq, .ref cq])), (chq, .inl (cI, 210, .inl (fun _ => -1)))] _ := hP
  have hD : va_D A [(xq, .inr (5, [.ref sq, .ref hq, .ref lq, .ref oq, .ref pq, .ref req])), (pq, .inr (4, [.ref lq, .ref oq, .ref wq, .int (nI h), .ref bq, .ref teq, .ref loq, .ref rq, .ref odq, .int (nI 0), .ref nwq, .ref nxq])), (oq, .inr (2, [.ref lq, .ref smq, .ref laq, .ref grq, .ref chq, .ref cq])), (chq, .inl (cI, 210, .inl (fun _ => -1)))] := hD
  exact w_vret hx hb hr hlk hQ hAe () (hP.sub [0, 2, 3, 1] rfl) (hD.sub [0, 2, 3, 1] (by decide) rfl) hS (trivial) dX5_learnerChanged_15

set_option maxHeartbeats 4000000 in
set_option maxRecDepth 100000 in
theorem m_X5_changeSlip (l : Launch) (D : va_G) (cI cJ : ClassId) (sz : Nat) (xq : Nat) (sq : Nat) (hq : Nat) (lq : Nat) (oq : Nat) (pq : Nat) (req : Nat) (smq : Nat) (laq : Nat) (grq : Nat) (chq : Nat) (cq : Nat) (wq : Nat) (h : Nat) (bq : Nat) (teq : Nat) (loq : Nat) (rq : Nat) (odq : Nat) (kn : Nat) (nwq : Nat) (nxq : Nat) (fch : Nat → Int32) (nq : Nat) (slip : Nat) (kd : Nat) (v : Nat) : Met l yX5_changeSlip wsX5_changeSlip ({ frames := 3, cells := 0, slots := 0, locals := 63 }) (PX D cI cJ [(xq, .inr (5, [.ref sq, .ref hq, .ref lq, .ref oq, .ref pq, .ref req])), (oq, .inr (2, [.ref lq, .ref smq, .ref laq, .ref grq, .ref chq, .ref cq])), (chq, .inl (cI, 210, .inl fch)), (pq, .inr (4, [.ref lq, .ref oq, .ref wq, .int (nI h), .ref bq, .ref teq, .ref loq, .ref rq, .ref odq, .int (nI kn), .ref nwq, .ref nxq])), (lq, .inr (1, [.ref nq, .int (nI slip), .int (nI kd)]))] sz [.ref xq, .int (nI v)]) (QWi D (S := Unit) [(xq, .inr (5, [.ref sq, .ref hq, .ref lq, .ref oq, .ref pq, .ref req])), (oq, .inr (2, [.ref lq, .ref smq, .ref laq, .ref grq, .ref chq, .ref cq])), (chq, .inl (cI, 210, .inl fch)), (pq, .inr (4, [.ref lq, .ref oq, .ref wq, .int (nI h), .ref bq, .ref teq, .ref loq, .ref rq, .ref odq, .int (nI kn), .ref nwq, .ref nxq])), (lq, .inr (1, [.ref nq, .int (nI slip), .int (nI kd)]))] sz (fun r _ => r = nI (slip)) (fun _ => [(xq, .inr (5, [.ref sq, .ref hq, .ref lq, .ref oq, .ref pq, .ref req])), (oq, .inr (2, [.ref lq, .ref smq, .ref laq, .ref grq, .ref chq, .ref cq])), (chq, .inl (cI, 210, .inl (fun _ => -1))), (pq, .inr (4, [.ref lq, .ref oq, .ref wq, .int (nI h), .ref bq, .ref teq, .ref loq, .ref rq, .ref odq, .int (nI 0), .ref nwq, .ref nxq])), (lq, .inr (1, [.ref nq, .int (nI v), .int (nI kd)]))])) 0 0 (va_A [(xq, .inr (5, [.ref sq, .ref hq, .ref lq, .ref oq, .ref pq, .ref req])), (oq, .inr (2, [.ref lq, .ref smq, .ref laq, .ref grq, .ref chq, .ref cq])), (chq, .inl (cI, 210, .inl fch)), (pq, .inr (4, [.ref lq, .ref oq, .ref wq, .int (nI h), .ref bq, .ref teq, .ref loq, .ref rq, .ref odq, .int (nI kn), .ref nwq, .ref nxq])), (lq, .inr (1, [.ref nq, .int (nI slip), .int (nI kd)]))] sz) := by
  refine met_X (cc := cX5_changeSlip) (maxL := 3) (ret := (some .int)) (by decide) rfl (Nat.le_of_ble_eq_true rfl) ?_
  intro p e s m args below meth c Q ls A hQ hAe hAt hKB hP hD hA hl
  obtain ⟨hx, hb, hr, hml, hlk, hts, hown, hnm⟩ := hAt
  have hown : s.vm.findClass RX5 = some m.cls := hown
  have hS : va_S A s.heap s.heap [] := va_S.rf
  have hl : lv_has ls 3 [(0, .ref xq), (1, .int (nI v))] := hl
  have hiX5 : ∀ w ∈ u_ws RX5 TX5 6, w ∈ wsX5_changeSlip := by decide +kernel
  have fl26 := hts (.fieldLink RX5 26 "TaughtTongues" "learner" "LTaughtTongues$Learner;") (by decide +kernel)
  have hiX1 : ∀ w ∈ u_ws RX1 TX1 3, w ∈ wsX5_changeSlip := by decide +kernel
  refine lv_aload_n hx hb dX5_changeSlip_0 rfl (lv_at hl 0 rfl) ?_
  refine va_get (D := D) (ci := 5) (v := .ref lq) (C := RX5) (T := TX5) (N := 6) hx hb hts hiX5 hown hKB.1 hP 0 rfl rfl 2 (by decide) fl26 (fun _ h9 => h9) rfl dX5_changeSlip_1 ?_
  refine va_getN (D := D) (ci := 1) (v := .int (nI slip)) (C := RX1) (T := TX1) (N := 3) hx hb hts hiX1 hown hKB.1 hP 4 rfl rfl 1 (by decide) (hKB.2.f (q := ("TaughtTongues", 196, "TaughtTongues$Learner", "slip", "I")) 2 rfl) (fun _ h9 => h9) rfl dX5_changeSlip_4 ?_
  refine lv_istore_n (lv' := [(2, .int (nI slip)), (0, .ref xq), (1, .int (nI v))]) hx hb dX5_changeSlip_7 rfl hl (by decide) rfl (fun ls hl => ?_)
  refine lv_aload_n hx hb dX5_changeSlip_8 rfl (lv_at hl 1 rfl) ?_
  refine va_get (D := D) (ci := 5) (v := .ref lq) (C := RX5) (T := TX5) (N := 6) hx hb hts hiX5 hown hKB.1 hP 0 rfl rfl 2 (by decide) fl26 (fun _ h9 => h9) rfl dX5_changeSlip_9 ?_
  refine lv_iload_n hx hb dX5_changeSlip_12 rfl (lv_at hl 2 rfl) ?_
  refine va_putN (D := D) (ci := 1) (v := .int (nI v)) (ty := .int) (C := RX1) (T := TX1) (N := 3) hx hb hts hiX1 tyX1 tyX1_ok nmX1 hown hKB.1 hP hD hS 4 rfl rfl 1 (by decide) (hKB.2.f (q := ("TaughtTongues", 196, "TaughtTongues$Learner", "slip", "I")) 2 rfl) (fun _ h9 => h9) rfl (by decide +kernel) rfl rfl (Nat.le_of_ble_eq_true rfl) dX5_changeSlip_13 (fun H locs hP hD hS => ?_)
  have hP : va_P D vwCl [(xq, .inr (5, [.ref sq, .ref hq, .ref lq, .ref oq, .ref pq, .ref req])), (oq, .inr (2, [.ref lq, .ref smq, .ref laq, .ref grq, .ref chq, .ref cq])), (chq, .inl (cI, 210, .inl fch)), (pq, .inr (4, [.ref lq, .ref oq, .ref wq, .int (nI h), .ref bq, .ref teq, .ref loq, .ref rq, .ref odq, .int (nI kn), .ref nwq, .ref nxq])), (lq, .inr (1, [.ref nq, .int (nI v), .int (nI kd)]))] _ := hP
  have hD : va_D A [(xq, .inr (5, [.ref sq, .ref hq, .ref lq, .ref oq, .ref pq, .ref req])), (oq, .inr (2, [.ref lq, .ref smq, .ref laq, .ref grq, .ref chq, .ref cq])), (chq, .inl (cI, 210, .inl fch)), (pq, .inr (4, [.ref lq, .ref oq, .ref wq, .int (nI h), .ref bq, .ref teq, .ref loq, .ref rq, .ref odq, .int (nI kn), .ref nwq, .ref nxq])), (lq, .inr (1, [.ref nq, .int (nI v), .int (nI kd)]))] := hD
  refine lv_aload_n hx hb dX5_changeSlip_16 rfl (lv_at hl 1 rfl) ?_
  have hPc := hP.sub (ws' := [(xq, .inr (5, [.ref sq, .ref hq, .ref lq, .ref oq, .ref pq, .ref req])), (oq, .inr (2, [.ref lq, .ref smq, .ref laq, .ref grq, .ref chq, .ref cq])), (chq, .inl (cI, 210, .inl fch)), (pq, .inr (4, [.ref lq, .ref oq, .ref wq, .int (nI h), .ref bq, .ref teq, .ref loq, .ref rq, .ref odq, .int (nI kn), .ref nwq, .ref nxq]))]) [0, 1, 2, 3] rfl
  have hDc := hD.sub (ws' := [(xq, .inr (5, [.ref sq, .ref hq, .ref lq, .ref oq, .ref pq, .ref req])), (oq, .inr (2, [.ref lq, .ref smq, .ref laq, .ref grq, .ref chq, .ref cq])), (chq, .inl (cI, 210, .inl fch)), (pq, .inr (4, [.ref lq, .ref oq, .ref wq, .int (nI h), .ref bq, .ref teq, .ref loq, .ref rq, .ref odq, .int (nI kn), .ref nwq, .ref nxq]))]) [0, 1, 2, 3] (by decide) rfl
  have hFc := va_free (wc := [(xq, .inr (5, [.ref sq, .ref hq, .ref lq, .ref oq, .ref pq, .ref req])), (oq, .inr (2, [.ref lq, .ref smq, .ref laq, .ref grq, .ref chq, .ref cq])), (chq, .inl (cI, 210, .inl fch)), (pq, .inr (4, [.ref lq, .ref oq, .ref wq, .int (nI h), .ref bq, .ref teq, .ref loq, .ref rq, .ref odq, .int (nI kn), .ref nwq, .ref nxq]))]) hD hS hA [0, 1, 2, 3] rfl
  refine w_callv (wc := [(xq, .inr (5, [.ref sq, .ref hq, .ref lq, .ref oq, .ref pq, .ref req])), (oq, .inr (2, [.ref lq, .ref smq, .ref laq, .ref grq, .ref chq, .ref cq])), (chq, .inl (cI, 210, .inl fch)), (pq, .inr (4, [.ref lq, .ref oq, .ref wq, .int (nI h), .ref bq, .ref teq, .ref loq, .ref rq, .ref odq, .int (nI kn), .ref nwq, .ref nxq]))]) (wr := [(lq, .inr (1, [.ref nq, .int (nI v), .int (nI kd)]))]) hP hD hS [0, 1, 2, 3] [4] rfl rfl (by decide) (by decide) hFc (va_runV (As := []) (rest := []) ⟨hx, hb, hml, hown, hts⟩ (m_X5_learnerChanged l D cI cJ _ xq sq hq lq oq pq req smq laq grq chq cq wq h bq teq loq rq odq kn nwq nxq fch) (cwV 0 hts gX5_changeSlip_X5_learnerChanged rfl rfl rfl (by decide +kernel) ⟨Nat.le_of_ble_eq_true rfl, Nat.le_of_ble_eq_true rfl⟩) ⟨PX.blind, va_recv hKB.1 hP (ci := 5) (q0 := 0) rfl rfl, fun U hU hW => ⟨rfl, by rw [hU], hKB.warm hW, by rw [hU]; exact hPc, hDc.weaken (fun _ _ _ _ => trivial)⟩⟩ rfl rfl hl.1 rfl (lv_room (Nat.le_of_ble_eq_true rfl)) dX5_changeSlip_17 ⟨Nat.le_of_ble_eq_true rfl, Nat.le_of_ble_eq_true rfl⟩) (fun u17 H locs hw17 hP hD hS => ?_)
  have hP : va_P D vwCl [(lq, .inr (1, [.ref nq, .int (nI v), .int (nI kd)])), (xq, .inr (5, [.ref sq, .ref hq, .ref lq, .ref oq, .ref pq, .ref req])), (oq, .inr (2, [.ref lq, .ref smq, .ref laq, .ref grq, .ref chq, .ref cq])), (chq, .inl (cI, 210, .inl (fun _ => -1))), (pq, .inr (4, [.ref lq, .ref oq, .ref wq, .int (nI h), .ref bq, .ref teq, .ref loq, .ref rq, .ref odq, .int (nI 0), .ref nwq, .ref nxq]))] _ := hP
  have hD : va_D A [(lq, .inr (1, [.ref nq, .int (nI v), .int (nI kd)])), (xq, .inr (5, [.ref sq, .ref hq, .ref lq, .ref oq, .ref pq, .ref req])), (oq, .inr (2, [.ref lq, .ref smq, .ref laq, .ref grq, .ref chq, .ref cq])), (chq, .inl (cI, 210, .inl (fun _ => -1))), (pq, .inr (4, [.ref lq, .ref oq, .ref wq, .int (nI h), .ref bq, .ref teq, .ref loq, .ref rq, .ref odq, .int (nI 0), .ref nwq, .ref nxq]))] := hD
  refine lv_iload_n hx hb dX5_changeSlip_20 rfl (lv_at hl 0 rfl) ?_
  exact w_iret hx hb hr hlk hQ hAe () (hP.sub [1, 2, 3, 4, 0] rfl) (hD.sub [1, 2, 3, 4, 0] (by decide) rfl) hS (rfl) dX5_changeSlip_21

set_option maxHeartbeats 4000000 in
set_option maxRecDepth 100000 in
theorem m_X5_changeLearner (l : Launch) (D : va_G) (cI cJ : ClassId) (sz : Nat) (xq : Nat) (sq : Nat) (hq : Nat) (lq : Nat) (oq : Nat) (pq : Nat) (req : Nat) (smq : Nat) (laq : Nat) (grq : Nat) (chq : Nat) (cq : Nat) (wq : Nat) (h : Nat) (bq : Nat) (teq : Nat) (loq : Nat) (rq : Nat) (odq : Nat) (kn : Nat) (nwq : Nat) (nxq : Nat) (fch : Nat → Int32) (nq : Nat) (slip : Nat) (kd : Nat) (v : Nat) : Met l yX5_changeLearner wsX5_changeLearner ({ frames := 3, cells := 0, slots := 0, locals := 63 }) (PX D cI cJ [(xq, .inr (5, [.ref sq, .ref hq, .ref lq, .ref oq, .ref pq, .ref req])), (oq, .inr (2, [.ref lq, .ref smq, .ref laq, .ref grq, .ref chq, .ref cq])), (chq, .inl (cI, 210, .inl fch)), (pq, .inr (4, [.ref lq, .ref oq, .ref wq, .int (nI h), .ref bq, .ref teq, .ref loq, .ref rq, .ref odq, .int (nI kn), .ref nwq, .ref nxq])), (lq, .inr (1, [.ref nq, .int (nI slip), .int (nI kd)]))] sz [.ref xq, .int (nI v)]) (QWi D (S := Unit) [(xq, .inr (5, [.ref sq, .ref hq, .ref lq, .ref oq, .ref pq, .ref req])), (oq, .inr (2, [.ref lq, .ref smq, .ref laq, .ref grq, .ref chq, .ref cq])), (chq, .inl (cI, 210, .inl fch)), (pq, .inr (4, [.ref lq, .ref oq, .ref wq, .int (nI h), .ref bq, .ref teq, .ref loq, .ref rq, .ref odq, .int (nI kn), .ref nwq, .ref nxq])), (lq, .inr (1, [.ref nq, .int (nI slip), .int (nI kd)]))] sz (fun r _ => r = nI (kd)) (fun _ => [(xq, .inr (5, [.ref sq, .ref hq, .ref lq, .ref oq, .ref pq, .ref req])), (oq, .inr (2, [.ref lq, .ref smq, .ref laq, .ref grq, .ref chq, .ref cq])), (chq, .inl (cI, 210, .inl (fun _ => -1))), (pq, .inr (4, [.ref lq, .ref oq, .ref wq, .int (nI h), .ref bq, .ref teq, .ref loq, .ref rq, .ref odq, .int (nI 0), .ref nwq, .ref nxq])), (lq, .inr (1, [.ref nq, .int (nI slip), .int (nI v)]))])) 0 0 (va_A [(xq, .inr (5, [.ref sq, .ref hq, .ref lq, .ref oq, .ref pq, .ref req])), (oq, .inr (2, [.ref lq, .ref smq, .ref laq, .ref grq, .ref chq, .ref cq])), (chq, .inl (cI, 210, .inl fch)), (pq, .inr (4, [.ref lq, .ref oq, .ref wq, .int (nI h), .ref bq, .ref teq, .ref loq, .ref rq, .ref odq, .int (nI kn), .ref nwq, .ref nxq])), (lq, .inr (1, [.ref nq, .int (nI slip), .int (nI kd)]))] sz) := by
  refine met_X (cc := cX5_changeLearner) (maxL := 3) (ret := (some .int)) (by decide) rfl (Nat.le_of_ble_eq_true rfl) ?_
  intro p e s m args below meth c Q ls A hQ hAe hAt hKB hP hD hA hl
  obtain ⟨hx, hb, hr, hml, hlk, hts, hown, hnm⟩ := hAt
  have hown : s.vm.findClass RX5 = some m.cls := hown
  have hS : va_S A s.heap s.heap [] := va_S.rf
  have hl : lv_has ls 3 [(0, .ref xq), (1, .int (nI v))] := hl
  have hiX5 : ∀ w ∈ u_ws RX5 TX5 6, w ∈ wsX5_changeLearner := by decide +kernel
  have fl26 := hts (.fieldLink RX5 26 "TaughtTongues" "learner" "LTaughtTongues$Learner;") (by decide +kernel)
  have hiX1 : ∀ w ∈ u_ws RX1 TX1 3, w ∈ wsX5_changeLearner := by decide +kernel
  refine lv_aload_n hx hb dX5_changeLearner_0 rfl (lv_at hl 0 rfl) ?_
  refine va_get (D := D) (ci := 5) (v := .ref lq) (C := RX5) (T := TX5) (N := 6) hx hb hts hiX5 hown hKB.1 hP 0 rfl rfl 2 (by decide) fl26 (fun _ h9 => h9) rfl dX5_changeLearner_1 ?_
  refine va_getN (D := D) (ci := 1) (v := .int (nI kd)) (C := RX1) (T := TX1) (N := 3) hx hb hts hiX1 hown hKB.1 hP 4 rfl rfl 2 (by decide) (hKB.2.f (q := ("TaughtTongues", 199, "TaughtTongues$Learner", "kind", "I")) 3 rfl) (fun _ h9 => h9) rfl dX5_changeLearner_4 ?_
  refine lv_istore_n (lv' := [(2, .int (nI kd)), (0, .ref xq), (1, .int (nI v))]) hx hb dX5_changeLearner_7 rfl hl (by decide) rfl (fun ls hl => ?_)
  refine lv_aload_n hx hb dX5_changeLearner_8 rfl (lv_at hl 1 rfl) ?_
  refine va_get (D := D) (ci := 5) (v := .ref lq) (C := RX5) (T := TX5) (N := 6) hx hb hts hiX5 hown hKB.1 hP 0 rfl rfl 2 (by decide) fl26 (fun _ h9 => h9) rfl dX5_changeLearner_9 ?_
  refine lv_iload_n hx hb dX5_changeLearner_12 rfl (lv_at hl 2 rfl) ?_
  refine va_putN (D := D) (ci := 1) (v := .int (nI v)) (ty := .int) (C := RX1) (T := TX1) (N := 3) hx hb hts hiX1 tyX1 tyX1_ok nmX1 hown hKB.1 hP hD hS 4 rfl rfl 2 (by decide) (hKB.2.f (q := ("TaughtTongues", 199, "TaughtTongues$Learner", "kind", "I")) 3 rfl) (fun _ h9 => h9) rfl (by decide +kernel) rfl rfl (Nat.le_of_ble_eq_true rfl) dX5_changeLearner_13 (fun H locs hP hD hS => ?_)
  have hP : va_P D vwCl [(xq, .inr (5, [.ref sq, .ref hq, .ref lq, .ref oq, .ref pq, .ref req])), (oq, .inr (2, [.ref lq, .ref smq, .ref laq, .ref grq, .ref chq, .ref cq])), (chq, .inl (cI, 210, .inl fch)), (pq, .inr (4, [.ref lq, .ref oq, .ref wq, .int (nI h), .ref bq, .ref teq, .ref loq, .ref rq, .ref odq, .int (nI kn), .ref nwq, .ref nxq])), (lq, .inr (1, [.ref nq, .int (nI slip), .int (nI v)]))] _ := hP
  have hD : va_D A [(xq, .inr (5, [.ref sq, .ref hq, .ref lq, .ref oq, .ref pq, .ref req])), (oq, .inr (2, [.ref lq, .ref smq, .ref laq, .ref grq, .ref chq, .ref cq])), (chq, .inl (cI, 210, .inl fch)), (pq, .inr (4, [.ref lq, .ref oq, .ref wq, .int (nI h), .ref bq, .ref teq, .ref loq, .ref rq, .ref odq, .int (nI kn), .ref nwq, .ref nxq])), (lq, .inr (1, [.ref nq, .int (nI slip), .int (nI v)]))] := hD
  refine lv_aload_n hx hb dX5_changeLearner_16 rfl (lv_at hl 1 rfl) ?_
  have hPc := hP.sub (ws' := [(xq, .inr (5, [.ref sq, .ref hq, .ref lq, .ref oq, .ref pq, .ref req])), (oq, .inr (2, [.ref lq, .ref smq, .ref laq, .ref grq, .ref chq, .ref cq])), (chq, .inl (cI, 210, .inl fch)), (pq, .inr (4, [.ref lq, .ref oq, .ref wq, .int (nI h), .ref bq, .ref teq, .ref loq, .ref rq, .ref odq, .int (nI kn), .ref nwq, .ref nxq]))]) [0, 1, 2, 3] rfl
  have hDc := hD.sub (ws' := [(xq, .inr (5, [.ref sq, .ref hq, .ref lq, .ref oq, .ref pq, .ref req])), (oq, .inr (2, [.ref lq, .ref smq, .ref laq, .ref grq, .ref chq, .ref cq])), (chq, .inl (cI, 210, .inl fch)), (pq, .inr (4, [.ref lq, .ref oq, .ref wq, .int (nI h), .ref bq, .ref teq, .ref loq, .ref rq, .ref odq, .int (nI kn), .ref nwq, .ref nxq]))]) [0, 1, 2, 3] (by decide) rfl
  have hFc := va_free (wc := [(xq, .inr (5, [.ref sq, .ref hq, .ref lq, .ref oq, .ref pq, .ref req])), (oq, .inr (2, [.ref lq, .ref smq, .ref laq, .ref grq, .ref chq, .ref cq])), (chq, .inl (cI, 210, .inl fch)), (pq, .inr (4, [.ref lq, .ref oq, .ref wq, .int (nI h), .ref bq, .ref teq, .ref loq, .ref rq, .ref odq, .int (nI kn), .ref nwq, .ref nxq]))]) hD hS hA [0, 1, 2, 3] rfl
  refine w_callv (wc := [(xq, .inr (5, [.ref sq, .ref hq, .ref lq, .ref oq, .ref pq, .ref req])), (oq, .inr (2, [.ref lq, .ref smq, .ref laq, .ref grq, .ref chq, .ref cq])), (chq, .inl (cI, 210, .inl fch)), (pq, .inr (4, [.ref lq, .ref oq, .ref wq, .int (nI h), .ref bq, .ref teq, .ref loq, .ref rq, .ref odq, .int (nI kn), .ref nwq, .ref nxq]))]) (wr := [(lq, .inr (1, [.ref nq, .int (nI slip), .int (nI v)]))]) hP hD hS [0, 1, 2, 3] [4] rfl rfl (by decide) (by decide) hFc (va_runV (As := []) (rest := []) ⟨hx, hb, hml, hown, hts⟩ (m_X5_learnerChanged l D cI cJ _ xq sq hq lq oq pq req smq laq grq chq cq wq h bq teq loq rq odq kn nwq nxq fch) (cwV 0 hts gX5_changeLearner_X5_learnerChanged rfl rfl rfl (by decide +kernel) ⟨Nat.le_of_ble_eq_true rfl, Nat.le_of_ble_eq_true rfl⟩) ⟨PX.blind, va_recv hKB.1 hP (ci := 5) (q0 := 0) rfl rfl, fun U hU hW => ⟨rfl, by rw [hU], hKB.warm hW, by rw [hU]; exact hPc, hDc.weaken (fun _ _ _ _ => trivial)⟩⟩ rfl rfl hl.1 rfl (lv_room (Nat.le_of_ble_eq_true rfl)) dX5_changeLearner_17 ⟨Nat.le_of_ble_eq_true rfl, Nat.le_of_ble_eq_true rfl⟩) (fun u17 H locs hw17 hP hD hS => ?_)
  have hP : va_P D vwCl [(lq, .inr (1, [.ref nq, .int (nI slip), .int (nI v)])), (xq, .inr (5, [.ref sq, .ref hq, .ref lq, .ref oq, .ref pq, .ref req])), (oq, .inr (2, [.ref lq, .ref smq, .ref laq, .ref grq, .ref chq, .ref cq])), (chq, .inl (cI, 210, .inl (fun _ => -1))), (pq, .inr (4, [.ref lq, .ref oq, .ref wq, .int (nI h), .ref bq, .ref teq, .ref loq, .ref rq, .ref odq, .int (nI 0), .ref nwq, .ref nxq]))] _ := hP
  have hD : va_D A [(lq, .inr (1, [.ref nq, .int (nI slip), .int (nI v)])), (xq, .inr (5, [.ref sq, .ref hq, .ref lq, .ref oq, .ref pq, .ref req])), (oq, .inr (2, [.ref lq, .ref smq, .ref laq, .ref grq, .ref chq, .ref cq])), (chq, .inl (cI, 210, .inl (fun _ => -1))), (pq, .inr (4, [.ref lq, .ref oq, .ref wq, .int (nI h), .ref bq, .ref teq, .ref loq, .ref rq, .ref odq, .int (nI 0), .ref nwq, .ref nxq]))] := hD
  refine lv_iload_n hx hb dX5_changeLearner_20 rfl (lv_at hl 0 rfl) ?_
  exact w_iret hx hb hr hlk hQ hAe () (hP.sub [1, 2, 3, 4, 0] rfl) (hD.sub [1, 2, 3, 4, 0] (by decide) rfl) hS (rfl) dX5_changeLearner_21

set_option maxHeartbeats 4000000 in
set_option maxRecDepth 100000 in
theorem m_X5_changeHears (l : Launch) (D : va_G) (cI cJ : ClassId) (sz : Nat) (xq : Nat) (sq : Nat) (hq : Nat) (lq : Nat) (oq : Nat) (pq : Nat) (req : Nat) (wq : Nat) (h : Nat) (bq : Nat) (teq : Nat) (loq : Nat) (rq : Nat) (odq : Nat) (kn : Nat) (nwq : Nat) (nxq : Nat) (v : Nat) : Met l yX5_changeHears wsX5_changeHears ({ frames := 0, cells := 0, slots := 0, locals := 0 }) (PX D cI cJ [(xq, .inr (5, [.ref sq, .ref hq, .ref lq, .ref oq, .ref pq, .ref req])), (pq, .inr (4, [.ref lq, .ref oq, .ref wq, .int (nI h), .ref bq, .ref teq, .ref loq, .ref rq, .ref odq, .int (nI kn), .ref nwq, .ref nxq]))] sz [.ref xq, .int (nI v)]) (QWi D (S := Unit) [(xq, .inr (5, [.ref sq, .ref hq, .ref lq, .ref oq, .ref pq, .ref req])), (pq, .inr (4, [.ref lq, .ref oq, .ref wq, .int (nI h), .ref bq, .ref teq, .ref loq, .ref rq, .ref odq, .int (nI kn), .ref nwq, .ref nxq]))] sz (fun r _ => r = nI (h)) (fun _ => [(xq, .inr (5, [.ref sq, .ref hq, .ref lq, .ref oq, .ref pq, .ref req])), (pq, .inr (4, [.ref lq, .ref oq, .ref wq, .int (nI v), .ref bq, .ref teq, .ref loq, .ref rq, .ref odq, .int (nI 0), .ref nwq, .ref nxq]))])) 0 0 (va_A [(xq, .inr (5, [.ref sq, .ref hq, .ref lq, .ref oq, .ref pq, .ref req])), (pq, .inr (4, [.ref lq, .ref oq, .ref wq, .int (nI h), .ref bq, .ref teq, .ref loq, .ref rq, .ref odq, .int (nI kn), .ref nwq, .ref nxq]))] sz) := by
  refine met_X (cc := cX5_changeHears) (maxL := 3) (ret := (some .int)) (by decide) rfl (Nat.le_of_ble_eq_true rfl) ?_
  intro p e s m args below meth c Q ls A hQ hAe hAt hKB hP hD hA hl
  obtain ⟨hx, hb, hr, hml, hlk, hts, hown, hnm⟩ := hAt
  have hown : s.vm.findClass RX5 = some m.cls := hown
  have hS : va_S A s.heap s.heap [] := va_S.rf
  have hl : lv_has ls 3 [(0, .ref xq), (1, .int (nI v))] := hl
  have hiX5 : ∀ w ∈ u_ws RX5 TX5 6, w ∈ wsX5_changeHears := by decide +kernel
  have fl44 := hts (.fieldLink RX5 44 "TaughtTongues" "steps" "LTaughtTongues$Steps;") (by decide +kernel)
  have hiX4 : ∀ w ∈ u_ws RX4 TX4 12, w ∈ wsX5_changeHears := by decide +kernel
  refine lv_aload_n hx hb dX5_changeHears_0 rfl (lv_at hl 0 rfl) ?_
  refine va_get (D := D) (ci := 5) (v := .ref pq) (C := RX5) (T := TX5) (N := 6) hx hb hts hiX5 hown hKB.1 hP 0 rfl rfl 4 (by decide) fl44 (fun _ h9 => h9) rfl dX5_changeHears_1 ?_
  refine va_getN (D := D) (ci := 4) (v := .int (nI h)) (C := RX4) (T := TX4) (N := 12) hx hb hts hiX4 hown hKB.1 hP 1 rfl rfl 3 (by decide) (hKB.2.f (q := ("TaughtTongues", 148, "TaughtTongues$Steps", "hears", "I")) 1 rfl) (fun _ h9 => h9) rfl dX5_changeHears_4 ?_
  refine lv_istore_n (lv' := [(2, .int (nI h)), (0, .ref xq), (1, .int (nI v))]) hx hb dX5_changeHears_7 rfl hl (by decide) rfl (fun ls hl => ?_)
  refine lv_aload_n hx hb dX5_changeHears_8 rfl (lv_at hl 1 rfl) ?_
  refine va_get (D := D) (ci := 5) (v := .ref pq) (C := RX5) (T := TX5) (N := 6) hx hb hts hiX5 hown hKB.1 hP 0 rfl rfl 4 (by decide) fl44 (fun _ h9 => h9) rfl dX5_changeHears_9 ?_
  refine lv_iload_n hx hb dX5_changeHears_12 rfl (lv_at hl 2 rfl) ?_
  refine va_putN (D := D) (ci := 4) (v := .int (nI v)) (ty := .int) (C := RX4) (T := TX4) (N := 12) hx hb hts hiX4 tyX4 tyX4_ok nmX4 hown hKB.1 hP hD hS 1 rfl rfl 3 (by decide) (hKB.2.f (q := ("TaughtTongues", 148, "TaughtTongues$Steps", "hears", "I")) 1 rfl) (fun _ h9 => h9) rfl (by decide +kernel) rfl rfl (Nat.le_of_ble_eq_true rfl) dX5_changeHears_13 (fun H locs hP hD hS => ?_)
  have hP : va_P D vwCl [(xq, .inr (5, [.ref sq, .ref hq, .ref lq, .ref oq, .ref pq, .ref req])), (pq, .inr (4, [.ref lq, .ref oq, .ref wq, .int (nI v), .ref bq, .ref teq, .ref loq, .ref rq, .ref odq, .int (nI kn), .ref nwq, .ref nxq]))] _ := hP
  have hD : va_D A [(xq, .inr (5, [.ref sq, .ref hq, .ref lq, .ref oq, .ref pq, .ref req])), (pq, .inr (4, [.ref lq, .ref oq, .ref wq, .int (nI v), .ref bq, .ref teq, .ref loq, .ref rq, .ref odq, .int (nI kn), .ref nwq, .ref nxq]))] := hD
  refine lv_aload_n hx hb dX5_changeHears_16 rfl (lv_at hl 1 rfl) ?_
  refine va_get (D := D) (ci := 5) (v := .ref pq) (C := RX5) (T := TX5) (N := 6) hx hb hts hiX5 hown hKB.1 hP 0 rfl rfl 4 (by decide) fl44 (fun _ h9 => h9) rfl dX5_changeHears_17 ?_
  refine lv_iconst (v := nI (0)) hx hb dX5_changeHears_20 (by decide) ?_
  refine va_putN (D := D) (ci := 4) (v := .int (nI 0)) (ty := .boolean) (C := RX4) (T := TX4) (N := 12) hx hb hts hiX4 tyX4 tyX4_ok nmX4 hown hKB.1 hP hD hS 1 rfl rfl 9 (by decide) (hKB.2.f (q := ("TaughtTongues", 63, "TaughtTongues$Steps", "known", "Z")) 5 rfl) (fun _ h9 => h9) rfl (by decide +kernel) rfl rfl (Nat.le_of_ble_eq_true rfl) dX5_changeHears_21 (fun H locs hP hD hS => ?_)
  have hP : va_P D vwCl [(xq, .inr (5, [.ref sq, .ref hq, .ref lq, .ref oq, .ref pq, .ref req])), (pq, .inr (4, [.ref lq, .ref oq, .ref wq, .int (nI v), .ref bq, .ref teq, .ref loq, .ref rq, .ref odq, .int (nI 0), .ref nwq, .ref nxq]))] _ := hP
  have hD : va_D A [(xq, .inr (5, [.ref sq, .ref hq, .ref lq, .ref oq, .ref pq, .ref req])), (pq, .inr (4, [.ref lq, .ref oq, .ref wq, .int (nI v), .ref bq, .ref teq, .ref loq, .ref rq, .ref odq, .int (nI 0), .ref nwq, .ref nxq]))] := hD
  refine lv_iload_n hx hb dX5_changeHears_24 rfl (lv_at hl 0 rfl) ?_
  exact w_iret hx hb hr hlk hQ hAe () hP hD hS (rfl) dX5_changeHears_25

set_option maxHeartbeats 4000000 in
set_option maxRecDepth 100000 in
theorem m_X5_weight (l : Launch) (D : va_G) (cI cJ : ClassId) (sz : Nat) (xq : Nat) (sq : Nat) (hq : Nat) (lq : Nat) (oq : Nat) (pq : Nat) (req : Nat) (wq : Nat) (h : Nat) (bq : Nat) (teq : Nat) (loq : Nat) (rq : Nat) (odq : Nat) (kn : Nat) (nwq : Nat) (nxq : Nat) (w : Nat → Nat) (slip : Nat) (kd : Nat) (num : Nat → Nat) (od : Nat → Nat) (fch : Nat → Int32) (p0 : Int32) (p1 : Int32) (hCI : CIv w slip kd num h kn od fch) : Met l yX5_weight wsX5_weight ({ frames := 2, cells := 0, slots := 0, locals := 42 }) (PX D cI cJ [(xq, .inr (5, [.ref sq, .ref hq, .ref lq, .ref oq, .ref pq, .ref req])), (pq, .inr (4, [.ref lq, .ref oq, .ref wq, .int (nI h), .ref bq, .ref teq, .ref loq, .ref rq, .ref odq, .int (nI kn), .ref nwq, .ref nxq])), (wq, .inl (cI, 3, .inl (nF w)))] sz [.ref xq, .int p0, .int p1]) (QWi D (S := (Nat → Nat) × Nat) [(xq, .inr (5, [.ref sq, .ref hq, .ref lq, .ref oq, .ref pq, .ref req])), (pq, .inr (4, [.ref lq, .ref oq, .ref wq, .int (nI h), .ref bq, .ref teq, .ref loq, .ref rq, .ref odq, .int (nI kn), .ref nwq, .ref nxq])), (wq, .inl (cI, 3, .inl (nF w)))] sz (fun r u => r = aWt w p0 p1 ∧ u.1 = uWt w p0 p1 ∧ (CIv u.1 slip kd num h u.2 od fch)) (fun u => [(xq, .inr (5, [.ref sq, .ref hq, .ref lq, .ref oq, .ref pq, .ref req])), (pq, .inr (4, [.ref lq, .ref oq, .ref wq, .int (nI h), .ref bq, .ref teq, .ref loq, .ref rq, .ref odq, .int (nI (u.2)), .ref nwq, .ref nxq])), (wq, .inl (cI, 3, .inl (nF u.1)))])) 0 0 (va_A [(xq, .inr (5, [.ref sq, .ref hq, .ref lq, .ref oq, .ref pq, .ref req])), (pq, .inr (4, [.ref lq, .ref oq, .ref wq, .int (nI h), .ref bq, .ref teq, .ref loq, .ref rq, .ref odq, .int (nI kn), .ref nwq, .ref nxq])), (wq, .inl (cI, 3, .inl (nF w)))] sz) := by
  refine met_X (cc := cX5_weight) (maxL := 4) (ret := (some .int)) (by decide) rfl (Nat.le_of_ble_eq_true rfl) ?_
  intro p e s m args below meth c Q ls A hQ hAe hAt hKB hP hD hA hl
  obtain ⟨hx, hb, hr, hml, hlk, hts, hown, hnm⟩ := hAt
  have hown : s.vm.findClass RX5 = some m.cls := hown
  have hS : va_S A s.heap s.heap [] := va_S.rf
  have hl : lv_has ls 4 [(0, .ref xq), (1, .int p0), (2, .int p1)] := hl
  have hiX5 : ∀ w ∈ u_ws RX5 TX5 6, w ∈ wsX5_weight := by decide +kernel
  have fl44 := hts (.fieldLink RX5 44 "TaughtTongues" "steps" "LTaughtTongues$Steps;") (by decide +kernel)
  have hiX4 : ∀ w ∈ u_ws RX4 TX4 12, w ∈ wsX5_weight := by decide +kernel
  refine lv_iload_n hx hb dX5_weight_0 rfl (lv_at hl 1 rfl) ?_
  have hPc := hP.sub (ws' := []) [] rfl
  refine r_calli hP hS (va_runS (As := [.int p0]) (rest := []) ⟨hx, hb, hml, hown, hts⟩ (m_X5_isMeaning l D cI cJ p0) (va_cwS 1 hts gX5_weight_X5_isMeaning rfl rfl rfl (by decide +kernel) ⟨Nat.le_of_ble_eq_true rfl, Nat.le_of_ble_eq_true rfl⟩) ⟨PR.blind, fun U hU hW => ⟨rfl, hKB.warm hW, by rw [hU]; exact hPc⟩⟩ rfl rfl hl.1 rfl (lv_room (Nat.le_of_ble_eq_true rfl)) dX5_weight_1 ⟨Nat.le_of_ble_eq_true rfl, Nat.le_of_ble_eq_true rfl⟩) (fun r1 H locs hw1 hP hS => ?_)
  have hw1 : r1 = bI (inR p0 0 2) := hw1
  subst hw1
  refine r_bif_ne (b := inR p0 0 2) (tgt := 9) hx hb dX5_weight_4 (by decide) (fun c4 => ?_) (fun c4 => ?_)
  · skip
    obtain ⟨M, -, hM, rfl⟩ := inR_t (by decide) (by decide) c4
    refine lv_iload_n hx hb dX5_weight_9 rfl (lv_at hl 2 rfl) ?_
    refine lv_iconst (v := nI (1)) hx hb dX5_weight_10 (by decide) ?_
    refine lv_iconst (v := nI (4)) hx hb dX5_weight_11 (by decide) ?_
    have hPc := hP.sub (ws' := []) [] rfl
    refine r_calli hP hS (va_runS (As := [.int p1, .int (nI 1), .int (nI 4)]) (rest := []) ⟨hx, hb, hml, hown, hts⟩ (m_X5_isBetween l D cI cJ p1 1 4) (va_cwS 3 hts gX5_weight_X5_isBetween rfl rfl rfl (by decide +kernel) ⟨Nat.le_of_ble_eq_true rfl, Nat.le_of_ble_eq_true rfl⟩) ⟨PR.blind, fun U hU hW => ⟨rfl, hKB.warm hW, by rw [hU]; exact hPc⟩⟩ rfl rfl hl.1 rfl (lv_room (Nat.le_of_ble_eq_true rfl)) dX5_weight_12 ⟨Nat.le_of_ble_eq_true rfl, Nat.le_of_ble_eq_true rfl⟩) (fun r2 H locs hw12 hP hS => ?_)
    have hw12 : r2 = bI (inR p1 1 4) := hw12
    subst hw12
    refine r_bif_ne (b := inR p1 1 4) (tgt := 21) hx hb dX5_weight_15 (by decide) (fun c15 => ?_) (fun c15 => ?_)
    · skip
      obtain ⟨V, hV1, hV, rfl⟩ := inR_t (by decide) (by decide) c15
      refine lv_aload_n hx hb dX5_weight_21 rfl (lv_at hl 0 rfl) ?_
      refine va_get (D := D) (ci := 5) (v := .ref pq) (C := RX5) (T := TX5) (N := 6) hx hb hts hiX5 hown hKB.1 hP 0 rfl rfl 4 (by decide) fl44 (fun _ h9 => h9) rfl dX5_weight_22 ?_
      refine va_getN (D := D) (ci := 4) (v := .ref wq) (C := RX4) (T := TX4) (N := 12) hx hb hts hiX4 hown hKB.1 hP 1 rfl rfl 2 (by decide) (hKB.2.f (q := ("TaughtTongues", 60, "TaughtTongues$Steps", "weights", "[I")) 4 rfl) (fun _ h9 => h9) rfl dX5_weight_25 ?_
      refine lv_iload_n hx hb dX5_weight_28 rfl (lv_at hl 1 rfl) ?_
      refine r_iald (i := M) (v := nI (w M)) hx hb hKB.1 hP 2 0 rfl rfl (by omega) (by decide) (rfl) dX5_weight_29 ?_
      refine lv_istore_n (lv' := [(3, .int (nI (w M))), (0, .ref xq), (1, .int (nI M)), (2, .int (nI V))]) hx hb dX5_weight_30 rfl hl (by decide) rfl (fun ls hl => ?_)
      refine lv_aload_n hx hb dX5_weight_31 rfl (lv_at hl 1 rfl) ?_
      refine va_get (D := D) (ci := 5) (v := .ref pq) (C := RX5) (T := TX5) (N := 6) hx hb hts hiX5 hown hKB.1 hP 0 rfl rfl 4 (by decide) fl44 (fun _ h9 => h9) rfl dX5_weight_32 ?_
      refine va_getN (D := D) (ci := 4) (v := .ref wq) (C := RX4) (T := TX4) (N := 12) hx hb hts hiX4 hown hKB.1 hP 1 rfl rfl 2 (by decide) (hKB.2.f (q := ("TaughtTongues", 60, "TaughtTongues$Steps", "weights", "[I")) 4 rfl) (fun _ h9 => h9) rfl dX5_weight_35 ?_
      refine lv_iload_n hx hb dX5_weight_38 rfl (lv_at hl 2 rfl) ?_
      refine lv_iload_n hx hb dX5_weight_39 rfl (lv_at hl 3 rfl) ?_
      refine r_iastN (i := M) hx hb hKB.1 hP hD hS 2 0 rfl rfl (by omega) (by decide) dX5_weight_40 (fun H locs hP hD hS => ?_)
      have hP : va_P D vwCl [(xq, .inr (5, [.ref sq, .ref hq, .ref lq, .ref oq, .ref pq, .ref req])), (pq, .inr (4, [.ref lq, .ref oq, .ref wq, .int (nI h), .ref bq, .ref teq, .ref loq, .ref rq, .ref odq, .int (nI kn), .ref nwq, .ref nxq])), (wq, .inl (cI, 3, .inl (nF (nu w M V))))] _ := hP
      have hD : va_D A [(xq, .inr (5, [.ref sq, .ref hq, .ref lq, .ref oq, .ref pq, .ref req])), (pq, .inr (4, [.ref lq, .ref oq, .ref wq, .int (nI h), .ref bq, .ref teq, .ref loq, .ref rq, .ref odq, .int (nI kn), .ref nwq, .ref nxq])), (wq, .inl (cI, 3, .inl (nF (nu w M V))))] := hD
      refine lv_aload_n hx hb dX5_weight_41 rfl (lv_at hl 1 rfl) ?_
      refine va_get (D := D) (ci := 5) (v := .ref pq) (C := RX5) (T := TX5) (N := 6) hx hb hts hiX5 hown hKB.1 hP 0 rfl rfl 4 (by decide) fl44 (fun _ h9 => h9) rfl dX5_weight_42 ?_
      refine lv_iconst (v := nI (0)) hx hb dX5_weight_45 (by decide) ?_
      refine va_putN (D := D) (ci := 4) (v := .int (nI 0)) (ty := .boolean) (C := RX4) (T := TX4) (N := 12) hx hb hts hiX4 tyX4 tyX4_ok nmX4 hown hKB.1 hP hD hS 1 rfl rfl 9 (by decide) (hKB.2.f (q := ("TaughtTongues", 63, "TaughtTongues$Steps", "known", "Z")) 5 rfl) (fun _ h9 => h9) rfl (by decide +kernel) rfl rfl (Nat.le_of_ble_eq_true rfl) dX5_weight_46 (fun H locs hP hD hS => ?_)
      have hP : va_P D vwCl [(xq, .inr (5, [.ref sq, .ref hq, .ref lq, .ref oq, .ref pq, .ref req])), (pq, .inr (4, [.ref lq, .ref oq, .ref wq, .int (nI h), .ref bq, .ref teq, .ref loq, .ref rq, .ref odq, .int (nI 0), .ref nwq, .ref nxq])), (wq, .inl (cI, 3, .inl (nF (nu w M V))))] _ := hP
      have hD : va_D A [(xq, .inr (5, [.ref sq, .ref hq, .ref lq, .ref oq, .ref pq, .ref req])), (pq, .inr (4, [.ref lq, .ref oq, .ref wq, .int (nI h), .ref bq, .ref teq, .ref loq, .ref rq, .ref odq, .int (nI 0), .ref nwq, .ref nxq])), (wq, .inl (cI, 3, .inl (nF (nu w M V))))] := hD
      refine lv_iload_n hx hb dX5_weight_49 rfl (lv_at hl 0 rfl) ?_
      exact w_iret hx hb hr hlk hQ hAe (nu w M V, 0) hP hD hS (by simp only [aWt, uWt, c4, c15, Bool.and_self, if_true, tN_n (show M < 2 ^ 31 by omega), tN_n (show V < 2 ^ 31 by omega)]; exact ⟨trivial, trivial, hCI.z⟩) dX5_weight_50
    refine lv_bipush (v := (-2)) hx hb dX5_weight_18 (by decide) ?_
    exact w_iret hx hb hr hlk hQ hAe (w, kn) hP hD hS (by simp [aWt, uWt, c4, c15, hCI]) dX5_weight_20
  refine lv_iconst (v := (-1)) hx hb dX5_weight_7 (by decide) ?_
  exact w_iret hx hb hr hlk hQ hAe (w, kn) hP hD hS (by simp [aWt, uWt, c4, hCI]) dX5_weight_8

set_option maxHeartbeats 4000000 in
set_option maxRecDepth 100000 in
theorem m_X5_set (l : Launch) (D : va_G) (cI cJ : ClassId) (sz : Nat) (xq : Nat) (sq : Nat) (hq : Nat) (lq : Nat) (oq : Nat) (pq : Nat) (req : Nat) (smq : Nat) (laq : Nat) (grq : Nat) (chq : Nat) (cq : Nat) (wq : Nat) (h : Nat) (bq : Nat) (teq : Nat) (loq : Nat) (rq : Nat) (odq : Nat) (kn : Nat) (nwq : Nat) (nxq : Nat) (fch : Nat → Int32) (nq : Nat) (slip : Nat) (kd : Nat) (w : Nat → Nat) (num : Nat → Nat) (od : Nat → Nat) (p0 : Int32) (p1 : Int32) (hCI : CIv w slip kd num h kn od fch) : Met l yX5_set wsX5_set ({ frames := 4, cells := 0, slots := 0, locals := 85 }) (PX D cI cJ [(xq, .inr (5, [.ref sq, .ref hq, .ref lq, .ref oq, .ref pq, .ref req])), (oq, .inr (2, [.ref lq, .ref smq, .ref laq, .ref grq, .ref chq, .ref cq])), (chq, .inl (cI, 210, .inl fch)), (pq, .inr (4, [.ref lq, .ref oq, .ref wq, .int (nI h), .ref bq, .ref teq, .ref loq, .ref rq, .ref odq, .int (nI kn), .ref nwq, .ref nxq])), (lq, .inr (1, [.ref nq, .int (nI slip), .int (nI kd)]))] sz [.ref xq, .int p0, .int p1]) (QWi D (S := Nat × Nat × Nat × Nat × (Nat → Int32)) [(xq, .inr (5, [.ref sq, .ref hq, .ref lq, .ref oq, .ref pq, .ref req])), (oq, .inr (2, [.ref lq, .ref smq, .ref laq, .ref grq, .ref chq, .ref cq])), (chq, .inl (cI, 210, .inl fch)), (pq, .inr (4, [.ref lq, .ref oq, .ref wq, .int (nI h), .ref bq, .ref teq, .ref loq, .ref rq, .ref odq, .int (nI kn), .ref nwq, .ref nxq])), (lq, .inr (1, [.ref nq, .int (nI slip), .int (nI kd)]))] sz (fun r u => r = aSet slip h kd p0 p1 ∧ u.1 = uSl slip p0 p1 ∧ u.2.1 = uHr h p0 p1 ∧ u.2.2.1 = uKd kd p0 p1 ∧ (CIv w u.1 u.2.2.1 num u.2.1 u.2.2.2.1 od u.2.2.2.2)) (fun u => [(xq, .inr (5, [.ref sq, .ref hq, .ref lq, .ref oq, .ref pq, .ref req])), (oq, .inr (2, [.ref lq, .ref smq, .ref laq, .ref grq, .ref chq, .ref cq])), (chq, .inl (cI, 210, .inl u.2.2.2.2)), (pq, .inr (4, [.ref lq, .ref oq, .ref wq, .int (nI (u.2.1)), .ref bq, .ref teq, .ref loq, .ref rq, .ref odq, .int (nI (u.2.2.2.1)), .ref nwq, .ref nxq])), (lq, .inr (1, [.ref nq, .int (nI (u.1)), .int (nI (u.2.2.1))]))])) 0 0 (va_A [(xq, .inr (5, [.ref sq, .ref hq, .ref lq, .ref oq, .ref pq, .ref req])), (oq, .inr (2, [.ref lq, .ref smq, .ref laq, .ref grq, .ref chq, .ref cq])), (chq, .inl (cI, 210, .inl fch)), (pq, .inr (4, [.ref lq, .ref oq, .ref wq, .int (nI h), .ref bq, .ref teq, .ref loq, .ref rq, .ref odq, .int (nI kn), .ref nwq, .ref nxq])), (lq, .inr (1, [.ref nq, .int (nI slip), .int (nI kd)]))] sz) := by
  refine met_X (cc := cX5_set) (maxL := 3) (ret := (some .int)) (by decide) rfl (Nat.le_of_ble_eq_true rfl) ?_
  intro p e s m args below meth c Q ls A hQ hAe hAt hKB hP hD hA hl
  obtain ⟨hx, hb, hr, hml, hlk, hts, hown, hnm⟩ := hAt
  have hown : s.vm.findClass RX5 = some m.cls := hown
  have hS : va_S A s.heap s.heap [] := va_S.rf
  have hl : lv_has ls 3 [(0, .ref xq), (1, .int p0), (2, .int p1)] := hl
  refine lv_iload_n hx hb dX5_set_0 rfl (lv_at hl 1 rfl) ?_
  by_cases sw0 : p0 = nI 0
  · subst sw0
    refine lv_tableIn (x := nI 0) (off := 27) (tgt := 28) hx hb dX5_set_1 (by decide) (by decide) (by decide) (by decide) ?_
    refine lv_iload_n hx hb dX5_set_28 rfl (lv_at hl 2 rfl) ?_
    refine lv_iconst (v := nI (0)) hx hb dX5_set_29 (by decide) ?_
    refine lv_iconst (v := nI (5)) hx hb dX5_set_30 (by decide) ?_
    have hPc := hP.sub (ws' := []) [] rfl
    refine r_calli hP hS (va_runS (As := [.int p1, .int (nI 0), .int (nI 5)]) (rest := []) ⟨hx, hb, hml, hown, hts⟩ (m_X5_isBetween l D cI cJ p1 0 5) (va_cwS 3 hts gX5_set_X5_isBetween rfl rfl rfl (by decide +kernel) ⟨Nat.le_of_ble_eq_true rfl, Nat.le_of_ble_eq_true rfl⟩) ⟨PR.blind, fun U hU hW => ⟨rfl, hKB.warm hW, by rw [hU]; exact hPc⟩⟩ rfl rfl hl.1 rfl (lv_room (Nat.le_of_ble_eq_true rfl)) dX5_set_31 ⟨Nat.le_of_ble_eq_true rfl, Nat.le_of_ble_eq_true rfl⟩) (fun r1 H locs hw31 hP hS => ?_)
    have hw31 : r1 = bI (inR p1 0 5) := hw31
    subst hw31
    refine r_bif_eq (b := inR p1 0 5) (tgt := 45) hx hb dX5_set_34 (by decide) (fun c34 => ?_) (fun c34 => ?_)
    · skip
      refine lv_bipush (v := (-2)) hx hb dX5_set_45 (by decide) ?_
      exact w_iret hx hb hr hlk hQ hAe (slip, h, kd, kn, fch) hP hD hS (set_0f c34 hCI) dX5_set_47
    obtain ⟨V, -, hV, rfl⟩ := inR_t (by decide) (by decide) c34
    refine lv_aload_n hx hb dX5_set_37 rfl (lv_at hl 0 rfl) ?_
    refine lv_iload_n hx hb dX5_set_38 rfl (lv_at hl 2 rfl) ?_
    have hPc := hP.sub (ws' := [(xq, .inr (5, [.ref sq, .ref hq, .ref lq, .ref oq, .ref pq, .ref req])), (oq, .inr (2, [.ref lq, .ref smq, .ref laq, .ref grq, .ref chq, .ref cq])), (chq, .inl (cI, 210, .inl fch)), (pq, .inr (4, [.ref lq, .ref oq, .ref wq, .int (nI h), .ref bq, .ref teq, .ref loq, .ref rq, .ref odq, .int (nI kn), .ref nwq, .ref nxq])), (lq, .inr (1, [.ref nq, .int (nI slip), .int (nI kd)]))]) [0, 1, 2, 3, 4] rfl
    have hDc := hD.sub (ws' := [(xq, .inr (5, [.ref sq, .ref hq, .ref lq, .ref oq, .ref pq, .ref req])), (oq, .inr (2, [.ref lq, .ref smq, .ref laq, .ref grq, .ref chq, .ref cq])), (chq, .inl (cI, 210, .inl fch)), (pq, .inr (4, [.ref lq, .ref oq, .ref wq, .int (nI h), .ref bq, .ref teq, .ref loq, .ref rq, .ref odq, .int (nI kn), .ref nwq, .ref nxq])), (lq, .inr (1, [.ref nq, .int (nI slip), .int (nI kd)]))]) [0, 1, 2, 3, 4] (by decide) rfl
    have hFc := va_free (wc := [(xq, .inr (5, [.ref sq, .ref hq, .ref lq, .ref oq, .ref pq, .ref req])), (oq, .inr (2, [.ref lq, .ref smq, .ref laq, .ref grq, .ref chq, .ref cq])), (chq, .inl (cI, 210, .inl fch)), (pq, .inr (4, [.ref lq, .ref oq, .ref wq, .int (nI h), .ref bq, .ref teq, .ref loq, .ref rq, .ref odq, .int (nI kn), .ref nwq, .ref nxq])), (lq, .inr (1, [.ref nq, .int (nI slip), .int (nI kd)]))]) hD hS hA [0, 1, 2, 3, 4] rfl
    refine w_calli (wc := [(xq, .inr (5, [.ref sq, .ref hq, .ref lq, .ref oq, .ref pq, .ref req])), (oq, .inr (2, [.ref lq, .ref smq, .ref laq, .ref grq, .ref chq, .ref cq])), (chq, .inl (cI, 210, .inl fch)), (pq, .inr (4, [.ref lq, .ref oq, .ref wq, .int (nI h), .ref bq, .ref teq, .ref loq, .ref rq, .ref odq, .int (nI kn), .ref nwq, .ref nxq])), (lq, .inr (1, [.ref nq, .int (nI slip), .int (nI kd)]))]) (wr := []) hP hD hS [0, 1, 2, 3, 4] [] rfl rfl (by decide) (by decide) hFc (va_runV (As := [.int (nI V)]) (rest := []) ⟨hx, hb, hml, hown, hts⟩ (m_X5_changeSlip l D cI cJ _ xq sq hq lq oq pq req smq laq grq chq cq wq h bq teq loq rq odq kn nwq nxq fch nq slip kd V) (cwV 1 hts gX5_set_X5_changeSlip rfl rfl rfl (by decide +kernel) ⟨Nat.le_of_ble_eq_true rfl, Nat.le_of_ble_eq_true rfl⟩) ⟨PX.blind, va_recv hKB.1 hP (ci := 5) (q0 := 0) rfl rfl, fun U hU hW => ⟨rfl, by rw [hU], hKB.warm hW, by rw [hU]; exact hPc, hDc.weaken (fun _ _ _ _ => trivial)⟩⟩ rfl rfl hl.1 rfl (lv_room (Nat.le_of_ble_eq_true rfl)) dX5_set_39 ⟨Nat.le_of_ble_eq_true rfl, Nat.le_of_ble_eq_true rfl⟩) (fun r2 u39 H locs hw39 hP hD hS => ?_)
    have hP : va_P D vwCl [(xq, .inr (5, [.ref sq, .ref hq, .ref lq, .ref oq, .ref pq, .ref req])), (oq, .inr (2, [.ref lq, .ref smq, .ref laq, .ref grq, .ref chq, .ref cq])), (chq, .inl (cI, 210, .inl (fun _ => -1))), (pq, .inr (4, [.ref lq, .ref oq, .ref wq, .int (nI h), .ref bq, .ref teq, .ref loq, .ref rq, .ref odq, .int (nI 0), .ref nwq, .ref nxq])), (lq, .inr (1, [.ref nq, .int (nI V), .int (nI kd)]))] _ := hP
    have hD : va_D A [(xq, .inr (5, [.ref sq, .ref hq, .ref lq, .ref oq, .ref pq, .ref req])), (oq, .inr (2, [.ref lq, .ref smq, .ref laq, .ref grq, .ref chq, .ref cq])), (chq, .inl (cI, 210, .inl (fun _ => -1))), (pq, .inr (4, [.ref lq, .ref oq, .ref wq, .int (nI h), .ref bq, .ref teq, .ref loq, .ref rq, .ref odq, .int (nI 0), .ref nwq, .ref nxq])), (lq, .inr (1, [.ref nq, .int (nI V), .int (nI kd)]))] := hD
    have hw39 : r2 = nI (slip) := hw39
    subst hw39
    refine lv_goto (tgt := 47) hx hb dX5_set_42 (by decide) ?_
    exact w_iret hx hb hr hlk hQ hAe (V, h, kd, 0, fun _ => -1) hP hD hS (set_0 c34 (by omega) CIv.r) dX5_set_47
  by_cases sw1 : p0 = nI 1
  · subst sw1
    refine lv_tableIn (x := nI 1) (off := 47) (tgt := 48) hx hb dX5_set_1 (by decide) (by decide) (by decide) (by decide) ?_
    refine lv_iload_n hx hb dX5_set_48 rfl (lv_at hl 2 rfl) ?_
    refine lv_iconst (v := nI (1)) hx hb dX5_set_49 (by decide) ?_
    refine lv_iconst (v := nI (4)) hx hb dX5_set_50 (by decide) ?_
    have hPc := hP.sub (ws' := []) [] rfl
    refine r_calli hP hS (va_runS (As := [.int p1, .int (nI 1), .int (nI 4)]) (rest := []) ⟨hx, hb, hml, hown, hts⟩ (m_X5_isBetween l D cI cJ p1 1 4) (va_cwS 3 hts gX5_set_X5_isBetween rfl rfl rfl (by decide +kernel) ⟨Nat.le_of_ble_eq_true rfl, Nat.le_of_ble_eq_true rfl⟩) ⟨PR.blind, fun U hU hW => ⟨rfl, hKB.warm hW, by rw [hU]; exact hPc⟩⟩ rfl rfl hl.1 rfl (lv_room (Nat.le_of_ble_eq_true rfl)) dX5_set_51 ⟨Nat.le_of_ble_eq_true rfl, Nat.le_of_ble_eq_true rfl⟩) (fun r3 H locs hw51 hP hS => ?_)
    have hw51 : r3 = bI (inR p1 1 4) := hw51
    subst hw51
    refine r_bif_eq (b := inR p1 1 4) (tgt := 65) hx hb dX5_set_54 (by decide) (fun c54 => ?_) (fun c54 => ?_)
    · skip
      refine lv_bipush (v := (-2)) hx hb dX5_set_65 (by decide) ?_
      exact w_iret hx hb hr hlk hQ hAe (slip, h, kd, kn, fch) hP hD hS (set_1f c54 hCI) dX5_set_67
    obtain ⟨V, -, hV, rfl⟩ := inR_t (by decide) (by decide) c54
    refine lv_aload_n hx hb dX5_set_57 rfl (lv_at hl 0 rfl) ?_
    refine lv_iload_n hx hb dX5_set_58 rfl (lv_at hl 2 rfl) ?_
    have hPc := hP.sub (ws' := [(xq, .inr (5, [.ref sq, .ref hq, .ref lq, .ref oq, .ref pq, .ref req])), (pq, .inr (4, [.ref lq, .ref oq, .ref wq, .int (nI h), .ref bq, .ref teq, .ref loq, .ref rq, .ref odq, .int (nI kn), .ref nwq, .ref nxq]))]) [0, 3] rfl
    have hDc := hD.sub (ws' := [(xq, .inr (5, [.ref sq, .ref hq, .ref lq, .ref oq, .ref pq, .ref req])), (pq, .inr (4, [.ref lq, .ref oq, .ref wq, .int (nI h), .ref bq, .ref teq, .ref loq, .ref rq, .ref odq, .int (nI kn), .ref nwq, .ref nxq]))]) [0, 3] (by decide) rfl
    have hFc := va_free (wc := [(xq, .inr (5, [.ref sq, .ref hq, .ref lq, .ref oq, .ref pq, .ref req])), (pq, .inr (4, [.ref lq, .ref oq, .ref wq, .int (nI h), .ref bq, .ref teq, .ref loq, .ref rq, .ref odq, .int (nI kn), .ref nwq, .ref nxq]))]) hD hS hA [0, 3] rfl
    refine w_calli (wc := [(xq, .inr (5, [.ref sq, .ref hq, .ref lq, .ref oq, .ref pq, .ref req])), (pq, .inr (4, [.ref lq, .ref oq, .ref wq, .int (nI h), .ref bq, .ref teq, .ref loq, .ref rq, .ref odq, .int (nI kn), .ref nwq, .ref nxq]))]) (wr := [(oq, .inr (2, [.ref lq, .ref smq, .ref laq, .ref grq, .ref chq, .ref cq])), (chq, .inl (cI, 210, .inl fch)), (lq, .inr (1, [.ref nq, .int (nI slip), .int (nI kd)]))]) hP hD hS [0, 3] [1, 2, 4] rfl rfl (by decide) (by decide) hFc (va_runV (As := [.int (nI V)]) (rest := []) ⟨hx, hb, hml, hown, hts⟩ (m_X5_changeHears l D cI cJ _ xq sq hq lq oq pq req wq h bq teq loq rq odq kn nwq nxq V) (cwV 1 hts gX5_set_X5_changeHears rfl rfl rfl (by decide +kernel) ⟨Nat.le_of_ble_eq_true rfl, Nat.le_of_ble_eq_true rfl⟩) ⟨PX.blind, va_recv hKB.1 hP (ci := 5) (q0 := 0) rfl rfl, fun U hU hW => ⟨rfl, by rw [hU], hKB.warm hW, by rw [hU]; exact hPc, hDc.weaken (fun _ _ _ _ => trivial)⟩⟩ rfl rfl hl.1 rfl (lv_room (Nat.le_of_ble_eq_true rfl)) dX5_set_59 ⟨Nat.le_of_ble_eq_true rfl, Nat.le_of_ble_eq_true rfl⟩) (fun r4 u59 H locs hw59 hP hD hS => ?_)
    have hP : va_P D vwCl [(oq, .inr (2, [.ref lq, .ref smq, .ref laq, .ref grq, .ref chq, .ref cq])), (chq, .inl (cI, 210, .inl fch)), (lq, .inr (1, [.ref nq, .int (nI slip), .int (nI kd)])), (xq, .inr (5, [.ref sq, .ref hq, .ref lq, .ref oq, .ref pq, .ref req])), (pq, .inr (4, [.ref lq, .ref oq, .ref wq, .int (nI V), .ref bq, .ref teq, .ref loq, .ref rq, .ref odq, .int (nI 0), .ref nwq, .ref nxq]))] _ := hP
    have hD : va_D A [(oq, .inr (2, [.ref lq, .ref smq, .ref laq, .ref grq, .ref chq, .ref cq])), (chq, .inl (cI, 210, .inl fch)), (lq, .inr (1, [.ref nq, .int (nI slip), .int (nI kd)])), (xq, .inr (5, [.ref sq, .ref hq, .ref lq, .ref oq, .ref pq, .ref req])), (pq, .inr (4, [.ref lq, .ref oq, .ref wq, .int (nI V), .ref bq, .ref teq, .ref loq, .ref rq, .ref odq, .int (nI 0), .ref nwq, .ref nxq]))] := hD
    have hw59 : r4 = nI (h) := hw59
    subst hw59
    refine lv_goto (tgt := 67) hx hb dX5_set_62 (by decide) ?_
    exact w_iret hx hb hr hlk hQ hAe (slip, V, kd, 0, fch) (hP.sub [3, 0, 1, 4, 2] rfl) (hD.sub [3, 0, 1, 4, 2] (by decide) rfl) hS (set_1 c54 (by omega) hCI.z) dX5_set_67
  by_cases sw2 : p0 = nI 2
  · subst sw2
    refine lv_tableIn (x := nI 2) (off := 67) (tgt := 68) hx hb dX5_set_1 (by decide) (by decide) (by decide) (by decide) ?_
    refine lv_iload_n hx hb dX5_set_68 rfl (lv_at hl 2 rfl) ?_
    refine lv_iconst (v := nI (0)) hx hb dX5_set_69 (by decide) ?_
    refine lv_iconst (v := nI (2)) hx hb dX5_set_70 (by decide) ?_
    have hPc := hP.sub (ws' := []) [] rfl
    refine r_calli hP hS (va_runS (As := [.int p1, .int (nI 0), .int (nI 2)]) (rest := []) ⟨hx, hb, hml, hown, hts⟩ (m_X5_isBetween l D cI cJ p1 0 2) (va_cwS 3 hts gX5_set_X5_isBetween rfl rfl rfl (by decide +kernel) ⟨Nat.le_of_ble_eq_true rfl, Nat.le_of_ble_eq_true rfl⟩) ⟨PR.blind, fun U hU hW => ⟨rfl, hKB.warm hW, by rw [hU]; exact hPc⟩⟩ rfl rfl hl.1 rfl (lv_room (Nat.le_of_ble_eq_true rfl)) dX5_set_71 ⟨Nat.le_of_ble_eq_true rfl, Nat.le_of_ble_eq_true rfl⟩) (fun r5 H locs hw71 hP hS => ?_)
    have hw71 : r5 = bI (inR p1 0 2) := hw71
    subst hw71
    refine r_bif_eq (b := inR p1 0 2) (tgt := 85) hx hb dX5_set_74 (by decide) (fun c74 => ?_) (fun c74 => ?_)
    · skip
      refine lv_bipush (v := (-2)) hx hb dX5_set_85 (by decide) ?_
      exact w_iret hx hb hr hlk hQ hAe (slip, h, kd, kn, fch) hP hD hS (set_2f c74 hCI) dX5_set_87
    obtain ⟨V, -, hV, rfl⟩ := inR_t (by decide) (by decide) c74
    refine lv_aload_n hx hb dX5_set_77 rfl (lv_at hl 0 rfl) ?_
    refine lv_iload_n hx hb dX5_set_78 rfl (lv_at hl 2 rfl) ?_
    have hPc := hP.sub (ws' := [(xq, .inr (5, [.ref sq, .ref hq, .ref lq, .ref oq, .ref pq, .ref req])), (oq, .inr (2, [.ref lq, .ref smq, .ref laq, .ref grq, .ref chq, .ref cq])), (chq, .inl (cI, 210, .inl fch)), (pq, .inr (4, [.ref lq, .ref oq, .ref wq, .int (nI h), .ref bq, .ref teq, .ref loq, .ref rq, .ref odq, .int (nI kn), .ref nwq, .ref nxq])), (lq, .inr (1, [.ref nq, .int (nI slip), .int (nI kd)]))]) [0, 1, 2, 3, 4] rfl
    have hDc := hD.sub (ws' := [(xq, .inr (5, [.ref sq, .ref hq, .ref lq, .ref oq, .ref pq, .ref req])), (oq, .inr (2, [.ref lq, .ref smq, .ref laq, .ref grq, .ref chq, .ref cq])), (chq, .inl (cI, 210, .inl fch)), (pq, .inr (4, [.ref lq, .ref oq, .ref wq, .int (nI h), .ref bq, .ref teq, .ref loq, .ref rq, .ref odq, .int (nI kn), .ref nwq, .ref nxq])), (lq, .inr (1, [.ref nq, .int (nI slip), .int (nI kd)]))]) [0, 1, 2, 3, 4] (by decide) rfl
    have hFc := va_free (wc := [(xq, .inr (5, [.ref sq, .ref hq, .ref lq, .ref oq, .ref pq, .ref req])), (oq, .inr (2, [.ref lq, .ref smq, .ref laq, .ref grq, .ref chq, .ref cq])), (chq, .inl (cI, 210, .inl fch)), (pq, .inr (4, [.ref lq, .ref oq, .ref wq, .int (nI h), .ref bq, .ref teq, .ref loq, .ref rq, .ref odq, .int (nI kn), .ref nwq, .ref nxq])), (lq, .inr (1, [.ref nq, .int (nI slip), .int (nI kd)]))]) hD hS hA [0, 1, 2, 3, 4] rfl
    refine w_calli (wc := [(xq, .inr (5, [.ref sq, .ref hq, .ref lq, .ref oq, .ref pq, .ref req])), (oq, .inr (2, [.ref lq, .ref smq, .ref laq, .ref grq, .ref chq, .ref cq])), (chq, .inl (cI, 210, .inl fch)), (pq, .inr (4, [.ref lq, .ref oq, .ref wq, .int (nI h), .ref bq, .ref teq, .ref loq, .ref rq, .ref odq, .int (nI kn), .ref nwq, .ref nxq])), (lq, .inr (1, [.ref nq, .int (nI slip), .int (nI kd)]))]) (wr := []) hP hD hS [0, 1, 2, 3, 4] [] rfl rfl (by decide) (by decide) hFc (va_runV (As := [.int (nI V)]) (rest := []) ⟨hx, hb, hml, hown, hts⟩ (m_X5_changeLearner l D cI cJ _ xq sq hq lq oq pq req smq laq grq chq cq wq h bq teq loq rq odq kn nwq nxq fch nq slip kd V) (cwV 1 hts gX5_set_X5_changeLearner rfl rfl rfl (by decide +kernel) ⟨Nat.le_of_ble_eq_true rfl, Nat.le_of_ble_eq_true rfl⟩) ⟨PX.blind, va_recv hKB.1 hP (ci := 5) (q0 := 0) rfl rfl, fun U hU hW => ⟨rfl, by rw [hU], hKB.warm hW, by rw [hU]; exact hPc, hDc.weaken (fun _ _ _ _ => trivial)⟩⟩ rfl rfl hl.1 rfl (lv_room (Nat.le_of_ble_eq_true rfl)) dX5_set_79 ⟨Nat.le_of_ble_eq_true rfl, Nat.le_of_ble_eq_true rfl⟩) (fun r6 u79 H locs hw79 hP hD hS => ?_)
    have hP : va_P D vwCl [(xq, .inr (5, [.ref sq, .ref hq, .ref lq, .ref oq, .ref pq, .ref req])), (oq, .inr (2, [.ref lq, .ref smq, .ref laq, .ref grq, .ref chq, .ref cq])), (chq, .inl (cI, 210, .inl (fun _ => -1))), (pq, .inr (4, [.ref lq, .ref oq, .ref wq, .int (nI h), .ref bq, .ref teq, .ref loq, .ref rq, .ref odq, .int (nI 0), .ref nwq, .ref nxq])), (lq, .inr (1, [.ref nq, .int (nI slip), .int (nI V)]))] _ := hP
    have hD : va_D A [(xq, .inr (5, [.ref sq, .ref hq, .ref lq, .ref oq, .ref pq, .ref req])), (oq, .inr (2, [.ref lq, .ref smq, .ref laq, .ref grq, .ref chq, .ref cq])), (chq, .inl (cI, 210, .inl (fun _ => -1))), (pq, .inr (4, [.ref lq, .ref oq, .ref wq, .int (nI h), .ref bq, .ref teq, .ref loq, .ref rq, .ref odq, .int (nI 0), .ref nwq, .ref nxq])), (lq, .inr (1, [.ref nq, .int (nI slip), .int (nI V)]))] := hD
    have hw79 : r6 = nI (kd) := hw79
    subst hw79
    refine lv_goto (tgt := 87) hx hb dX5_set_82 (by decide) ?_
    exact w_iret hx hb hr hlk hQ hAe (slip, h, V, 0, fun _ => -1) hP hD hS (set_2 c74 (by omega) CIv.r) dX5_set_87
  refine lv_tableOut (x := p0) (tgt := 88) hx hb dX5_set_1 (sw_out (N := 2) (fun j hj => by rcases (show j = 0 ∨ j = 1 ∨ j = 2 by omega) with rfl | rfl | rfl <;> assumption)) (by decide) ?_
  refine lv_bipush (v := (-2)) hx hb dX5_set_88 (by decide) ?_
  exact w_iret hx hb hr hlk hQ hAe (slip, h, kd, kn, fch) hP hD hS (set_o sw0 sw1 sw2 hCI) dX5_set_90

set_option maxHeartbeats 4000000 in
set_option maxRecDepth 100000 in
theorem m_X5_say (l : Launch) (D : va_G) (cI cJ : ClassId) (sz : Nat) (xq : Nat) (sq : Nat) (hq : Nat) (lq : Nat) (oq : Nat) (pq : Nat) (req : Nat) (qc : Nat) (cnt : Nat) (cd : Nat → Nat) (p0 : Int32) (hcnt : cnt ≤ 40) : Met l yX5_say wsX5_say ({ frames := 1, cells := 0, slots := 0, locals := 22 }) (PX D cI cJ [(xq, .inr (5, [.ref sq, .ref hq, .ref lq, .ref oq, .ref pq, .ref req])), (sq, .inr (3, [.ref qc, .int (nI cnt)])), (qc, .inl (cI, 40, .inl (nF cd)))] sz [.ref xq, .int p0]) (QWi D (S := (Nat → Nat) × Nat) [(xq, .inr (5, [.ref sq, .ref hq, .ref lq, .ref oq, .ref pq, .ref req])), (sq, .inr (3, [.ref qc, .int (nI cnt)])), (qc, .inl (cI, 40, .inl (nF cd)))] sz (fun r u => r = aSay cnt p0 ∧ u.1 = uSC cd cnt p0 ∧ u.2 = uSN cnt p0) (fun u => [(xq, .inr (5, [.ref sq, .ref hq, .ref lq, .ref oq, .ref pq, .ref req])), (sq, .inr (3, [.ref qc, .int (nI (u.2))])), (qc, .inl (cI, 40, .inl (nF u.1)))])) 0 0 (va_A [(xq, .inr (5, [.ref sq, .ref hq, .ref lq, .ref oq, .ref pq, .ref req])), (sq, .inr (3, [.ref qc, .int (nI cnt)])), (qc, .inl (cI, 40, .inl (nF cd)))] sz) := by
  refine met_X (cc := cX5_say) (maxL := 2) (ret := (some .int)) (by decide) rfl (Nat.le_of_ble_eq_true rfl) ?_
  intro p e s m args below meth c Q ls A hQ hAe hAt hKB hP hD hA hl
  obtain ⟨hx, hb, hr, hml, hlk, hts, hown, hnm⟩ := hAt
  have hown : s.vm.findClass RX5 = some m.cls := hown
  have hS : va_S A s.heap s.heap [] := va_S.rf
  have hl : lv_has ls 2 [(0, .ref xq), (1, .int p0)] := hl
  have hiX5 : ∀ w ∈ u_ws RX5 TX5 6, w ∈ wsX5_say := by decide +kernel
  have fl10 := hts (.fieldLink RX5 10 "TaughtTongues" "signs" "LTaughtTongues$Signs;") (by decide +kernel)
  have hiX3 : ∀ w ∈ u_ws RX3 TX3 2, w ∈ wsX5_say := by decide +kernel
  refine lv_iload_n hx hb dX5_say_0 rfl (lv_at hl 1 rfl) ?_
  refine lv_bipush (v := nI (33)) hx hb dX5_say_1 (by decide) ?_
  refine lv_bipush (v := nI (126)) hx hb dX5_say_3 (by decide) ?_
  have hPc := hP.sub (ws' := []) [] rfl
  refine r_calli hP hS (va_runS (As := [.int p0, .int (nI 33), .int (nI 126)]) (rest := []) ⟨hx, hb, hml, hown, hts⟩ (m_X5_isBetween l D cI cJ p0 33 126) (va_cwS 3 hts gX5_say_X5_isBetween rfl rfl rfl (by decide +kernel) ⟨Nat.le_of_ble_eq_true rfl, Nat.le_of_ble_eq_true rfl⟩) ⟨PR.blind, fun U hU hW => ⟨rfl, hKB.warm hW, by rw [hU]; exact hPc⟩⟩ rfl rfl hl.1 rfl (lv_room (Nat.le_of_ble_eq_true rfl)) dX5_say_5 ⟨Nat.le_of_ble_eq_true rfl, Nat.le_of_ble_eq_true rfl⟩) (fun r1 H locs hw5 hP hS => ?_)
  have hw5 : r1 = bI (inR p0 33 126) := hw5
  subst hw5
  refine r_bif_ne (b := inR p0 33 126) (tgt := 14) hx hb dX5_say_8 (by decide) (fun c8 => ?_) (fun c8 => ?_)
  · skip
    obtain ⟨V, hV1, hV, rfl⟩ := inR_t (by decide) (by decide) c8
    refine lv_aload_n hx hb dX5_say_14 rfl (lv_at hl 0 rfl) ?_
    refine va_get (D := D) (ci := 5) (v := .ref sq) (C := RX5) (T := TX5) (N := 6) hx hb hts hiX5 hown hKB.1 hP 0 rfl rfl 0 (by decide) fl10 (fun _ h9 => h9) rfl dX5_say_15 ?_
    refine lv_iload_n hx hb dX5_say_18 rfl (lv_at hl 1 rfl) ?_
    have hPc := hP.sub (ws' := [(sq, .inr (3, [.ref qc, .int (nI cnt)])), (qc, .inl (cI, 40, .inl (nF cd)))]) [1, 2] rfl
    have hDc := hD.sub (ws' := [(sq, .inr (3, [.ref qc, .int (nI cnt)])), (qc, .inl (cI, 40, .inl (nF cd)))]) [1, 2] (by decide) rfl
    have hFc := va_free (wc := [(sq, .inr (3, [.ref qc, .int (nI cnt)])), (qc, .inl (cI, 40, .inl (nF cd)))]) hD hS hA [1, 2] rfl
    refine w_calli (wc := [(sq, .inr (3, [.ref qc, .int (nI cnt)])), (qc, .inl (cI, 40, .inl (nF cd)))]) (wr := [(xq, .inr (5, [.ref sq, .ref hq, .ref lq, .ref oq, .ref pq, .ref req]))]) hP hD hS [1, 2] [0] rfl rfl (by decide) (by decide) hFc (va_runV (As := [.int (nI V)]) (rest := []) ⟨hx, hb, hml, hown, hts⟩ (m_X3_add l D cI cJ _ sq qc cnt cd V (by omega)) (cwV 1 hts gX5_say_X3_add rfl rfl rfl (by decide +kernel) ⟨Nat.le_of_ble_eq_true rfl, Nat.le_of_ble_eq_true rfl⟩) ⟨PX.blind, va_recv hKB.1 hP (ci := 3) (q0 := 1) rfl rfl, fun U hU hW => ⟨rfl, by rw [hU], hKB.warm hW, by rw [hU]; exact hPc, hDc.weaken (fun _ _ _ _ => trivial)⟩⟩ rfl rfl hl.1 rfl (lv_room (Nat.le_of_ble_eq_true rfl)) dX5_say_19 ⟨Nat.le_of_ble_eq_true rfl, Nat.le_of_ble_eq_true rfl⟩) (fun r2 u19 H locs hw19 hP hD hS => ?_)
    obtain ⟨cd2_19, cnt2_19⟩ := u19
    have hP : va_P D vwCl [(xq, .inr (5, [.ref sq, .ref hq, .ref lq, .ref oq, .ref pq, .ref req])), (sq, .inr (3, [.ref qc, .int (nI cnt2_19)])), (qc, .inl (cI, 40, .inl (nF cd2_19)))] _ := hP
    have hD : va_D A [(xq, .inr (5, [.ref sq, .ref hq, .ref lq, .ref oq, .ref pq, .ref req])), (sq, .inr (3, [.ref qc, .int (nI cnt2_19)])), (qc, .inl (cI, 40, .inl (nF cd2_19)))] := hD
    have hw19 : r2 = bI (decide (cnt < 40)) ∧ cd2_19 = addC cd cnt V ∧ cnt2_19 = addN cnt := hw19
    obtain ⟨hw19, ecd2_19, ecnt2_19⟩ := hw19
    subst hw19
    subst ecd2_19
    subst ecnt2_19
    have hP : va_P D vwCl [(xq, .inr (5, [.ref sq, .ref hq, .ref lq, .ref oq, .ref pq, .ref req])), (sq, .inr (3, [.ref qc, .int (nI ((addN cnt)))])), (qc, .inl (cI, 40, .inl (nF (addC cd cnt V))))] _ := hP
    have hD : va_D A [(xq, .inr (5, [.ref sq, .ref hq, .ref lq, .ref oq, .ref pq, .ref req])), (sq, .inr (3, [.ref qc, .int (nI ((addN cnt)))])), (qc, .inl (cI, 40, .inl (nF (addC cd cnt V))))] := hD
    refine r_bif_eq (b := decide (cnt < 40)) (tgt := 35) hx hb dX5_say_22 (by decide) (fun c22 => ?_) (fun c22 => ?_)
    · skip
      refine lv_bipush (v := (-4)) hx hb dX5_say_35 (by decide) ?_
      exact w_iret hx hb hr hlk hQ hAe (addC cd cnt V, (addN cnt)) hP hD hS (by first | (have c22 := of_decide_eq_true c22; simp only [aSay, uSC, uSN, c8, if_true, tN_n (show V < 2 ^ 31 by omega), addN, if_pos c22]; exact ⟨trivial, trivial, trivial⟩) | (have c22 := of_decide_eq_false c22; simp only [aSay, uSC, uSN, c8, if_true, tN_n (show V < 2 ^ 31 by omega), if_neg c22]; exact ⟨trivial, trivial, trivial⟩)) dX5_say_37
    refine lv_aload_n hx hb dX5_say_25 rfl (lv_at hl 0 rfl) ?_
    refine va_get (D := D) (ci := 5) (v := .ref sq) (C := RX5) (T := TX5) (N := 6) hx hb hts hiX5 hown hKB.1 hP 0 rfl rfl 0 (by decide) fl10 (fun _ h9 => h9) rfl dX5_say_26 ?_
    refine va_getN (D := D) (ci := 3) (v := .int (nI ((addN cnt)))) (C := RX3) (T := TX3) (N := 2) hx hb hts hiX3 hown hKB.1 hP 1 rfl rfl 1 (by decide) (hKB.2.f (q := ("TaughtTongues", 80, "TaughtTongues$Signs", "count", "I")) 6 rfl) (fun _ h9 => h9) rfl dX5_say_29 ?_
    refine lv_goto (tgt := 37) hx hb dX5_say_32 (by decide) ?_
    exact w_iret hx hb hr hlk hQ hAe (addC cd cnt V, (addN cnt)) hP hD hS (by first | (have c22 := of_decide_eq_true c22; simp only [aSay, uSC, uSN, c8, if_true, tN_n (show V < 2 ^ 31 by omega), addN, if_pos c22]; exact ⟨trivial, trivial, trivial⟩) | (have c22 := of_decide_eq_false c22; simp only [aSay, uSC, uSN, c8, if_true, tN_n (show V < 2 ^ 31 by omega), if_neg c22]; exact ⟨trivial, trivial, trivial⟩)) dX5_say_37
  refine lv_bipush (v := (-2)) hx hb dX5_say_11 (by decide) ?_
  exact w_iret hx hb hr hlk hQ hAe (cd, cnt) hP hD hS (by simp [aSay, uSC, uSN, c8]) dX5_say_13

set_option maxHeartbeats 4000000 in
set_option maxRecDepth 100000 in
theorem m_X5_wipe (l : Launch) (D : va_G) (cI cJ : ClassId) (sz : Nat) (xq : Nat) (sq : Nat) (hq : Nat) (lq : Nat) (oq : Nat) (pq : Nat) (req : Nat) (qc : Nat) (cnt : Nat) : Met l yX5_wipe wsX5_wipe ({ frames := 1, cells := 0, slots := 0, locals := 21 }) (PX D cI cJ [(xq, .inr (5, [.ref sq, .ref hq, .ref lq, .ref oq, .ref pq, .ref req])), (sq, .inr (3, [.ref qc, .int (nI cnt)]))] sz [.ref xq]) (QWi D (S := Unit) [(xq, .inr (5, [.ref sq, .ref hq, .ref lq, .ref oq, .ref pq, .ref req])), (sq, .inr (3, [.ref qc, .int (nI cnt)]))] sz (fun r _ => r = nI (cnt)) (fun _ => [(xq, .inr (5, [.ref sq, .ref hq, .ref lq, .ref oq, .ref pq, .ref req])), (sq, .inr (3, [.ref qc, .int (nI 0)]))])) 0 0 (va_A [(xq, .inr (5, [.ref sq, .ref hq, .ref lq, .ref oq, .ref pq, .ref req])), (sq, .inr (3, [.ref qc, .int (nI cnt)]))] sz) := by
  refine met_X (cc := cX5_wipe) (maxL := 1) (ret := (some .int)) (by decide) rfl (Nat.le_of_ble_eq_true rfl) ?_
  intro p e s m args below meth c Q ls A hQ hAe hAt hKB hP hD hA hl
  obtain ⟨hx, hb, hr, hml, hlk, hts, hown, hnm⟩ := hAt
  have hown : s.vm.findClass RX5 = some m.cls := hown
  have hS : va_S A s.heap s.heap [] := va_S.rf
  have hl : lv_has ls 1 [(0, .ref xq)] := hl
  have hiX5 : ∀ w ∈ u_ws RX5 TX5 6, w ∈ wsX5_wipe := by decide +kernel
  have fl10 := hts (.fieldLink RX5 10 "TaughtTongues" "signs" "LTaughtTongues$Signs;") (by decide +kernel)
  refine lv_aload_n hx hb dX5_wipe_0 rfl (lv_at hl 0 rfl) ?_
  refine va_get (D := D) (ci := 5) (v := .ref sq) (C := RX5) (T := TX5) (N := 6) hx hb hts hiX5 hown hKB.1 hP 0 rfl rfl 0 (by decide) fl10 (fun _ h9 => h9) rfl dX5_wipe_1 ?_
  have hPc := hP.sub (ws' := [(sq, .inr (3, [.ref qc, .int (nI cnt)]))]) [1] rfl
  have hDc := hD.sub (ws' := [(sq, .inr (3, [.ref qc, .int (nI cnt)]))]) [1] (by decide) rfl
  have hFc := va_free (wc := [(sq, .inr (3, [.ref qc, .int (nI cnt)]))]) hD hS hA [1] rfl
  refine w_calli (wc := [(sq, .inr (3, [.ref qc, .int (nI cnt)]))]) (wr := [(xq, .inr (5, [.ref sq, .ref hq, .ref lq, .ref oq, .ref pq, .ref req]))]) hP hD hS [1] [0] rfl rfl (by decide) (by decide) hFc (va_runV (As := []) (rest := []) ⟨hx, hb, hml, hown, hts⟩ (m_X3_clear l D cI cJ _ sq qc cnt) (cwV 0 hts gX5_wipe_X3_clear rfl rfl rfl (by decide +kernel) ⟨Nat.le_of_ble_eq_true rfl, Nat.le_of_ble_eq_true rfl⟩) ⟨PX.blind, va_recv hKB.1 hP (ci := 3) (q0 := 1) rfl rfl, fun U hU hW => ⟨rfl, by rw [hU], hKB.warm hW, by rw [hU]; exact hPc, hDc.weaken (fun _ _ _ _ => trivial)⟩⟩ rfl rfl hl.1 rfl (lv_room (Nat.le_of_ble_eq_true rfl)) dX5_wipe_4 ⟨Nat.le_of_ble_eq_true rfl, Nat.le_of_ble_eq_true rfl⟩) (fun r1 u4 H locs hw4 hP hD hS => ?_)
  have hP : va_P D vwCl [(xq, .inr (5, [.ref sq, .ref hq, .ref lq, .ref oq, .ref pq, .ref req])), (sq, .inr (3, [.ref qc, .int (nI 0)]))] _ := hP
  have hD : va_D A [(xq, .inr (5, [.ref sq, .ref hq, .ref lq, .ref oq, .ref pq, .ref req])), (sq, .inr (3, [.ref qc, .int (nI 0)]))] := hD
  have hw4 : r1 = nI (cnt) := hw4
  subst hw4
  exact w_iret hx hb hr hlk hQ hAe () hP hD hS (rfl) dX5_wipe_7

set_option maxHeartbeats 4000000 in
set_option maxRecDepth 100000 in
theorem m_X5_fault (l : Launch) (D : va_G) (cI cJ : ClassId) (xq : Nat) (sq : Nat) (hq : Nat) (lq : Nat) (oq : Nat) (pq : Nat) (req : Nat) (qc : Nat) (cnt : Nat) (cd : Nat → Nat) (hcnt : cnt ≤ 40) (hcd : ∀ j, cd j < 127) : Met l yX5_fault wsX5_fault ({ frames := 2, cells := 0, slots := 0, locals := 42 }) (PR D cI cJ [(xq, .inr (5, [.ref sq, .ref hq, .ref lq, .ref oq, .ref pq, .ref req])), (sq, .inr (3, [.ref qc, .int (nI cnt)])), (qc, .inl (cI, 40, .inl (nF cd)))] [.ref xq]) (QRi (fun r => r = ffI cd cnt)) 0 0 NA := by
  refine met_R (cc := cX5_fault) (maxL := 1) (ret := (some .int)) (by decide) rfl (Nat.le_of_ble_eq_true rfl) ?_
  intro p e s m args below meth c Q ls hQ hAt hKB hP hl
  obtain ⟨hx, hb, hr, hml, hlk, hts, hown, hnm⟩ := hAt
  have hown : s.vm.findClass RX5 = some m.cls := hown
  have hS : va_S NA s.heap s.heap [] := va_S.rf
  have hl : lv_has ls 1 [(0, .ref xq)] := hl
  have hiX5 : ∀ w ∈ u_ws RX5 TX5 6, w ∈ wsX5_fault := by decide +kernel
  have fl10 := hts (.fieldLink RX5 10 "TaughtTongues" "signs" "LTaughtTongues$Signs;") (by decide +kernel)
  refine lv_aload_n hx hb dX5_fault_0 rfl (lv_at hl 0 rfl) ?_
  refine va_get (D := D) (ci := 5) (v := .ref sq) (C := RX5) (T := TX5) (N := 6) hx hb hts hiX5 hown hKB.1 hP 0 rfl rfl 0 (by decide) fl10 (fun _ h9 => h9) rfl dX5_fault_1 ?_
  have hPc := hP.sub (ws' := [(sq, .inr (3, [.ref qc, .int (nI cnt)])), (qc, .inl (cI, 40, .inl (nF cd)))]) [1, 2] rfl
  refine r_calli hP hS (va_runV (As := []) (rest := []) ⟨hx, hb, hml, hown, hts⟩ (m_X3_firstFault l D cI cJ sq qc cnt cd (by omega) (by assumption)) (cwV 0 hts gX5_fault_X3_firstFault rfl rfl rfl (by decide +kernel) ⟨Nat.le_of_ble_eq_true rfl, Nat.le_of_ble_eq_true rfl⟩) ⟨PR.blind, va_recv hKB.1 hP (ci := 3) (q0 := 1) rfl rfl, fun U hU hW => ⟨rfl, hKB.warm hW, by rw [hU]; exact hPc⟩⟩ rfl rfl hl.1 rfl (lv_room (Nat.le_of_ble_eq_true rfl)) dX5_fault_4 ⟨Nat.le_of_ble_eq_true rfl, Nat.le_of_ble_eq_true rfl⟩) (fun r1 H locs hw4 hP hS => ?_)
  have hw4 : r1 = ffI cd cnt := hw4
  subst hw4
  exact r_iret hx hb hr hlk hQ hS (rfl) dX5_fault_7

set_option maxHeartbeats 4000000 in
set_option maxRecDepth 100000 in
theorem m_X5_before (l : Launch) (D : va_G) (cI cJ : ClassId) (sz : Nat) (xq : Nat) (sq : Nat) (hq : Nat) (lq : Nat) (oq : Nat) (pq : Nat) (req : Nat) (qc : Nat) (cnt : Nat) (cd : Nat → Nat) (smq : Nat) (laq : Nat) (grq : Nat) (chq : Nat) (cq : Nat) (wq : Nat) (h : Nat) (bq : Nat) (teq : Nat) (loq : Nat) (rq : Nat) (odq : Nat) (kn : Nat) (nwq : Nat) (nxq : Nat) (fch : Nat → Int32) (nq : Nat) (slip : Nat) (kd : Nat) (num : Nat → Nat) (w : Nat → Nat) (od : Nat → Nat) (hcnt : cnt ≤ 40) (hcd : ∀ j, cd j < 127) (hCI : CIv w slip kd num h kn od fch) : Met l yX5_before wsX5_before ({ frames := 3, cells := 0, slots := 0, locals := 67 }) (PX D cI cJ [(xq, .inr (5, [.ref sq, .ref hq, .ref lq, .ref oq, .ref pq, .ref req])), (sq, .inr (3, [.ref qc, .int (nI cnt)])), (qc, .inl (cI, 40, .inl (nF cd))), (oq, .inr (2, [.ref lq, .ref smq, .ref laq, .ref grq, .ref chq, .ref cq])), (chq, .inl (cI, 210, .inl fch)), (pq, .inr (4, [.ref lq, .ref oq, .ref wq, .int (nI h), .ref bq, .ref teq, .ref loq, .ref rq, .ref odq, .int (nI kn), .ref nwq, .ref nxq])), (lq, .inr (1, [.ref nq, .int (nI slip), .int (nI kd)])), (nq, .inl (cI, 8, .inl (nF num)))] sz [.ref xq]) (QWi D (S := (Nat → Nat) × Nat × Nat × (Nat → Int32)) [(xq, .inr (5, [.ref sq, .ref hq, .ref lq, .ref oq, .ref pq, .ref req])), (sq, .inr (3, [.ref qc, .int (nI cnt)])), (qc, .inl (cI, 40, .inl (nF cd))), (oq, .inr (2, [.ref lq, .ref smq, .ref laq, .ref grq, .ref chq, .ref cq])), (chq, .inl (cI, 210, .inl fch)), (pq, .inr (4, [.ref lq, .ref oq, .ref wq, .int (nI h), .ref bq, .ref teq, .ref loq, .ref rq, .ref odq, .int (nI kn), .ref nwq, .ref nxq])), (lq, .inr (1, [.ref nq, .int (nI slip), .int (nI kd)])), (nq, .inl (cI, 8, .inl (nF num)))] sz (fun r u => r = aBf cd cnt ∧ u.1 = uBn num cd cnt ∧ u.2.1 = uBc cd cnt ∧ (CIv w slip kd u.1 h u.2.2.1 od u.2.2.2)) (fun u => [(xq, .inr (5, [.ref sq, .ref hq, .ref lq, .ref oq, .ref pq, .ref req])), (sq, .inr (3, [.ref qc, .int (nI (u.2.1))])), (qc, .inl (cI, 40, .inl (nF cd))), (oq, .inr (2, [.ref lq, .ref smq, .ref laq, .ref grq, .ref chq, .ref cq])), (chq, .inl (cI, 210, .inl u.2.2.2)), (pq, .inr (4, [.ref lq, .ref oq, .ref wq, .int (nI h), .ref bq, .ref teq, .ref loq, .ref rq, .ref odq, .int (nI (u.2.2.1)), .ref nwq, .ref nxq])), (lq, .inr (1, [.ref nq, .int (nI slip), .int (nI kd)])), (nq, .inl (cI, 8, .inl (nF u.1)))])) 0 0 (va_A [(xq, .inr (5, [.ref sq, .ref hq, .ref lq, .ref oq, .ref pq, .ref req])), (sq, .inr (3, [.ref qc, .int (nI cnt)])), (qc, .inl (cI, 40, .inl (nF cd))), (oq, .inr (2, [.ref lq, .ref smq, .ref laq, .ref grq, .ref chq, .ref cq])), (chq, .inl (cI, 210, .inl fch)), (pq, .inr (4, [.ref lq, .ref oq, .ref wq, .int (nI h), .ref bq, .ref teq, .ref loq, .ref rq, .ref odq, .int (nI kn), .ref nwq, .ref nxq])), (lq, .inr (1, [.ref nq, .int (nI slip), .int (nI kd)])), (nq, .inl (cI, 8, .inl (nF num)))] sz) := by
  refine met_X (cc := cX5_before) (maxL := 3) (ret := (some .int)) (by decide) rfl (Nat.le_of_ble_eq_true rfl) ?_
  intro p e s m args below meth c Q ls A hQ hAe hAt hKB hP hD hA hl
  obtain ⟨hx, hb, hr, hml, hlk, hts, hown, hnm⟩ := hAt
  have hown : s.vm.findClass RX5 = some m.cls := hown
  have hS : va_S A s.heap s.heap [] := va_S.rf
  have hl : lv_has ls 3 [(0, .ref xq)] := hl
  have hiX5 : ∀ w ∈ u_ws RX5 TX5 6, w ∈ wsX5_before := by decide +kernel
  have fl10 := hts (.fieldLink RX5 10 "TaughtTongues" "signs" "LTaughtTongues$Signs;") (by decide +kernel)
  have fl26 := hts (.fieldLink RX5 26 "TaughtTongues" "learner" "LTaughtTongues$Learner;") (by decide +kernel)
  have hiX1 : ∀ w ∈ u_ws RX1 TX1 3, w ∈ wsX5_before := by decide +kernel
  refine lv_aload_n hx hb dX5_before_0 rfl (lv_at hl 0 rfl) ?_
  refine va_get (D := D) (ci := 5) (v := .ref sq) (C := RX5) (T := TX5) (N := 6) hx hb hts hiX5 hown hKB.1 hP 0 rfl rfl 0 (by decide) fl10 (fun _ h9 => h9) rfl dX5_before_1 ?_
  have hPc := hP.sub (ws' := [(sq, .inr (3, [.ref qc, .int (nI cnt)])), (qc, .inl (cI, 40, .inl (nF cd)))]) [1, 2] rfl
  refine r_calli hP hS (va_runV (As := []) (rest := []) ⟨hx, hb, hml, hown, hts⟩ (m_X3_firstFault l D cI cJ sq qc cnt cd (by omega) (by assumption)) (cwV 0 hts gX5_before_X3_firstFault rfl rfl rfl (by decide +kernel) ⟨Nat.le_of_ble_eq_true rfl, Nat.le_of_ble_eq_true rfl⟩) ⟨PR.blind, va_recv hKB.1 hP (ci := 3) (q0 := 1) rfl rfl, fun U hU hW => ⟨rfl, hKB.warm hW, by rw [hU]; exact hPc⟩⟩ rfl rfl hl.1 rfl (lv_room (Nat.le_of_ble_eq_true rfl)) dX5_before_4 ⟨Nat.le_of_ble_eq_true rfl, Nat.le_of_ble_eq_true rfl⟩) (fun r1 H locs hw4 hP hS => ?_)
  have hw4 : r1 = ffI cd cnt := hw4
  subst hw4
  refine lv_bipush (v := (-6)) hx hb dX5_before_7 (by decide) ?_
  refine lv_icmp_eq (tgt := 15) hx hb dX5_before_9 (by decide) (fun c9 => ?_) (fun c9 => ?_)
  · skip
    obtain ⟨hnl, hok⟩ := okT_of c9 (by omega) rfl
    refine lv_aload_n hx hb dX5_before_15 rfl (lv_at hl 0 rfl) ?_
    refine va_get (D := D) (ci := 5) (v := .ref sq) (C := RX5) (T := TX5) (N := 6) hx hb hts hiX5 hown hKB.1 hP 0 rfl rfl 0 (by decide) fl10 (fun _ h9 => h9) rfl dX5_before_16 ?_
    have hPc := hP.sub (ws' := [(sq, .inr (3, [.ref qc, .int (nI cnt)]))]) [1] rfl
    refine r_calli hP hS (va_runV (As := []) (rest := []) ⟨hx, hb, hml, hown, hts⟩ (m_X3_lines l D cI cJ sq qc cnt (by omega)) (cwV 0 hts gX5_before_X3_lines rfl rfl rfl (by decide +kernel) ⟨Nat.le_of_ble_eq_true rfl, Nat.le_of_ble_eq_true rfl⟩) ⟨PR.blind, va_recv hKB.1 hP (ci := 3) (q0 := 1) rfl rfl, fun U hU hW => ⟨rfl, hKB.warm hW, by rw [hU]; exact hPc⟩⟩ rfl rfl hl.1 rfl (lv_room (Nat.le_of_ble_eq_true rfl)) dX5_before_19 ⟨Nat.le_of_ble_eq_true rfl, Nat.le_of_ble_eq_true rfl⟩) (fun r2 H locs hw19 hP hS => ?_)
    have hw19 : r2 = nI ((cnt + 1) / 6) := hw19
    subst hw19
    refine lv_istore_n (lv' := [(1, .int (nI ((cnt + 1) / 6))), (0, .ref xq)]) hx hb dX5_before_22 rfl hl (by decide) rfl (fun ls hl => ?_)
    refine lv_iconst (v := nI (0)) hx hb dX5_before_23 (by decide) ?_
    refine lv_istore_n (lv' := [(2, .int (nI 0)), (1, .int (nI ((cnt + 1) / 6))), (0, .ref xq)]) hx hb dX5_before_24 rfl hl (by decide) rfl (fun ls hl => ?_)
    have L25 : ∀ (n : Nat) (k : Nat) (f1 : Nat → Nat) (H : Heap) (locs : List Loc) (ls : Array Slot), 8 - k < n → (k ≤ 8) → (∀ j, j < k → f1 j = (fun t => nfr cd t ((cnt + 1) / 6) 0) j) → va_P D vwCl [(xq, .inr (5, [.ref sq, .ref hq, .ref lq, .ref oq, .ref pq, .ref req])), (sq, .inr (3, [.ref qc, .int (nI cnt)])), (qc, .inl (cI, 40, .inl (nF cd))), (oq, .inr (2, [.ref lq, .ref smq, .ref laq, .ref grq, .ref chq, .ref cq])), (chq, .inl (cI, 210, .inl fch)), (pq, .inr (4, [.ref lq, .ref oq, .ref wq, .int (nI h), .ref bq, .ref teq, .ref loq, .ref rq, .ref odq, .int (nI kn), .ref nwq, .ref nxq])), (lq, .inr (1, [.ref nq, .int (nI slip), .int (nI kd)])), (nq, .inl (cI, 8, .inl (nF f1)))] H → va_D A [(xq, .inr (5, [.ref sq, .ref hq, .ref lq, .ref oq, .ref pq, .ref req])), (sq, .inr (3, [.ref qc, .int (nI cnt)])), (qc, .inl (cI, 40, .inl (nF cd))), (oq, .inr (2, [.ref lq, .ref smq, .ref laq, .ref grq, .ref chq, .ref cq])), (chq, .inl (cI, 210, .inl fch)), (pq, .inr (4, [.ref lq, .ref oq, .ref wq, .int (nI h), .ref bq, .ref teq, .ref loq, .ref rq, .ref odq, .int (nI kn), .ref nwq, .ref nxq])), (lq, .inr (1, [.ref nq, .int (nI slip), .int (nI kd)])), (nq, .inl (cI, 8, .inl (nF f1)))] → va_S A s.heap H locs → lv_has ls 3 [(2, .int (nI k)), (1, .int (nI ((cnt + 1) / 6))), (0, .ref xq)] → W p l e ({ frames := 3, cells := 0, slots := 0, locals := 67 }) s m args below meth c H locs 0 0 Q (F0 m 25 ls []) := by
      intro n
      induction n with
      | zero => intro k f1 H locs ls hm; exact absurd hm (Nat.not_lt_zero _)
      | succ n ih25 =>
        intro k f1 H locs ls hm hk hf hP hD hS hl
        refine lv_iload_n hx hb dX5_before_25 rfl (lv_at hl 0 rfl) ?_
        refine lv_bipush (v := nI (8)) hx hb dX5_before_26 (by decide) ?_
        refine r_icmp_ge (a := k) (b := 8) (tgt := 54) hx hb dX5_before_28 (by decide) (by omega) (by omega)  (fun c28 => ?_) (fun c28 => ?_)
        · skip
          have hP := P_arrI hP 7 (g := (nF (fun t => nfr cd t ((cnt + 1) / 6) 0))) rfl (fun j hj => congrArg nI (hf j (by omega)))
          have hD := D_arrI hD 7 (g := (nF (fun t => nfr cd t ((cnt + 1) / 6) 0))) rfl
          have hP : va_P D vwCl [(xq, .inr (5, [.ref sq, .ref hq, .ref lq, .ref oq, .ref pq, .ref req])), (sq, .inr (3, [.ref qc, .int (nI cnt)])), (qc, .inl (cI, 40, .inl (nF cd))), (oq, .inr (2, [.ref lq, .ref smq, .ref laq, .ref grq, .ref chq, .ref cq])), (chq, .inl (cI, 210, .inl fch)), (pq, .inr (4, [.ref lq, .ref oq, .ref wq, .int (nI h), .ref bq, .ref teq, .ref loq, .ref rq, .ref odq, .int (nI kn), .ref nwq, .ref nxq])), (lq, .inr (1, [.ref nq, .int (nI slip), .int (nI kd)])), (nq, .inl (cI, 8, .inl (nF (fun t => nfr cd t ((cnt + 1) / 6) 0))))] _ := hP
          have hD : va_D A [(xq, .inr (5, [.ref sq, .ref hq, .ref lq, .ref oq, .ref pq, .ref req])), (sq, .inr (3, [.ref qc, .int (nI cnt)])), (qc, .inl (cI, 40, .inl (nF cd))), (oq, .inr (2, [.ref lq, .ref smq, .ref laq, .ref grq, .ref chq, .ref cq])), (chq, .inl (cI, 210, .inl fch)), (pq, .inr (4, [.ref lq, .ref oq, .ref wq, .int (nI h), .ref bq, .ref teq, .ref loq, .ref rq, .ref odq, .int (nI kn), .ref nwq, .ref nxq])), (lq, .inr (1, [.ref nq, .int (nI slip), .int (nI kd)])), (nq, .inl (cI, 8, .inl (nF (fun t => nfr cd t ((cnt + 1) / 6) 0))))] := hD
          refine lv_aload_n hx hb dX5_before_54 rfl (lv_at hl 2 rfl) ?_
          refine va_get (D := D) (ci := 5) (v := .ref sq) (C := RX5) (T := TX5) (N := 6) hx hb hts hiX5 hown hKB.1 hP 0 rfl rfl 0 (by decide) fl10 (fun _ h9 => h9) rfl dX5_before_55 ?_
          have hPc := hP.sub (ws' := [(sq, .inr (3, [.ref qc, .int (nI cnt)]))]) [1] rfl
          have hDc := hD.sub (ws' := [(sq, .inr (3, [.ref qc, .int (nI cnt)]))]) [1] (by decide) rfl
          have hFc := va_free (wc := [(sq, .inr (3, [.ref qc, .int (nI cnt)]))]) hD hS hA [1] rfl
          refine w_calli (wc := [(sq, .inr (3, [.ref qc, .int (nI cnt)]))]) (wr := [(xq, .inr (5, [.ref sq, .ref hq, .ref lq, .ref oq, .ref pq, .ref req])), (qc, .inl (cI, 40, .inl (nF cd))), (oq, .inr (2, [.ref lq, .ref smq, .ref laq, .ref grq, .ref chq, .ref cq])), (chq, .inl (cI, 210, .inl fch)), (pq, .inr (4, [.ref lq, .ref oq, .ref wq, .int (nI h), .ref bq, .ref teq, .ref loq, .ref rq, .ref odq, .int (nI kn), .ref nwq, .ref nxq])), (lq, .inr (1, [.ref nq, .int (nI slip), .int (nI kd)])), (nq, .inl (cI, 8, .inl (nF (fun t => nfr cd t ((cnt + 1) / 6) 0))))]) hP hD hS [1] [0, 2, 3, 4, 5, 6, 7] rfl rfl (by decide) (by decide) hFc (va_runV (As := []) (rest := []) ⟨hx, hb, hml, hown, hts⟩ (m_X3_clear l D cI cJ _ sq qc cnt) (cwV 0 hts gX5_before_X3_clear rfl rfl rfl (by decide +kernel) ⟨Nat.le_of_ble_eq_true rfl, Nat.le_of_ble_eq_true rfl⟩) ⟨PX.blind, va_recv hKB.1 hP (ci := 3) (q0 := 1) rfl rfl, fun U hU hW => ⟨rfl, by rw [hU], hKB.warm hW, by rw [hU]; exact hPc, hDc.weaken (fun _ _ _ _ => trivial)⟩⟩ rfl rfl hl.1 rfl (lv_room (Nat.le_of_ble_eq_true rfl)) dX5_before_58 ⟨Nat.le_of_ble_eq_true rfl, Nat.le_of_ble_eq_true rfl⟩) (fun r3 u58 H locs hw58 hP hD hS => ?_)
          have hP : va_P D vwCl [(xq, .inr (5, [.ref sq, .ref hq, .ref lq, .ref oq, .ref pq, .ref req])), (qc, .inl (cI, 40, .inl (nF cd))), (oq, .inr (2, [.ref lq, .ref smq, .ref laq, .ref grq, .ref chq, .ref cq])), (chq, .inl (cI, 210, .inl fch)), (pq, .inr (4, [.ref lq, .ref oq, .ref wq, .int (nI h), .ref bq, .ref teq, .ref loq, .ref rq, .ref odq, .int (nI kn), .ref nwq, .ref nxq])), (lq, .inr (1, [.ref nq, .int (nI slip), .int (nI kd)])), (nq, .inl (cI, 8, .inl (nF (fun t => nfr cd t ((cnt + 1) / 6) 0)))), (sq, .inr (3, [.ref qc, .int (nI 0)]))] _ := hP
          have hD : va_D A [(xq, .inr (5, [.ref sq, .ref hq, .ref lq, .ref oq, .ref pq, .ref req])), (qc, .inl (cI, 40, .inl (nF cd))), (oq, .inr (2, [.ref lq, .ref smq, .ref laq, .ref grq, .ref chq, .ref cq])), (chq, .inl (cI, 210, .inl fch)), (pq, .inr (4, [.ref lq, .ref oq, .ref wq, .int (nI h), .ref bq, .ref teq, .ref loq, .ref rq, .ref odq, .int (nI kn), .ref nwq, .ref nxq])), (lq, .inr (1, [.ref nq, .int (nI slip), .int (nI kd)])), (nq, .inl (cI, 8, .inl (nF (fun t => nfr cd t ((cnt + 1) / 6) 0)))), (sq, .inr (3, [.ref qc, .int (nI 0)]))] := hD
          have hw58 : r3 = nI (cnt) := hw58
          subst hw58
          refine lv_pop hx hb dX5_before_61 rfl ?_
          refine lv_aload_n hx hb dX5_before_62 rfl (lv_at hl 2 rfl) ?_
          have hPc := hP.sub (ws' := [(xq, .inr (5, [.ref sq, .ref hq, .ref lq, .ref oq, .ref pq, .ref req])), (oq, .inr (2, [.ref lq, .ref smq, .ref laq, .ref grq, .ref chq, .ref cq])), (chq, .inl (cI, 210, .inl fch)), (pq, .inr (4, [.ref lq, .ref oq, .ref wq, .int (nI h), .ref bq, .ref teq, .ref loq, .ref rq, .ref odq, .int (nI kn), .ref nwq, .ref nxq]))]) [0, 2, 3, 4] rfl
          have hDc := hD.sub (ws' := [(xq, .inr (5, [.ref sq, .ref hq, .ref lq, .ref oq, .ref pq, .ref req])), (oq, .inr (2, [.ref lq, .ref smq, .ref laq, .ref grq, .ref chq, .ref cq])), (chq, .inl (cI, 210, .inl fch)), (pq, .inr (4, [.ref lq, .ref oq, .ref wq, .int (nI h), .ref bq, .ref teq, .ref loq, .ref rq, .ref odq, .int (nI kn), .ref nwq, .ref nxq]))]) [0, 2, 3, 4] (by decide) rfl
          have hFc := va_free (wc := [(xq, .inr (5, [.ref sq, .ref hq, .ref lq, .ref oq, .ref pq, .ref req])), (oq, .inr (2, [.ref lq, .ref smq, .ref laq, .ref grq, .ref chq, .ref cq])), (chq, .inl (cI, 210, .inl fch)), (pq, .inr (4, [.ref lq, .ref oq, .ref wq, .int (nI h), .ref bq, .ref teq, .ref loq, .ref rq, .ref odq, .int (nI kn), .ref nwq, .ref nxq]))]) hD hS hA [0, 2, 3, 4] rfl
          refine w_callv (wc := [(xq, .inr (5, [.ref sq, .ref hq, .ref lq, .ref oq, .ref pq, .ref req])), (oq, .inr (2, [.ref lq, .ref smq, .ref laq, .ref grq, .ref chq, .ref cq])), (chq, .inl (cI, 210, .inl fch)), (pq, .inr (4, [.ref lq, .ref oq, .ref wq, .int (nI h), .ref bq, .ref teq, .ref loq, .ref rq, .ref odq, .int (nI kn), .ref nwq, .ref nxq]))]) (wr := [(qc, .inl (cI, 40, .inl (nF cd))), (lq, .inr (1, [.ref nq, .int (nI slip), .int (nI kd)])), (nq, .inl (cI, 8, .inl (nF (fun t => nfr cd t ((cnt + 1) / 6) 0)))), (sq, .inr (3, [.ref qc, .int (nI 0)]))]) hP hD hS [0, 2, 3, 4] [1, 5, 6, 7] rfl rfl (by decide) (by decide) hFc (va_runV (As := []) (rest := []) ⟨hx, hb, hml, hown, hts⟩ (m_X5_learnerChanged l D cI cJ _ xq sq hq lq oq pq req smq laq grq chq cq wq h bq teq loq rq odq kn nwq nxq fch) (cwV 0 hts gX5_before_X5_learnerChanged rfl rfl rfl (by decide +kernel) ⟨Nat.le_of_ble_eq_true rfl, Nat.le_of_ble_eq_true rfl⟩) ⟨PX.blind, va_recv hKB.1 hP (ci := 5) (q0 := 0) rfl rfl, fun U hU hW => ⟨rfl, by rw [hU], hKB.warm hW, by rw [hU]; exact hPc, hDc.weaken (fun _ _ _ _ => trivial)⟩⟩ rfl rfl hl.1 rfl (lv_room (Nat.le_of_ble_eq_true rfl)) dX5_before_63 ⟨Nat.le_of_ble_eq_true rfl, Nat.le_of_ble_eq_true rfl⟩) (fun u63 H locs hw63 hP hD hS => ?_)
          have hP : va_P D vwCl [(qc, .inl (cI, 40, .inl (nF cd))), (lq, .inr (1, [.ref nq, .int (nI slip), .int (nI kd)])), (nq, .inl (cI, 8, .inl (nF (fun t => nfr cd t ((cnt + 1) / 6) 0)))), (sq, .inr (3, [.ref qc, .int (nI 0)])), (xq, .inr (5, [.ref sq, .ref hq, .ref lq, .ref oq, .ref pq, .ref req])), (oq, .inr (2, [.ref lq, .ref smq, .ref laq, .ref grq, .ref chq, .ref cq])), (chq, .inl (cI, 210, .inl (fun _ => -1))), (pq, .inr (4, [.ref lq, .ref oq, .ref wq, .int (nI h), .ref bq, .ref teq, .ref loq, .ref rq, .ref odq, .int (nI 0), .ref nwq, .ref nxq]))] _ := hP
          have hD : va_D A [(qc, .inl (cI, 40, .inl (nF cd))), (lq, .inr (1, [.ref nq, .int (nI slip), .int (nI kd)])), (nq, .inl (cI, 8, .inl (nF (fun t => nfr cd t ((cnt + 1) / 6) 0)))), (sq, .inr (3, [.ref qc, .int (nI 0)])), (xq, .inr (5, [.ref sq, .ref hq, .ref lq, .ref oq, .ref pq, .ref req])), (oq, .inr (2, [.ref lq, .ref smq, .ref laq, .ref grq, .ref chq, .ref cq])), (chq, .inl (cI, 210, .inl (fun _ => -1))), (pq, .inr (4, [.ref lq, .ref oq, .ref wq, .int (nI h), .ref bq, .ref teq, .ref loq, .ref rq, .ref odq, .int (nI 0), .ref nwq, .ref nxq]))] := hD
          refine lv_iload_n hx hb dX5_before_66 rfl (lv_at hl 1 rfl) ?_
          exact w_iret hx hb hr hlk hQ hAe (fun t => nfr cd t ((cnt + 1) / 6) 0, 0, 0, fun _ => -1) (hP.sub [4, 3, 0, 5, 6, 7, 1, 2] rfl) (hD.sub [4, 3, 0, 5, 6, 7, 1, 2] (by decide) rfl) hS (by simp only [aBf, uBn, uBc, if_pos c9]; exact ⟨trivial, trivial, trivial, CIv.r⟩) dX5_before_67
        refine lv_aload_n hx hb dX5_before_31 rfl (lv_at hl 2 rfl) ?_
        refine va_get (D := D) (ci := 5) (v := .ref lq) (C := RX5) (T := TX5) (N := 6) hx hb hts hiX5 hown hKB.1 hP 0 rfl rfl 2 (by decide) fl26 (fun _ h9 => h9) rfl dX5_before_32 ?_
        refine va_getN (D := D) (ci := 1) (v := .ref nq) (C := RX1) (T := TX1) (N := 3) hx hb hts hiX1 hown hKB.1 hP 6 rfl rfl 0 (by decide) (hKB.2.f (q := ("TaughtTongues", 94, "TaughtTongues$Learner", "numbers", "[I")) 7 rfl) (fun _ h9 => h9) rfl dX5_before_35 ?_
        refine lv_iload_n hx hb dX5_before_38 rfl (lv_at hl 0 rfl) ?_
        refine lv_aload_n hx hb dX5_before_39 rfl (lv_at hl 2 rfl) ?_
        refine va_get (D := D) (ci := 5) (v := .ref sq) (C := RX5) (T := TX5) (N := 6) hx hb hts hiX5 hown hKB.1 hP 0 rfl rfl 0 (by decide) fl10 (fun _ h9 => h9) rfl dX5_before_40 ?_
        refine lv_iload_n hx hb dX5_before_43 rfl (lv_at hl 0 rfl) ?_
        have hPc := hP.sub (ws' := [(sq, .inr (3, [.ref qc, .int (nI cnt)])), (qc, .inl (cI, 40, .inl (nF cd)))]) [1, 2] rfl
        refine r_calli hP hS (va_runV (As := [.int (nI k)]) (rest := [.int (nI k), .ref nq]) ⟨hx, hb, hml, hown, hts⟩ (m_X3_numberFor l D cI cJ sq qc cnt cd k ((cnt + 1) / 6) (by omega) (by omega) (by omega) (by assumption)) (cwV 1 hts gX5_before_X3_numberFor rfl rfl rfl (by decide +kernel) ⟨Nat.le_of_ble_eq_true rfl, Nat.le_of_ble_eq_true rfl⟩) ⟨PR.blind, va_recv hKB.1 hP (ci := 3) (q0 := 1) rfl rfl, fun U hU hW => ⟨rfl, hKB.warm hW, by rw [hU]; exact hPc⟩⟩ rfl rfl hl.1 rfl (lv_room (Nat.le_of_ble_eq_true rfl)) dX5_before_44 ⟨Nat.le_of_ble_eq_true rfl, Nat.le_of_ble_eq_true rfl⟩) (fun r5 H locs hw44 hP hS => ?_)
        have hw44 : r5 = nI (nfr cd k ((cnt + 1) / 6) 0) := hw44
        subst hw44
        refine r_iastN (i := k) hx hb hKB.1 hP hD hS 7 0 rfl rfl (by omega) (by decide) dX5_before_47 (fun H locs hP hD hS => ?_)
        have hP : va_P D vwCl [(xq, .inr (5, [.ref sq, .ref hq, .ref lq, .ref oq, .ref pq, .ref req])), (sq, .inr (3, [.ref qc, .int (nI cnt)])), (qc, .inl (cI, 40, .inl (nF cd))), (oq, .inr (2, [.ref lq, .ref smq, .ref laq, .ref grq, .ref chq, .ref cq])), (chq, .inl (cI, 210, .inl fch)), (pq, .inr (4, [.ref lq, .ref oq, .ref wq, .int (nI h), .ref bq, .ref teq, .ref loq, .ref rq, .ref odq, .int (nI kn), .ref nwq, .ref nxq])), (lq, .inr (1, [.ref nq, .int (nI slip), .int (nI kd)])), (nq, .inl (cI, 8, .inl (nF (nu f1 k (nfr cd k ((cnt + 1) / 6) 0)))))] _ := hP
        have hD : va_D A [(xq, .inr (5, [.ref sq, .ref hq, .ref lq, .ref oq, .ref pq, .ref req])), (sq, .inr (3, [.ref qc, .int (nI cnt)])), (qc, .inl (cI, 40, .inl (nF cd))), (oq, .inr (2, [.ref lq, .ref smq, .ref laq, .ref grq, .ref chq, .ref cq])), (chq, .inl (cI, 210, .inl fch)), (pq, .inr (4, [.ref lq, .ref oq, .ref wq, .int (nI h), .ref bq, .ref teq, .ref loq, .ref rq, .ref odq, .int (nI kn), .ref nwq, .ref nxq])), (lq, .inr (1, [.ref nq, .int (nI slip), .int (nI kd)])), (nq, .inl (cI, 8, .inl (nF (nu f1 k (nfr cd k ((cnt + 1) / 6) 0)))))] := hD
        refine lv_iinc (v := nI (k + 1)) (lv' := [(2, .int (nI (k + 1))), (1, .int (nI ((cnt + 1) / 6))), (0, .ref xq)]) hx hb dX5_before_48 hl (k := 0) rfl (n_inc _ 1) (by decide) rfl (fun ls hl => ?_)
        refine lv_goto (tgt := 25) hx hb dX5_before_51 (by decide) ?_
        exact ih25 (k + 1) (nu f1 k (nfr cd k ((cnt + 1) / 6) 0)) _ _ _ (by omega) (by omega) (ag_s hf rfl) hP hD hS hl
    exact L25 (8 - 0 + 1) 0 num _ _ _ (Nat.lt_succ_self _) (by omega) (fun j hj => absurd hj (Nat.not_lt_zero j)) hP hD hS hl
  refine lv_bipush (v := (-5)) hx hb dX5_before_12 (by decide) ?_
  exact w_iret hx hb hr hlk hQ hAe (num, cnt, kn, fch) hP hD hS (by simp only [aBf, uBn, uBc, if_neg c9]; exact ⟨trivial, trivial, trivial, hCI⟩) dX5_before_14

set_option maxHeartbeats 4000000 in
set_option maxRecDepth 100000 in
theorem m_X5_number (l : Launch) (D : va_G) (cI cJ : ClassId) (xq : Nat) (sq : Nat) (hq : Nat) (lq : Nat) (oq : Nat) (pq : Nat) (req : Nat) (nq : Nat) (slip : Nat) (kd : Nat) (num : Nat → Nat) (p0 : Int32) : Met l yX5_number wsX5_number ({ frames := 2, cells := 0, slots := 0, locals := 42 }) (PR D cI cJ [(xq, .inr (5, [.ref sq, .ref hq, .ref lq, .ref oq, .ref pq, .ref req])), (lq, .inr (1, [.ref nq, .int (nI slip), .int (nI kd)])), (nq, .inl (cI, 8, .inl (nF num)))] [.ref xq, .int p0]) (QRi (fun r => r = aNu num p0)) 0 0 NA := by
  refine met_R (cc := cX5_number) (maxL := 2) (ret := (some .int)) (by decide) rfl (Nat.le_of_ble_eq_true rfl) ?_
  intro p e s m args below meth c Q ls hQ hAt hKB hP hl
  obtain ⟨hx, hb, hr, hml, hlk, hts, hown, hnm⟩ := hAt
  have hown : s.vm.findClass RX5 = some m.cls := hown
  have hS : va_S NA s.heap s.heap [] := va_S.rf
  have hl : lv_has ls 2 [(0, .ref xq), (1, .int p0)] := hl
  have hiX5 : ∀ w ∈ u_ws RX5 TX5 6, w ∈ wsX5_number := by decide +kernel
  have fl26 := hts (.fieldLink RX5 26 "TaughtTongues" "learner" "LTaughtTongues$Learner;") (by decide +kernel)
  have hiX1 : ∀ w ∈ u_ws RX1 TX1 3, w ∈ wsX5_number := by decide +kernel
  refine lv_iload_n hx hb dX5_number_0 rfl (lv_at hl 1 rfl) ?_
  have hPc := hP.sub (ws' := []) [] rfl
  refine r_calli hP hS (va_runS (As := [.int p0]) (rest := []) ⟨hx, hb, hml, hown, hts⟩ (m_X5_isTongue l D cI cJ p0) (va_cwS 1 hts gX5_number_X5_isTongue rfl rfl rfl (by decide +kernel) ⟨Nat.le_of_ble_eq_true rfl, Nat.le_of_ble_eq_true rfl⟩) ⟨PR.blind, fun U hU hW => ⟨rfl, hKB.warm hW, by rw [hU]; exact hPc⟩⟩ rfl rfl hl.1 rfl (lv_room (Nat.le_of_ble_eq_true rfl)) dX5_number_1 ⟨Nat.le_of_ble_eq_true rfl, Nat.le_of_ble_eq_true rfl⟩) (fun r1 H locs hw1 hP hS => ?_)
  have hw1 : r1 = bI (inR p0 0 7) := hw1
  subst hw1
  refine r_bif_eq (b := inR p0 0 7) (tgt := 19) hx hb dX5_number_4 (by decide) (fun c4 => ?_) (fun c4 => ?_)
  · skip
    refine lv_iconst (v := (-1)) hx hb dX5_number_19 (by decide) ?_
    exact r_iret hx hb hr hlk hQ hS (by first | (simp only [aNu, c4, if_true, tN_n (show V < 2 ^ 31 by omega)]; done) | (simp [aNu, c4]; done)) dX5_number_20
  obtain ⟨V, -, hV, rfl⟩ := inR_t (by decide) (by decide) c4
  refine lv_aload_n hx hb dX5_number_7 rfl (lv_at hl 0 rfl) ?_
  refine va_get (D := D) (ci := 5) (v := .ref lq) (C := RX5) (T := TX5) (N := 6) hx hb hts hiX5 hown hKB.1 hP 0 rfl rfl 2 (by decide) fl26 (fun _ h9 => h9) rfl dX5_number_8 ?_
  refine va_getN (D := D) (ci := 1) (v := .ref nq) (C := RX1) (T := TX1) (N := 3) hx hb hts hiX1 hown hKB.1 hP 1 rfl rfl 0 (by decide) (hKB.2.f (q := ("TaughtTongues", 94, "TaughtTongues$Learner", "numbers", "[I")) 7 rfl) (fun _ h9 => h9) rfl dX5_number_11 ?_
  refine lv_iload_n hx hb dX5_number_14 rfl (lv_at hl 1 rfl) ?_
  refine r_iald (i := V) (v := nI (num V)) hx hb hKB.1 hP 2 0 rfl rfl (by omega) (by decide) (rfl) dX5_number_15 ?_
  refine lv_goto (tgt := 20) hx hb dX5_number_16 (by decide) ?_
  exact r_iret hx hb hr hlk hQ hS (by first | (simp only [aNu, c4, if_true, tN_n (show V < 2 ^ 31 by omega)]; done) | (simp [aNu, c4]; done)) dX5_number_20

set_option maxHeartbeats 4000000 in
set_option maxRecDepth 100000 in
theorem m_X5_hear (l : Launch) (D : va_G) (cI cJ : ClassId) (sz : Nat) (xq : Nat) (sq : Nat) (hq : Nat) (lq : Nat) (oq : Nat) (pq : Nat) (req : Nat) (htq : Nat) (hal : Nat) (htn : Nat → Nat) (p0 : Int32) (p1 : Int32) (hal6 : hal ≤ 6) : Met l yX5_hear wsX5_hear ({ frames := 2, cells := 0, slots := 0, locals := 42 }) (PX D cI cJ [(xq, .inr (5, [.ref sq, .ref hq, .ref lq, .ref oq, .ref pq, .ref req])), (hq, .inr (0, [.ref htq, .int (nI hal)])), (htq, .inl (cI, 6, .inl (nF htn)))] sz [.ref xq, .int p0, .int p1]) (QWi D (S := (Nat → Nat) × Nat) [(xq, .inr (5, [.ref sq, .ref hq, .ref lq, .ref oq, .ref pq, .ref req])), (hq, .inr (0, [.ref htq, .int (nI hal)])), (htq, .inl (cI, 6, .inl (nF htn)))] sz (fun r u => r = aHr hal p0 p1 ∧ u.1 = uHt htn hal p0 p1 ∧ u.2 = uHa hal p0 p1) (fun u => [(xq, .inr (5, [.ref sq, .ref hq, .ref lq, .ref oq, .ref pq, .ref req])), (hq, .inr (0, [.ref htq, .int (nI (u.2))])), (htq, .inl (cI, 6, .inl (nF u.1)))])) 0 0 (va_A [(xq, .inr (5, [.ref sq, .ref hq, .ref lq, .ref oq, .ref pq, .ref req])), (hq, .inr (0, [.ref htq, .int (nI hal)])), (htq, .inl (cI, 6, .inl (nF htn)))] sz) := by
  refine met_X (cc := cX5_hear) (maxL := 3) (ret := (some .int)) (by decide) rfl (Nat.le_of_ble_eq_true rfl) ?_
  intro p e s m args below meth c Q ls A hQ hAe hAt hKB hP hD hA hl
  obtain ⟨hx, hb, hr, hml, hlk, hts, hown, hnm⟩ := hAt
  have hown : s.vm.findClass RX5 = some m.cls := hown
  have hS : va_S A s.heap s.heap [] := va_S.rf
  have hl : lv_has ls 3 [(0, .ref xq), (1, .int p0), (2, .int p1)] := hl
  have hiX5 : ∀ w ∈ u_ws RX5 TX5 6, w ∈ wsX5_hear := by decide +kernel
  have fl19 := hts (.fieldLink RX5 19 "TaughtTongues" "heard" "LTaughtTongues$Counts;") (by decide +kernel)
  have hiX0 : ∀ w ∈ u_ws RX0 TX0 2, w ∈ wsX5_hear := by decide +kernel
  refine lv_iload_n hx hb dX5_hear_0 rfl (lv_at hl 1 rfl) ?_
  have hPc := hP.sub (ws' := []) [] rfl
  refine r_calli hP hS (va_runS (As := [.int p0]) (rest := []) ⟨hx, hb, hml, hown, hts⟩ (m_X5_isMeaning l D cI cJ p0) (va_cwS 1 hts gX5_hear_X5_isMeaning rfl rfl rfl (by decide +kernel) ⟨Nat.le_of_ble_eq_true rfl, Nat.le_of_ble_eq_true rfl⟩) ⟨PR.blind, fun U hU hW => ⟨rfl, hKB.warm hW, by rw [hU]; exact hPc⟩⟩ rfl rfl hl.1 rfl (lv_room (Nat.le_of_ble_eq_true rfl)) dX5_hear_1 ⟨Nat.le_of_ble_eq_true rfl, Nat.le_of_ble_eq_true rfl⟩) (fun r1 H locs hw1 hP hS => ?_)
  have hw1 : r1 = bI (inR p0 0 2) := hw1
  subst hw1
  refine r_bif_ne (b := inR p0 0 2) (tgt := 9) hx hb dX5_hear_4 (by decide) (fun c4 => ?_) (fun c4 => ?_)
  · skip
    obtain ⟨M, -, hM, rfl⟩ := inR_t (by decide) (by decide) c4
    refine lv_iload_n hx hb dX5_hear_9 rfl (lv_at hl 2 rfl) ?_
    have hPc := hP.sub (ws' := []) [] rfl
    refine r_calli hP hS (va_runS (As := [.int p1]) (rest := []) ⟨hx, hb, hml, hown, hts⟩ (m_X5_isForm l D cI cJ p1) (va_cwS 1 hts gX5_hear_X5_isForm rfl rfl rfl (by decide +kernel) ⟨Nat.le_of_ble_eq_true rfl, Nat.le_of_ble_eq_true rfl⟩) ⟨PR.blind, fun U hU hW => ⟨rfl, hKB.warm hW, by rw [hU]; exact hPc⟩⟩ rfl rfl hl.1 rfl (lv_room (Nat.le_of_ble_eq_true rfl)) dX5_hear_10 ⟨Nat.le_of_ble_eq_true rfl, Nat.le_of_ble_eq_true rfl⟩) (fun r2 H locs hw10 hP hS => ?_)
    have hw10 : r2 = bI (inR p1 0 1) := hw10
    subst hw10
    refine r_bif_ne (b := inR p1 0 1) (tgt := 19) hx hb dX5_hear_13 (by decide) (fun c13 => ?_) (fun c13 => ?_)
    · skip
      obtain ⟨V, -, hV, rfl⟩ := inR_t (by decide) (by decide) c13
      refine lv_aload_n hx hb dX5_hear_19 rfl (lv_at hl 0 rfl) ?_
      refine va_get (D := D) (ci := 5) (v := .ref hq) (C := RX5) (T := TX5) (N := 6) hx hb hts hiX5 hown hKB.1 hP 0 rfl rfl 1 (by decide) fl19 (fun _ h9 => h9) rfl dX5_hear_20 ?_
      refine va_getN (D := D) (ci := 0) (v := .int (nI hal)) (C := RX0) (T := TX0) (N := 2) hx hb hts hiX0 hown hKB.1 hP 1 rfl rfl 1 (by decide) (hKB.2.f (q := ("TaughtTongues", 109, "TaughtTongues$Counts", "all", "I")) 0 rfl) (fun _ h9 => h9) rfl dX5_hear_23 ?_
      refine lv_bipush (v := nI (6)) hx hb dX5_hear_26 (by decide) ?_
      refine r_icmp_lt (a := hal) (b := 6) (tgt := 34) hx hb dX5_hear_28 (by decide) (by omega) (by omega)  (fun c28 => ?_) (fun c28 => ?_)
      · skip
        refine lv_aload_n hx hb dX5_hear_34 rfl (lv_at hl 0 rfl) ?_
        refine va_get (D := D) (ci := 5) (v := .ref hq) (C := RX5) (T := TX5) (N := 6) hx hb hts hiX5 hown hKB.1 hP 0 rfl rfl 1 (by decide) fl19 (fun _ h9 => h9) rfl dX5_hear_35 ?_
        refine lv_iconst (v := nI (2)) hx hb dX5_hear_38 (by decide) ?_
        refine lv_iload_n hx hb dX5_hear_39 rfl (lv_at hl 1 rfl) ?_
        refine r_imul (a := 2) (b := M) hx hb dX5_hear_40  ?_
        refine lv_iload_n hx hb dX5_hear_41 rfl (lv_at hl 2 rfl) ?_
        refine r_iadd (a := 2 * M) (b := V) hx hb dX5_hear_42  ?_
        have hPc := hP.sub (ws' := [(hq, .inr (0, [.ref htq, .int (nI hal)])), (htq, .inl (cI, 6, .inl (nF htn)))]) [1, 2] rfl
        have hDc := hD.sub (ws' := [(hq, .inr (0, [.ref htq, .int (nI hal)])), (htq, .inl (cI, 6, .inl (nF htn)))]) [1, 2] (by decide) rfl
        have hFc := va_free (wc := [(hq, .inr (0, [.ref htq, .int (nI hal)])), (htq, .inl (cI, 6, .inl (nF htn)))]) hD hS hA [1, 2] rfl
        refine w_callv (wc := [(hq, .inr (0, [.ref htq, .int (nI hal)])), (htq, .inl (cI, 6, .inl (nF htn)))]) (wr := [(xq, .inr (5, [.ref sq, .ref hq, .ref lq, .ref oq, .ref pq, .ref req]))]) hP hD hS [1, 2] [0] rfl rfl (by decide) (by decide) hFc (va_runV (As := [.int (nI ((2 * M) + V))]) (rest := []) ⟨hx, hb, hml, hown, hts⟩ (m_X0_add l D cI cJ _ hq htq hal htn ((2 * M) + V) (by omega)) (cwV 1 hts gX5_hear_X0_add rfl rfl rfl (by decide +kernel) ⟨Nat.le_of_ble_eq_true rfl, Nat.le_of_ble_eq_true rfl⟩) ⟨PX.blind, va_recv hKB.1 hP (ci := 0) (q0 := 1) rfl rfl, fun U hU hW => ⟨rfl, by rw [hU], hKB.warm hW, by rw [hU]; exact hPc, hDc.weaken (fun _ _ _ _ => trivial)⟩⟩ rfl rfl hl.1 rfl (lv_room (Nat.le_of_ble_eq_true rfl)) dX5_hear_43 ⟨Nat.le_of_ble_eq_true rfl, Nat.le_of_ble_eq_true rfl⟩) (fun u43 H locs hw43 hP hD hS => ?_)
        have hP : va_P D vwCl [(xq, .inr (5, [.ref sq, .ref hq, .ref lq, .ref oq, .ref pq, .ref req])), (hq, .inr (0, [.ref htq, .int (nI (hal + 1))])), (htq, .inl (cI, 6, .inl (nF (nu htn ((2 * M) + V) (htn ((2 * M) + V) + 1)))))] _ := hP
        have hD : va_D A [(xq, .inr (5, [.ref sq, .ref hq, .ref lq, .ref oq, .ref pq, .ref req])), (hq, .inr (0, [.ref htq, .int (nI (hal + 1))])), (htq, .inl (cI, 6, .inl (nF (nu htn ((2 * M) + V) (htn ((2 * M) + V) + 1)))))] := hD
        refine lv_aload_n hx hb dX5_hear_46 rfl (lv_at hl 0 rfl) ?_
        refine va_get (D := D) (ci := 5) (v := .ref hq) (C := RX5) (T := TX5) (N := 6) hx hb hts hiX5 hown hKB.1 hP 0 rfl rfl 1 (by decide) fl19 (fun _ h9 => h9) rfl dX5_hear_47 ?_
        refine va_getN (D := D) (ci := 0) (v := .int (nI (hal + 1))) (C := RX0) (T := TX0) (N := 2) hx hb hts hiX0 hown hKB.1 hP 1 rfl rfl 1 (by decide) (hKB.2.f (q := ("TaughtTongues", 109, "TaughtTongues$Counts", "all", "I")) 0 rfl) (fun _ h9 => h9) rfl dX5_hear_50 ?_
        exact w_iret hx hb hr hlk hQ hAe (nu htn ((2 * M) + V) (htn ((2 * M) + V) + 1), hal + 1) hP hD hS (by simp only [aHr, uHt, uHa, okH, c4, c13, c28, decide_true, Bool.and_self, if_true, tN_n (show M < 2 ^ 31 by omega), tN_n (show V < 2 ^ 31 by omega)]; exact ⟨trivial, trivial, trivial⟩) dX5_hear_53
      refine lv_bipush (v := (-4)) hx hb dX5_hear_31 (by decide) ?_
      exact w_iret hx hb hr hlk hQ hAe (htn, hal) hP hD hS (by simp [aHr, uHt, uHa, okH, c4, c13, show ¬ hal < 6 from Nat.not_lt.mpr c28]) dX5_hear_33
    refine lv_bipush (v := (-2)) hx hb dX5_hear_16 (by decide) ?_
    exact w_iret hx hb hr hlk hQ hAe (htn, hal) hP hD hS (by simp [aHr, uHt, uHa, okH, c4, c13]) dX5_hear_18
  refine lv_iconst (v := (-1)) hx hb dX5_hear_7 (by decide) ?_
  exact w_iret hx hb hr hlk hQ hAe (htn, hal) hP hD hS (by simp [aHr, uHt, uHa, okH, c4]) dX5_hear_8

set_option maxHeartbeats 4000000 in
set_option maxRecDepth 100000 in
theorem m_X5_forget (l : Launch) (D : va_G) (cI cJ : ClassId) (sz : Nat) (xq : Nat) (sq : Nat) (hq : Nat) (lq : Nat) (oq : Nat) (pq : Nat) (req : Nat) (htq : Nat) (hal : Nat) (htn : Nat → Nat) : Met l yX5_forget wsX5_forget ({ frames := 2, cells := 0, slots := 0, locals := 43 }) (PX D cI cJ [(xq, .inr (5, [.ref sq, .ref hq, .ref lq, .ref oq, .ref pq, .ref req])), (hq, .inr (0, [.ref htq, .int (nI hal)])), (htq, .inl (cI, 6, .inl (nF htn)))] sz [.ref xq]) (QWi D (S := Unit) [(xq, .inr (5, [.ref sq, .ref hq, .ref lq, .ref oq, .ref pq, .ref req])), (hq, .inr (0, [.ref htq, .int (nI hal)])), (htq, .inl (cI, 6, .inl (nF htn)))] sz (fun r _ => r = nI (hal)) (fun _ => [(xq, .inr (5, [.ref sq, .ref hq, .ref lq, .ref oq, .ref pq, .ref req])), (hq, .inr (0, [.ref htq, .int (nI 0)])), (htq, .inl (cI, 6, .inl (nF (nfl htn 0 6))))])) 0 0 (va_A [(xq, .inr (5, [.ref sq, .ref hq, .ref lq, .ref oq, .ref pq, .ref req])), (hq, .inr (0, [.ref htq, .int (nI hal)])), (htq, .inl (cI, 6, .inl (nF htn)))] sz) := by
  refine met_X (cc := cX5_forget) (maxL := 2) (ret := (some .int)) (by decide) rfl (Nat.le_of_ble_eq_true rfl) ?_
  intro p e s m args below meth c Q ls A hQ hAe hAt hKB hP hD hA hl
  obtain ⟨hx, hb, hr, hml, hlk, hts, hown, hnm⟩ := hAt
  have hown : s.vm.findClass RX5 = some m.cls := hown
  have hS : va_S A s.heap s.heap [] := va_S.rf
  have hl : lv_has ls 2 [(0, .ref xq)] := hl
  have hiX5 : ∀ w ∈ u_ws RX5 TX5 6, w ∈ wsX5_forget := by decide +kernel
  have fl19 := hts (.fieldLink RX5 19 "TaughtTongues" "heard" "LTaughtTongues$Counts;") (by decide +kernel)
  have hiX0 : ∀ w ∈ u_ws RX0 TX0 2, w ∈ wsX5_forget := by decide +kernel
  refine lv_aload_n hx hb dX5_forget_0 rfl (lv_at hl 0 rfl) ?_
  refine va_get (D := D) (ci := 5) (v := .ref hq) (C := RX5) (T := TX5) (N := 6) hx hb hts hiX5 hown hKB.1 hP 0 rfl rfl 1 (by decide) fl19 (fun _ h9 => h9) rfl dX5_forget_1 ?_
  refine va_getN (D := D) (ci := 0) (v := .int (nI hal)) (C := RX0) (T := TX0) (N := 2) hx hb hts hiX0 hown hKB.1 hP 1 rfl rfl 1 (by decide) (hKB.2.f (q := ("TaughtTongues", 109, "TaughtTongues$Counts", "all", "I")) 0 rfl) (fun _ h9 => h9) rfl dX5_forget_4 ?_
  refine lv_istore_n (lv' := [(1, .int (nI hal)), (0, .ref xq)]) hx hb dX5_forget_7 rfl hl (by decide) rfl (fun ls hl => ?_)
  refine lv_aload_n hx hb dX5_forget_8 rfl (lv_at hl 1 rfl) ?_
  refine va_get (D := D) (ci := 5) (v := .ref hq) (C := RX5) (T := TX5) (N := 6) hx hb hts hiX5 hown hKB.1 hP 0 rfl rfl 1 (by decide) fl19 (fun _ h9 => h9) rfl dX5_forget_9 ?_
  have hPc := hP.sub (ws' := [(hq, .inr (0, [.ref htq, .int (nI hal)])), (htq, .inl (cI, 6, .inl (nF htn)))]) [1, 2] rfl
  have hDc := hD.sub (ws' := [(hq, .inr (0, [.ref htq, .int (nI hal)])), (htq, .inl (cI, 6, .inl (nF htn)))]) [1, 2] (by decide) rfl
  have hFc := va_free (wc := [(hq, .inr (0, [.ref htq, .int (nI hal)])), (htq, .inl (cI, 6, .inl (nF htn)))]) hD hS hA [1, 2] rfl
  refine w_callv (wc := [(hq, .inr (0, [.ref htq, .int (nI hal)])), (htq, .inl (cI, 6, .inl (nF htn)))]) (wr := [(xq, .inr (5, [.ref sq, .ref hq, .ref lq, .ref oq, .ref pq, .ref req]))]) hP hD hS [1, 2] [0] rfl rfl (by decide) (by decide) hFc (va_runV (As := []) (rest := []) ⟨hx, hb, hml, hown, hts⟩ (m_X0_clear l D cI cJ _ hq htq hal htn) (cwV 0 hts gX5_forget_X0_clear rfl rfl rfl (by decide +kernel) ⟨Nat.le_of_ble_eq_true rfl, Nat.le_of_ble_eq_true rfl⟩) ⟨PX.blind, va_recv hKB.1 hP (ci := 0) (q0 := 1) rfl rfl, fun U hU hW => ⟨rfl, by rw [hU], hKB.warm hW, by rw [hU]; exact hPc, hDc.weaken (fun _ _ _ _ => trivial)⟩⟩ rfl rfl hl.1 rfl (lv_room (Nat.le_of_ble_eq_true rfl)) dX5_forget_12 ⟨Nat.le_of_ble_eq_true rfl, Nat.le_of_ble_eq_true rfl⟩) (fun u12 H locs hw12 hP hD hS => ?_)
  have hP : va_P D vwCl [(xq, .inr (5, [.ref sq, .ref hq, .ref lq, .ref oq, .ref pq, .ref req])), (hq, .inr (0, [.ref htq, .int (nI 0)])), (htq, .inl (cI, 6, .inl (nF (nfl htn 0 6))))] _ := hP
  have hD : va_D A [(xq, .inr (5, [.ref sq, .ref hq, .ref lq, .ref oq, .ref pq, .ref req])), (hq, .inr (0, [.ref htq, .int (nI 0)])), (htq, .inl (cI, 6, .inl (nF (nfl htn 0 6))))] := hD
  refine lv_iload_n hx hb dX5_forget_15 rfl (lv_at hl 0 rfl) ?_
  exact w_iret hx hb hr hlk hQ hAe () hP hD hS (rfl) dX5_forget_16

set_option maxHeartbeats 4000000 in
set_option maxRecDepth 100000 in
theorem m_X5_likeness (l : Launch) (D : va_G) (cI cJ : ClassId) (xq : Nat) (sq : Nat) (hq : Nat) (lq : Nat) (oq : Nat) (pq : Nat) (req : Nat) (nq : Nat) (slip : Nat) (kd : Nat) (num : Nat → Nat) (htq : Nat) (hal : Nat) (htn : Nat → Nat) (p0 : Int32) (hsl : slip ≤ 12) (hnum : ∀ j, j < 8 → num j < 10) (hkd : kd < 3) (hal6 : hal ≤ 6) (hsh : ∀ j, j < 8 → shw htn j 3 ≤ hal) : Met l yX5_likeness wsX5_likeness ({ frames := 3, cells := 0, slots := 0, locals := 71 }) (PR D cI cJ [(xq, .inr (5, [.ref sq, .ref hq, .ref lq, .ref oq, .ref pq, .ref req])), (lq, .inr (1, [.ref nq, .int (nI slip), .int (nI kd)])), (nq, .inl (cI, 8, .inl (nF num))), (hq, .inr (0, [.ref htq, .int (nI hal)])), (htq, .inl (cI, 6, .inl (nF htn)))] [.ref xq, .int p0]) (QRl (fun r => r = aLk (lkC num slip htn hal) p0)) 0 0 NA := by
  refine met_R (cc := cX5_likeness) (maxL := 2) (ret := (some .long)) (by decide) rfl (Nat.le_of_ble_eq_true rfl) ?_
  intro p e s m args below meth c Q ls hQ hAt hKB hP hl
  obtain ⟨hx, hb, hr, hml, hlk, hts, hown, hnm⟩ := hAt
  have hown : s.vm.findClass RX5 = some m.cls := hown
  have hS : va_S NA s.heap s.heap [] := va_S.rf
  have hl : lv_has ls 2 [(0, .ref xq), (1, .int p0)] := hl
  have kl121 := hts (.constantLong RX5 121 ((-1))) (by decide +kernel)
  have hiX5 : ∀ w ∈ u_ws RX5 TX5 6, w ∈ wsX5_likeness := by decide +kernel
  have fl26 := hts (.fieldLink RX5 26 "TaughtTongues" "learner" "LTaughtTongues$Learner;") (by decide +kernel)
  have fl19 := hts (.fieldLink RX5 19 "TaughtTongues" "heard" "LTaughtTongues$Counts;") (by decide +kernel)
  refine lv_iload_n hx hb dX5_likeness_0 rfl (lv_at hl 1 rfl) ?_
  have hPc := hP.sub (ws' := []) [] rfl
  refine r_calli hP hS (va_runS (As := [.int p0]) (rest := []) ⟨hx, hb, hml, hown, hts⟩ (m_X5_isTongue l D cI cJ p0) (va_cwS 1 hts gX5_likeness_X5_isTongue rfl rfl rfl (by decide +kernel) ⟨Nat.le_of_ble_eq_true rfl, Nat.le_of_ble_eq_true rfl⟩) ⟨PR.blind, fun U hU hW => ⟨rfl, hKB.warm hW, by rw [hU]; exact hPc⟩⟩ rfl rfl hl.1 rfl (lv_room (Nat.le_of_ble_eq_true rfl)) dX5_likeness_1 ⟨Nat.le_of_ble_eq_true rfl, Nat.le_of_ble_eq_true rfl⟩) (fun r1 H locs hw1 hP hS => ?_)
  have hw1 : r1 = bI (inR p0 0 7) := hw1
  subst hw1
  refine r_bif_eq (b := inR p0 0 7) (tgt := 22) hx hb dX5_likeness_4 (by decide) (fun c4 => ?_) (fun c4 => ?_)
  · skip
    refine lv_ldc2 hx hb hown kl121 dX5_likeness_22 ?_
    exact r_lret hx hb hr hlk hQ hS (by first | (simp only [aLk, c4, if_true, tN_n (show V < 2 ^ 31 by omega)]; done) | (simp [aLk, c4]; done)) dX5_likeness_25
  obtain ⟨V, -, hV, rfl⟩ := inR_t (by decide) (by decide) c4
  refine lv_aload_n hx hb dX5_likeness_7 rfl (lv_at hl 0 rfl) ?_
  refine va_get (D := D) (ci := 5) (v := .ref lq) (C := RX5) (T := TX5) (N := 6) hx hb hts hiX5 hown hKB.1 hP 0 rfl rfl 2 (by decide) fl26 (fun _ h9 => h9) rfl dX5_likeness_8 ?_
  refine lv_iload_n hx hb dX5_likeness_11 rfl (lv_at hl 1 rfl) ?_
  refine lv_aload_n hx hb dX5_likeness_12 rfl (lv_at hl 0 rfl) ?_
  refine va_get (D := D) (ci := 5) (v := .ref hq) (C := RX5) (T := TX5) (N := 6) hx hb hts hiX5 hown hKB.1 hP 0 rfl rfl 1 (by decide) fl19 (fun _ h9 => h9) rfl dX5_likeness_13 ?_
  have hPc := hP.sub (ws' := [(lq, .inr (1, [.ref nq, .int (nI slip), .int (nI kd)])), (nq, .inl (cI, 8, .inl (nF num))), (hq, .inr (0, [.ref htq, .int (nI hal)])), (htq, .inl (cI, 6, .inl (nF htn)))]) [1, 2, 3, 4] rfl
  refine r_calll hP hS (va_runV (As := [.int (nI V), .ref hq]) (rest := []) ⟨hx, hb, hml, hown, hts⟩ (m_X1_likenessOf l D cI cJ lq nq slip kd num hq htq hal htn V (by omega) (by assumption) (by assumption) (by assumption) (by assumption)) (cwV 2 hts gX5_likeness_X1_likenessOf rfl rfl rfl (by decide +kernel) ⟨Nat.le_of_ble_eq_true rfl, Nat.le_of_ble_eq_true rfl⟩) ⟨PR.blind, va_recv hKB.1 hP (ci := 1) (q0 := 1) rfl rfl, fun U hU hW => ⟨rfl, hKB.warm hW, by rw [hU]; exact hPc⟩⟩ rfl rfl hl.1 rfl (lv_room (Nat.le_of_ble_eq_true rfl)) dX5_likeness_16 ⟨Nat.le_of_ble_eq_true rfl, Nat.le_of_ble_eq_true rfl⟩) (fun r2 H locs hw16 hP hS => ?_)
  have hw16 : r2 = lN (lkC num slip htn hal V) := hw16
  subst hw16
  refine lv_goto (tgt := 25) hx hb dX5_likeness_19 (by decide) ?_
  exact r_lret hx hb hr hlk hQ hS (by first | (simp only [aLk, c4, if_true, tN_n (show V < 2 ^ 31 by omega)]; done) | (simp [aLk, c4]; done)) dX5_likeness_25

set_option maxHeartbeats 4000000 in
set_option maxRecDepth 100000 in
theorem m_X5_takes (l : Launch) (D : va_G) (cI cJ : ClassId) (xq : Nat) (sq : Nat) (hq : Nat) (lq : Nat) (oq : Nat) (pq : Nat) (req : Nat) (nq : Nat) (slip : Nat) (kd : Nat) (num : Nat → Nat) (htq : Nat) (hal : Nat) (htn : Nat → Nat) (hsl : slip ≤ 12) (hnum : ∀ j, j < 8 → num j < 10) (hkd : kd < 3) (hal6 : hal ≤ 6) (hsh : ∀ j, j < 8 → shw htn j 3 ≤ hal) : Met l yX5_takes wsX5_takes ({ frames := 3, cells := 0, slots := 0, locals := 76 }) (PR D cI cJ [(xq, .inr (5, [.ref sq, .ref hq, .ref lq, .ref oq, .ref pq, .ref req])), (lq, .inr (1, [.ref nq, .int (nI slip), .int (nI kd)])), (nq, .inl (cI, 8, .inl (nF num))), (hq, .inr (0, [.ref htq, .int (nI hal)])), (htq, .inl (cI, 6, .inl (nF htn)))] [.ref xq]) (QRi (fun r => r = nI (tk (lkC num slip htn hal) kd (fun t => decide (shw htn t 3 = hal))))) 0 0 NA := by
  refine met_R (cc := cX5_takes) (maxL := 1) (ret := (some .int)) (by decide) rfl (Nat.le_of_ble_eq_true rfl) ?_
  intro p e s m args below meth c Q ls hQ hAt hKB hP hl
  obtain ⟨hx, hb, hr, hml, hlk, hts, hown, hnm⟩ := hAt
  have hown : s.vm.findClass RX5 = some m.cls := hown
  have hS : va_S NA s.heap s.heap [] := va_S.rf
  have hl : lv_has ls 1 [(0, .ref xq)] := hl
  have hiX5 : ∀ w ∈ u_ws RX5 TX5 6, w ∈ wsX5_takes := by decide +kernel
  have fl26 := hts (.fieldLink RX5 26 "TaughtTongues" "learner" "LTaughtTongues$Learner;") (by decide +kernel)
  have fl19 := hts (.fieldLink RX5 19 "TaughtTongues" "heard" "LTaughtTongues$Counts;") (by decide +kernel)
  refine lv_aload_n hx hb dX5_takes_0 rfl (lv_at hl 0 rfl) ?_
  refine va_get (D := D) (ci := 5) (v := .ref lq) (C := RX5) (T := TX5) (N := 6) hx hb hts hiX5 hown hKB.1 hP 0 rfl rfl 2 (by decide) fl26 (fun _ h9 => h9) rfl dX5_takes_1 ?_
  refine lv_aload_n hx hb dX5_takes_4 rfl (lv_at hl 0 rfl) ?_
  refine va_get (D := D) (ci := 5) (v := .ref hq) (C := RX5) (T := TX5) (N := 6) hx hb hts hiX5 hown hKB.1 hP 0 rfl rfl 1 (by decide) fl19 (fun _ h9 => h9) rfl dX5_takes_5 ?_
  have hPc := hP.sub (ws' := [(lq, .inr (1, [.ref nq, .int (nI slip), .int (nI kd)])), (nq, .inl (cI, 8, .inl (nF num))), (hq, .inr (0, [.ref htq, .int (nI hal)])), (htq, .inl (cI, 6, .inl (nF htn)))]) [1, 2, 3, 4] rfl
  refine r_calli hP hS (va_runV (As := [.ref hq]) (rest := []) ⟨hx, hb, hml, hown, hts⟩ (m_X1_choice l D cI cJ lq nq slip kd num hq htq hal htn (by assumption) (by assumption) (by assumption) (by assumption) (by assumption)) (cwV 1 hts gX5_takes_X1_choice rfl rfl rfl (by decide +kernel) ⟨Nat.le_of_ble_eq_true rfl, Nat.le_of_ble_eq_true rfl⟩) ⟨PR.blind, va_recv hKB.1 hP (ci := 1) (q0 := 1) rfl rfl, fun U hU hW => ⟨rfl, hKB.warm hW, by rw [hU]; exact hPc⟩⟩ rfl rfl hl.1 rfl (lv_room (Nat.le_of_ble_eq_true rfl)) dX5_takes_8 ⟨Nat.le_of_ble_eq_true rfl, Nat.le_of_ble_eq_true rfl⟩) (fun r1 H locs hw8 hP hS => ?_)
  have hw8 : r1 = nI (tk (lkC num slip htn hal) kd (fun t => decide (shw htn t 3 = hal))) := hw8
  subst hw8
  exact r_iret hx hb hr hlk hQ hS (rfl) dX5_takes_11

set_option maxHeartbeats 4000000 in
set_option maxRecDepth 100000 in
theorem m_X5_thinks (l : Launch) (D : va_G) (cI cJ : ClassId) (xq : Nat) (sq : Nat) (hq : Nat) (lq : Nat) (oq : Nat) (pq : Nat) (req : Nat) (nq : Nat) (slip : Nat) (kd : Nat) (num : Nat → Nat) (htq : Nat) (hal : Nat) (htn : Nat → Nat) (p0 : Int32) (p1 : Int32) (hsl : slip ≤ 12) (hnum : ∀ j, j < 8 → num j < 10) (hkd : kd < 3) (hal6 : hal ≤ 6) (hsh : ∀ j, j < 8 → shw htn j 3 ≤ hal) : Met l yX5_thinks wsX5_thinks ({ frames := 3, cells := 0, slots := 0, locals := 71 }) (PR D cI cJ [(xq, .inr (5, [.ref sq, .ref hq, .ref lq, .ref oq, .ref pq, .ref req])), (lq, .inr (1, [.ref nq, .int (nI slip), .int (nI kd)])), (nq, .inl (cI, 8, .inl (nF num))), (hq, .inr (0, [.ref htq, .int (nI hal)])), (htq, .inl (cI, 6, .inl (nF htn)))] [.ref xq, .int p0, .int p1]) (QRl (fun r => r = aTh (lkC num slip htn hal) p0 p1)) 0 0 NA := by
  refine met_R (cc := cX5_thinks) (maxL := 7) (ret := (some .long)) (by decide) rfl (Nat.le_of_ble_eq_true rfl) ?_
  intro p e s m args below meth c Q ls hQ hAt hKB hP hl
  obtain ⟨hx, hb, hr, hml, hlk, hts, hown, hnm⟩ := hAt
  have hown : s.vm.findClass RX5 = some m.cls := hown
  have hS : va_S NA s.heap s.heap [] := va_S.rf
  have hl : lv_has ls 7 [(0, .ref xq), (1, .int p0), (2, .int p1)] := hl
  have hiX5 : ∀ w ∈ u_ws RX5 TX5 6, w ∈ wsX5_thinks := by decide +kernel
  have fl26 := hts (.fieldLink RX5 26 "TaughtTongues" "learner" "LTaughtTongues$Learner;") (by decide +kernel)
  have fl19 := hts (.fieldLink RX5 19 "TaughtTongues" "heard" "LTaughtTongues$Counts;") (by decide +kernel)
  have kl130 := hts (.constantLong RX5 130 ((-1000000000000000000))) (by decide +kernel)
  have hlb : ∀ t, t < 8 → lkC num slip htn hal t < 2 ^ 59 := fun t ht => lkC_lt2 (hnum t ht) hsl hal6 (hsh t ht)
  refine lv_iload_n hx hb dX5_thinks_0 rfl (lv_at hl 1 rfl) ?_
  have hPc := hP.sub (ws' := []) [] rfl
  refine r_calli hP hS (va_runS (As := [.int p0]) (rest := []) ⟨hx, hb, hml, hown, hts⟩ (m_X5_isTongue l D cI cJ p0) (va_cwS 1 hts gX5_thinks_X5_isTongue rfl rfl rfl (by decide +kernel) ⟨Nat.le_of_ble_eq_true rfl, Nat.le_of_ble_eq_true rfl⟩) ⟨PR.blind, fun U hU hW => ⟨rfl, hKB.warm hW, by rw [hU]; exact hPc⟩⟩ rfl rfl hl.1 rfl (lv_room (Nat.le_of_ble_eq_true rfl)) dX5_thinks_1 ⟨Nat.le_of_ble_eq_true rfl, Nat.le_of_ble_eq_true rfl⟩) (fun r1 H locs hw1 hP hS => ?_)
  have hw1 : r1 = bI (inR p0 0 7) := hw1
  subst hw1
  refine lv_iload_n hx hb dX5_thinks_4 rfl (lv_at hl 2 rfl) ?_
  have hPc := hP.sub (ws' := []) [] rfl
  refine r_calli hP hS (va_runS (As := [.int p1]) (rest := [.int (bI (inR p0 0 7))]) ⟨hx, hb, hml, hown, hts⟩ (m_X5_isPart l D cI cJ p1) (va_cwS 1 hts gX5_thinks_X5_isPart rfl rfl rfl (by decide +kernel) ⟨Nat.le_of_ble_eq_true rfl, Nat.le_of_ble_eq_true rfl⟩) ⟨PR.blind, fun U hU hW => ⟨rfl, hKB.warm hW, by rw [hU]; exact hPc⟩⟩ rfl rfl hl.1 rfl (lv_room (Nat.le_of_ble_eq_true rfl)) dX5_thinks_5 ⟨Nat.le_of_ble_eq_true rfl, Nat.le_of_ble_eq_true rfl⟩) (fun r2 H locs hw5 hP hS => ?_)
  have hw5 : r2 = bI (inR p1 0 1) := hw5
  subst hw5
  have hPc := hP.sub (ws' := []) [] rfl
  refine r_calli hP hS (va_runS (As := [.int (bI (inR p0 0 7)), .int (bI (inR p1 0 1))]) (rest := []) ⟨hx, hb, hml, hown, hts⟩ (m_X5_refusalOf l D cI cJ (inR p0 0 7) (inR p1 0 1)) (va_cwS 2 hts gX5_thinks_X5_refusalOf rfl rfl rfl (by decide +kernel) ⟨Nat.le_of_ble_eq_true rfl, Nat.le_of_ble_eq_true rfl⟩) ⟨PR.blind, fun U hU hW => ⟨rfl, hKB.warm hW, by rw [hU]; exact hPc⟩⟩ rfl rfl hl.1 rfl (lv_room (Nat.le_of_ble_eq_true rfl)) dX5_thinks_8 ⟨Nat.le_of_ble_eq_true rfl, Nat.le_of_ble_eq_true rfl⟩) (fun r3 H locs hw8 hP hS => ?_)
  have hw8 : r3 = rfo (inR p0 0 7) (inR p1 0 1) := hw8
  subst hw8
  refine lv_istore_n (lv' := [(3, .int (rfo (inR p0 0 7) (inR p1 0 1))), (0, .ref xq), (1, .int p0), (2, .int p1)]) hx hb dX5_thinks_11 rfl hl (by decide) rfl (fun ls hl => ?_)
  refine lv_iload_n hx hb dX5_thinks_12 rfl (lv_at hl 0 rfl) ?_
  refine lv_if_eq (tgt := 23) hx hb dX5_thinks_13 (by decide) (fun c13 => ?_) (fun c13 => ?_)
  · skip
    obtain ⟨V, -, hV, rfl⟩ := inR_t (by decide) (by decide) (rfo_0.mp c13).1
    obtain ⟨Pt, -, hPt, rfl⟩ := inR_t (by decide) (by decide) (rfo_0.mp c13).2
    refine lv_lconst (v := lN (0)) hx hb dX5_thinks_23 (by decide) ?_
    refine lv_lstore (lv' := [(4, .long (lN 0)), (3, .int (rfo (inR (nI (V)) 0 7) (inR (nI (Pt)) 0 1))), (0, .ref xq), (1, .int (nI V)), (2, .int (nI Pt))]) hx hb dX5_thinks_24 hl (by decide) rfl (fun ls hl => ?_)
    refine lv_iconst (v := nI (0)) hx hb dX5_thinks_26 (by decide) ?_
    refine lv_istore (lv' := [(6, .int (nI 0)), (4, .long (lN 0)), (3, .int (rfo (inR (nI (V)) 0 7) (inR (nI (Pt)) 0 1))), (0, .ref xq), (1, .int (nI V)), (2, .int (nI Pt))]) hx hb dX5_thinks_27 hl (by decide) rfl (fun ls hl => ?_)
    have L29 : ∀ (n : Nat) (k : Nat) (H : Heap) (locs : List Loc) (ls : Array Slot), 8 - k < n → (k ≤ 8) → va_P D vwCl [(xq, .inr (5, [.ref sq, .ref hq, .ref lq, .ref oq, .ref pq, .ref req])), (lq, .inr (1, [.ref nq, .int (nI slip), .int (nI kd)])), (nq, .inl (cI, 8, .inl (nF num))), (hq, .inr (0, [.ref htq, .int (nI hal)])), (htq, .inl (cI, 6, .inl (nF htn)))] H → va_S NA s.heap H locs → lv_has ls 7 [(6, .int (nI k)), (4, .long (lN (sm k (lkC num slip htn hal)))), (3, .int (rfo (inR (nI (V)) 0 7) (inR (nI (Pt)) 0 1))), (0, .ref xq), (1, .int (nI V)), (2, .int (nI Pt))] → W p l e ({ frames := 3, cells := 0, slots := 0, locals := 71 }) s m args below meth c H locs 0 0 Q (F0 m 29 ls []) := by
      intro n
      induction n with
      | zero => intro k H locs ls hm; exact absurd hm (Nat.not_lt_zero _)
      | succ n ih29 =>
        intro k H locs ls hm hk hP hS hl
        refine lv_iload hx hb dX5_thinks_29 (lv_at hl 0 rfl) ?_
        refine lv_bipush (v := nI (8)) hx hb dX5_thinks_31 (by decide) ?_
        refine r_icmp_ge (a := k) (b := 8) (tgt := 60) hx hb dX5_thinks_33 (by decide) (by omega) (by omega)  (fun c33 => ?_) (fun c33 => ?_)
        · skip
          obtain rfl : 8 = k := by omega
          have hlv := hlb V (by omega)
          refine lv_aload_n hx hb dX5_thinks_60 rfl (lv_at hl 3 rfl) ?_
          refine va_get (D := D) (ci := 5) (v := .ref lq) (C := RX5) (T := TX5) (N := 6) hx hb hts hiX5 hown hKB.1 hP 0 rfl rfl 2 (by decide) fl26 (fun _ h9 => h9) rfl dX5_thinks_61 ?_
          refine lv_iload_n hx hb dX5_thinks_64 rfl (lv_at hl 4 rfl) ?_
          refine lv_aload_n hx hb dX5_thinks_65 rfl (lv_at hl 3 rfl) ?_
          refine va_get (D := D) (ci := 5) (v := .ref hq) (C := RX5) (T := TX5) (N := 6) hx hb hts hiX5 hown hKB.1 hP 0 rfl rfl 1 (by decide) fl19 (fun _ h9 => h9) rfl dX5_thinks_66 ?_
          have hPc := hP.sub (ws' := [(lq, .inr (1, [.ref nq, .int (nI slip), .int (nI kd)])), (nq, .inl (cI, 8, .inl (nF num))), (hq, .inr (0, [.ref htq, .int (nI hal)])), (htq, .inl (cI, 6, .inl (nF htn)))]) [1, 2, 3, 4] rfl
          refine r_calll hP hS (va_runV (As := [.int (nI V), .ref hq]) (rest := []) ⟨hx, hb, hml, hown, hts⟩ (m_X1_likenessOf l D cI cJ lq nq slip kd num hq htq hal htn V (by omega) (by assumption) (by assumption) (by assumption) (by assumption)) (cwV 2 hts gX5_thinks_X1_likenessOf rfl rfl rfl (by decide +kernel) ⟨Nat.le_of_ble_eq_true rfl, Nat.le_of_ble_eq_true rfl⟩) ⟨PR.blind, va_recv hKB.1 hP (ci := 1) (q0 := 1) rfl rfl, fun U hU hW => ⟨rfl, hKB.warm hW, by rw [hU]; exact hPc⟩⟩ rfl rfl hl.1 rfl (lv_room (Nat.le_of_ble_eq_true rfl)) dX5_thinks_69 ⟨Nat.le_of_ble_eq_true rfl, Nat.le_of_ble_eq_true rfl⟩) (fun r4 H locs hw69 hP hS => ?_)
          have hw69 : r4 = lN (lkC num slip htn hal V) := hw69
          subst hw69
          refine lv_lload hx hb dX5_thinks_72 (lv_at hl 1 rfl) ?_
          refine lv_iload_n hx hb dX5_thinks_74 rfl (lv_at hl 5 rfl) ?_
          have hPc := hP.sub (ws' := []) [] rfl
          refine r_calll hP hS (va_runS (As := [.long (lN (lkC num slip htn hal V)), .long (lN (sm 8 (lkC num slip htn hal))), .int (nI Pt)]) (rest := []) ⟨hx, hb, hml, hown, hts⟩ (m_X5_fraction l D cI cJ (lkC num slip htn hal V) (sm 8 (lkC num slip htn hal)) Pt (by omega) (lk8_lt hlb) (hPt)) (va_cwS 3 hts gX5_thinks_X5_fraction rfl rfl rfl (by decide +kernel) ⟨Nat.le_of_ble_eq_true rfl, Nat.le_of_ble_eq_true rfl⟩) ⟨PR.blind, fun U hU hW => ⟨rfl, hKB.warm hW, by rw [hU]; exact hPc⟩⟩ rfl rfl hl.1 rfl (lv_room (Nat.le_of_ble_eq_true rfl)) dX5_thinks_75 ⟨Nat.le_of_ble_eq_true rfl, Nat.le_of_ble_eq_true rfl⟩) (fun r5 H locs hw75 hP hS => ?_)
          have hw75 : r5 = lN (lwst (lkC num slip htn hal V) (sm 8 (lkC num slip htn hal)) Pt) := hw75
          subst hw75
          exact r_lret hx hb hr hlk hQ hS (by rw [aTh, if_pos c13, tN_n (show V < 2 ^ 31 by omega), tN_n (show Pt < 2 ^ 31 by omega)]) dX5_thinks_78
        refine lv_lload hx hb dX5_thinks_36 (lv_at hl 1 rfl) ?_
        refine lv_aload_n hx hb dX5_thinks_38 rfl (lv_at hl 3 rfl) ?_
        refine va_get (D := D) (ci := 5) (v := .ref lq) (C := RX5) (T := TX5) (N := 6) hx hb hts hiX5 hown hKB.1 hP 0 rfl rfl 2 (by decide) fl26 (fun _ h9 => h9) rfl dX5_thinks_39 ?_
        refine lv_iload hx hb dX5_thinks_42 (lv_at hl 0 rfl) ?_
        refine lv_aload_n hx hb dX5_thinks_44 rfl (lv_at hl 3 rfl) ?_
        refine va_get (D := D) (ci := 5) (v := .ref hq) (C := RX5) (T := TX5) (N := 6) hx hb hts hiX5 hown hKB.1 hP 0 rfl rfl 1 (by decide) fl19 (fun _ h9 => h9) rfl dX5_thinks_45 ?_
        have hPc := hP.sub (ws' := [(lq, .inr (1, [.ref nq, .int (nI slip), .int (nI kd)])), (nq, .inl (cI, 8, .inl (nF num))), (hq, .inr (0, [.ref htq, .int (nI hal)])), (htq, .inl (cI, 6, .inl (nF htn)))]) [1, 2, 3, 4] rfl
        refine r_calll hP hS (va_runV (As := [.int (nI k), .ref hq]) (rest := [.long (lN (sm k (lkC num slip htn hal)))]) ⟨hx, hb, hml, hown, hts⟩ (m_X1_likenessOf l D cI cJ lq nq slip kd num hq htq hal htn k (by omega) (by assumption) (by assumption) (by assumption) (by assumption)) (cwV 2 hts gX5_thinks_X1_likenessOf rfl rfl rfl (by decide +kernel) ⟨Nat.le_of_ble_eq_true rfl, Nat.le_of_ble_eq_true rfl⟩) ⟨PR.blind, va_recv hKB.1 hP (ci := 1) (q0 := 1) rfl rfl, fun U hU hW => ⟨rfl, hKB.warm hW, by rw [hU]; exact hPc⟩⟩ rfl rfl hl.1 rfl (lv_room (Nat.le_of_ble_eq_true rfl)) dX5_thinks_48 ⟨Nat.le_of_ble_eq_true rfl, Nat.le_of_ble_eq_true rfl⟩) (fun r6 H locs hw48 hP hS => ?_)
        have hw48 : r6 = lN (lkC num slip htn hal k) := hw48
        subst hw48
        refine r_ladd (a := sm k (lkC num slip htn hal)) (b := lkC num slip htn hal k) hx hb dX5_thinks_51  ?_
        refine lv_lstore (lv' := [(4, .long (lN ((sm k (lkC num slip htn hal)) + (lkC num slip htn hal k)))), (6, .int (nI k)), (3, .int (rfo (inR (nI (V)) 0 7) (inR (nI (Pt)) 0 1))), (0, .ref xq), (1, .int (nI V)), (2, .int (nI Pt))]) hx hb dX5_thinks_52 hl (by decide) rfl (fun ls hl => ?_)
        refine lv_iinc (v := nI (k + 1)) (lv' := [(6, .int (nI (k + 1))), (4, .long (lN ((sm k (lkC num slip htn hal)) + (lkC num slip htn hal k)))), (3, .int (rfo (inR (nI (V)) 0 7) (inR (nI (Pt)) 0 1))), (0, .ref xq), (1, .int (nI V)), (2, .int (nI Pt))]) hx hb dX5_thinks_54 hl (k := 1) rfl (n_inc _ 1) (by decide) rfl (fun ls hl => ?_)
        refine lv_goto (tgt := 29) hx hb dX5_thinks_57 (by decide) ?_
        exact ih29 (k + 1) _ _ _ (by omega) (by omega) hP hS hl
    exact L29 (8 - 0 + 1) 0 _ _ _ (Nat.lt_succ_self _) (by omega) hP hS hl
  refine lv_ldc2 hx hb hown kl130 dX5_thinks_16 ?_
  refine lv_iload_n hx hb dX5_thinks_19 rfl (lv_at hl 0 rfl) ?_
  refine lv_i2l (v := (rfo (inR p0 0 7) (inR p1 0 1)).toInt64) hx hb dX5_thinks_20 rfl ?_
  refine lv_ladd hx hb dX5_thinks_21  ?_
  exact r_lret hx hb hr hlk hQ hS (by rw [aTh, if_neg c13]; rfl) dX5_thinks_22

set_option maxHeartbeats 4000000 in
set_option maxRecDepth 100000 in
theorem m_X5_told (l : Launch) (D : va_G) (cI cJ : ClassId) (xq : Nat) (sq : Nat) (hq : Nat) (lq : Nat) (oq : Nat) (pq : Nat) (req : Nat) (qc : Nat) (cnt : Nat) (htq : Nat) (hal : Nat) (nq : Nat) (slip : Nat) (kd : Nat) (wq : Nat) (h : Nat) (bq : Nat) (teq : Nat) (loq : Nat) (rq : Nat) (odq : Nat) (kn : Nat) (nwq : Nat) (nxq : Nat) (w : Nat → Nat) (p0 : Int32) : Met l yX5_told wsX5_told ({ frames := 0, cells := 0, slots := 0, locals := 0 }) (PR D cI cJ [(xq, .inr (5, [.ref sq, .ref hq, .ref lq, .ref oq, .ref pq, .ref req])), (sq, .inr (3, [.ref qc, .int (nI cnt)])), (hq, .inr (0, [.ref htq, .int (nI hal)])), (lq, .inr (1, [.ref nq, .int (nI slip), .int (nI kd)])), (pq, .inr (4, [.ref lq, .ref oq, .ref wq, .int (nI h), .ref bq, .ref teq, .ref loq, .ref rq, .ref odq, .int (nI kn), .ref nwq, .ref nxq])), (wq, .inl (cI, 3, .inl (nF w)))] [.ref xq, .int p0]) (QRi (fun r => r = aTo w slip h kd cnt hal p0)) 0 0 NA := by
  refine met_R (cc := cX5_told) (maxL := 2) (ret := (some .int)) (by decide) rfl (Nat.le_of_ble_eq_true rfl) ?_
  intro p e s m args below meth c Q ls hQ hAt hKB hP hl
  obtain ⟨hx, hb, hr, hml, hlk, hts, hown, hnm⟩ := hAt
  have hown : s.vm.findClass RX5 = some m.cls := hown
  have hS : va_S NA s.heap s.heap [] := va_S.rf
  have hl : lv_has ls 2 [(0, .ref xq), (1, .int p0)] := hl
  have hiX5 : ∀ w ∈ u_ws RX5 TX5 6, w ∈ wsX5_told := by decide +kernel
  have fl26 := hts (.fieldLink RX5 26 "TaughtTongues" "learner" "LTaughtTongues$Learner;") (by decide +kernel)
  have hiX1 : ∀ w ∈ u_ws RX1 TX1 3, w ∈ wsX5_told := by decide +kernel
  have fl44 := hts (.fieldLink RX5 44 "TaughtTongues" "steps" "LTaughtTongues$Steps;") (by decide +kernel)
  have hiX4 : ∀ w ∈ u_ws RX4 TX4 12, w ∈ wsX5_told := by decide +kernel
  have fl10 := hts (.fieldLink RX5 10 "TaughtTongues" "signs" "LTaughtTongues$Signs;") (by decide +kernel)
  have hiX3 : ∀ w ∈ u_ws RX3 TX3 2, w ∈ wsX5_told := by decide +kernel
  have fl19 := hts (.fieldLink RX5 19 "TaughtTongues" "heard" "LTaughtTongues$Counts;") (by decide +kernel)
  have hiX0 : ∀ w ∈ u_ws RX0 TX0 2, w ∈ wsX5_told := by decide +kernel
  refine lv_iload_n hx hb dX5_told_0 rfl (lv_at hl 1 rfl) ?_
  by_cases sw0 : p0 = nI 0
  · subst sw0
    refine lv_tableIn (x := nI 0) (off := 67) (tgt := 68) hx hb dX5_told_1 (by decide) (by decide) (by decide) (by decide) ?_
    refine lv_aload_n hx hb dX5_told_68 rfl (lv_at hl 0 rfl) ?_
    refine va_get (D := D) (ci := 5) (v := .ref lq) (C := RX5) (T := TX5) (N := 6) hx hb hts hiX5 hown hKB.1 hP 0 rfl rfl 2 (by decide) fl26 (fun _ h9 => h9) rfl dX5_told_69 ?_
    refine va_getN (D := D) (ci := 1) (v := .int (nI slip)) (C := RX1) (T := TX1) (N := 3) hx hb hts hiX1 hown hKB.1 hP 3 rfl rfl 1 (by decide) (hKB.2.f (q := ("TaughtTongues", 196, "TaughtTongues$Learner", "slip", "I")) 2 rfl) (fun _ h9 => h9) rfl dX5_told_72 ?_
    exact r_iret hx hb hr hlk hQ hS (rfl) dX5_told_75
  by_cases sw1 : p0 = nI 1
  · subst sw1
    refine lv_tableIn (x := nI 1) (off := 75) (tgt := 76) hx hb dX5_told_1 (by decide) (by decide) (by decide) (by decide) ?_
    refine lv_aload_n hx hb dX5_told_76 rfl (lv_at hl 0 rfl) ?_
    refine va_get (D := D) (ci := 5) (v := .ref pq) (C := RX5) (T := TX5) (N := 6) hx hb hts hiX5 hown hKB.1 hP 0 rfl rfl 4 (by decide) fl44 (fun _ h9 => h9) rfl dX5_told_77 ?_
    refine va_getN (D := D) (ci := 4) (v := .int (nI h)) (C := RX4) (T := TX4) (N := 12) hx hb hts hiX4 hown hKB.1 hP 4 rfl rfl 3 (by decide) (hKB.2.f (q := ("TaughtTongues", 148, "TaughtTongues$Steps", "hears", "I")) 1 rfl) (fun _ h9 => h9) rfl dX5_told_80 ?_
    exact r_iret hx hb hr hlk hQ hS (rfl) dX5_told_83
  by_cases sw2 : p0 = nI 2
  · subst sw2
    refine lv_tableIn (x := nI 2) (off := 83) (tgt := 84) hx hb dX5_told_1 (by decide) (by decide) (by decide) (by decide) ?_
    refine lv_aload_n hx hb dX5_told_84 rfl (lv_at hl 0 rfl) ?_
    refine va_get (D := D) (ci := 5) (v := .ref lq) (C := RX5) (T := TX5) (N := 6) hx hb hts hiX5 hown hKB.1 hP 0 rfl rfl 2 (by decide) fl26 (fun _ h9 => h9) rfl dX5_told_85 ?_
    refine va_getN (D := D) (ci := 1) (v := .int (nI kd)) (C := RX1) (T := TX1) (N := 3) hx hb hts hiX1 hown hKB.1 hP 3 rfl rfl 2 (by decide) (hKB.2.f (q := ("TaughtTongues", 199, "TaughtTongues$Learner", "kind", "I")) 3 rfl) (fun _ h9 => h9) rfl dX5_told_88 ?_
    exact r_iret hx hb hr hlk hQ hS (rfl) dX5_told_91
  by_cases sw3 : p0 = nI 3
  · subst sw3
    refine lv_tableIn (x := nI 3) (off := 91) (tgt := 92) hx hb dX5_told_1 (by decide) (by decide) (by decide) (by decide) ?_
    refine lv_aload_n hx hb dX5_told_92 rfl (lv_at hl 0 rfl) ?_
    refine va_get (D := D) (ci := 5) (v := .ref sq) (C := RX5) (T := TX5) (N := 6) hx hb hts hiX5 hown hKB.1 hP 0 rfl rfl 0 (by decide) fl10 (fun _ h9 => h9) rfl dX5_told_93 ?_
    refine va_getN (D := D) (ci := 3) (v := .int (nI cnt)) (C := RX3) (T := TX3) (N := 2) hx hb hts hiX3 hown hKB.1 hP 1 rfl rfl 1 (by decide) (hKB.2.f (q := ("TaughtTongues", 80, "TaughtTongues$Signs", "count", "I")) 6 rfl) (fun _ h9 => h9) rfl dX5_told_96 ?_
    exact r_iret hx hb hr hlk hQ hS (rfl) dX5_told_99
  by_cases sw4 : p0 = nI 4
  · subst sw4
    refine lv_tableIn (x := nI 4) (off := 99) (tgt := 100) hx hb dX5_told_1 (by decide) (by decide) (by decide) (by decide) ?_
    refine lv_aload_n hx hb dX5_told_100 rfl (lv_at hl 0 rfl) ?_
    refine va_get (D := D) (ci := 5) (v := .ref hq) (C := RX5) (T := TX5) (N := 6) hx hb hts hiX5 hown hKB.1 hP 0 rfl rfl 1 (by decide) fl19 (fun _ h9 => h9) rfl dX5_told_101 ?_
    refine va_getN (D := D) (ci := 0) (v := .int (nI hal)) (C := RX0) (T := TX0) (N := 2) hx hb hts hiX0 hown hKB.1 hP 2 rfl rfl 1 (by decide) (hKB.2.f (q := ("TaughtTongues", 109, "TaughtTongues$Counts", "all", "I")) 0 rfl) (fun _ h9 => h9) rfl dX5_told_104 ?_
    exact r_iret hx hb hr hlk hQ hS (rfl) dX5_told_107
  by_cases sw5 : p0 = nI 5
  · subst sw5
    refine lv_tableIn (x := nI 5) (off := 120) (tgt := 121) hx hb dX5_told_1 (by decide) (by decide) (by decide) (by decide) ?_
    refine lv_bipush (v := (-2)) hx hb dX5_told_121 (by decide) ?_
    exact r_iret hx hb hr hlk hQ hS (rfl) dX5_told_123
  by_cases sw6 : p0 = nI 6
  · subst sw6
    refine lv_tableIn (x := nI 6) (off := 120) (tgt := 121) hx hb dX5_told_1 (by decide) (by decide) (by decide) (by decide) ?_
    refine lv_bipush (v := (-2)) hx hb dX5_told_121 (by decide) ?_
    exact r_iret hx hb hr hlk hQ hS (rfl) dX5_told_123
  by_cases sw7 : p0 = nI 7
  · subst sw7
    refine lv_tableIn (x := nI 7) (off := 120) (tgt := 121) hx hb dX5_told_1 (by decide) (by decide) (by decide) (by decide) ?_
    refine lv_bipush (v := (-2)) hx hb dX5_told_121 (by decide) ?_
    exact r_iret hx hb hr hlk hQ hS (rfl) dX5_told_123
  by_cases sw8 : p0 = nI 8
  · subst sw8
    refine lv_tableIn (x := nI 8) (off := 120) (tgt := 121) hx hb dX5_told_1 (by decide) (by decide) (by decide) (by decide) ?_
    refine lv_bipush (v := (-2)) hx hb dX5_told_121 (by decide) ?_
    exact r_iret hx hb hr hlk hQ hS (rfl) dX5_told_123
  by_cases sw9 : p0 = nI 9
  · subst sw9
    refine lv_tableIn (x := nI 9) (off := 120) (tgt := 121) hx hb dX5_told_1 (by decide) (by decide) (by decide) (by decide) ?_
    refine lv_bipush (v := (-2)) hx hb dX5_told_121 (by decide) ?_
    exact r_iret hx hb hr hlk hQ hS (rfl) dX5_told_123
  by_cases sw10 : p0 = nI 10
  · subst sw10
    refine lv_tableIn (x := nI 10) (off := 107) (tgt := 108) hx hb dX5_told_1 (by decide) (by decide) (by decide) (by decide) ?_
    refine lv_aload_n hx hb dX5_told_108 rfl (lv_at hl 0 rfl) ?_
    refine va_get (D := D) (ci := 5) (v := .ref pq) (C := RX5) (T := TX5) (N := 6) hx hb hts hiX5 hown hKB.1 hP 0 rfl rfl 4 (by decide) fl44 (fun _ h9 => h9) rfl dX5_told_109 ?_
    refine va_getN (D := D) (ci := 4) (v := .ref wq) (C := RX4) (T := TX4) (N := 12) hx hb hts hiX4 hown hKB.1 hP 4 rfl rfl 2 (by decide) (hKB.2.f (q := ("TaughtTongues", 60, "TaughtTongues$Steps", "weights", "[I")) 4 rfl) (fun _ h9 => h9) rfl dX5_told_112 ?_
    refine lv_iload_n hx hb dX5_told_115 rfl (lv_at hl 1 rfl) ?_
    refine lv_bipush (v := nI (10)) hx hb dX5_told_116 (by decide) ?_
    refine lv_isub hx hb dX5_told_118 ?_
    refine lv_topi (fun z1 ez1 => ?_)
    obtain rfl : z1 = nI (0) := ez1.trans (by decide)
    refine r_iald (i := 0) (v := nI (w 0)) hx hb hKB.1 hP 5 0 rfl rfl (by omega) (by decide) (rfl) dX5_told_119 ?_
    exact r_iret hx hb hr hlk hQ hS (rfl) dX5_told_120
  by_cases sw11 : p0 = nI 11
  · subst sw11
    refine lv_tableIn (x := nI 11) (off := 107) (tgt := 108) hx hb dX5_told_1 (by decide) (by decide) (by decide) (by decide) ?_
    refine lv_aload_n hx hb dX5_told_108 rfl (lv_at hl 0 rfl) ?_
    refine va_get (D := D) (ci := 5) (v := .ref pq) (C := RX5) (T := TX5) (N := 6) hx hb hts hiX5 hown hKB.1 hP 0 rfl rfl 4 (by decide) fl44 (fun _ h9 => h9) rfl dX5_told_109 ?_
    refine va_getN (D := D) (ci := 4) (v := .ref wq) (C := RX4) (T := TX4) (N := 12) hx hb hts hiX4 hown hKB.1 hP 4 rfl rfl 2 (by decide) (hKB.2.f (q := ("TaughtTongues", 60, "TaughtTongues$Steps", "weights", "[I")) 4 rfl) (fun _ h9 => h9) rfl dX5_told_112 ?_
    refine lv_iload_n hx hb dX5_told_115 rfl (lv_at hl 1 rfl) ?_
    refine lv_bipush (v := nI (10)) hx hb dX5_told_116 (by decide) ?_
    refine lv_isub hx hb dX5_told_118 ?_
    refine lv_topi (fun z2 ez2 => ?_)
    obtain rfl : z2 = nI (1) := ez2.trans (by decide)
    refine r_iald (i := 1) (v := nI (w 1)) hx hb hKB.1 hP 5 0 rfl rfl (by omega) (by decide) (rfl) dX5_told_119 ?_
    exact r_iret hx hb hr hlk hQ hS (rfl) dX5_told_120
  by_cases sw12 : p0 = nI 12
  · subst sw12
    refine lv_tableIn (x := nI 12) (off := 107) (tgt := 108) hx hb dX5_told_1 (by decide) (by decide) (by decide) (by decide) ?_
    refine lv_aload_n hx hb dX5_told_108 rfl (lv_at hl 0 rfl) ?_
    refine va_get (D := D) (ci := 5) (v := .ref pq) (C := RX5) (T := TX5) (N := 6) hx hb hts hiX5 hown hKB.1 hP 0 rfl rfl 4 (by decide) fl44 (fun _ h9 => h9) rfl dX5_told_109 ?_
    refine va_getN (D := D) (ci := 4) (v := .ref wq) (C := RX4) (T := TX4) (N := 12) hx hb hts hiX4 hown hKB.1 hP 4 rfl rfl 2 (by decide) (hKB.2.f (q := ("TaughtTongues", 60, "TaughtTongues$Steps", "weights", "[I")) 4 rfl) (fun _ h9 => h9) rfl dX5_told_112 ?_
    refine lv_iload_n hx hb dX5_told_115 rfl (lv_at hl 1 rfl) ?_
    refine lv_bipush (v := nI (10)) hx hb dX5_told_116 (by decide) ?_
    refine lv_isub hx hb dX5_told_118 ?_
    refine lv_topi (fun z3 ez3 => ?_)
    obtain rfl : z3 = nI (2) := ez3.trans (by decide)
    refine r_iald (i := 2) (v := nI (w 2)) hx hb hKB.1 hP 5 0 rfl rfl (by omega) (by decide) (rfl) dX5_told_119 ?_
    exact r_iret hx hb hr hlk hQ hS (rfl) dX5_told_120
  refine lv_tableOut (x := p0) (tgt := 121) hx hb dX5_told_1 (sw_out (N := 12) (fun j hj => by rcases (show j = 0 ∨ j = 1 ∨ j = 2 ∨ j = 3 ∨ j = 4 ∨ j = 5 ∨ j = 6 ∨ j = 7 ∨ j = 8 ∨ j = 9 ∨ j = 10 ∨ j = 11 ∨ j = 12 by omega) with rfl | rfl | rfl | rfl | rfl | rfl | rfl | rfl | rfl | rfl | rfl | rfl | rfl <;> assumption)) (by decide) ?_
  refine lv_bipush (v := (-2)) hx hb dX5_told_121 (by decide) ?_
  exact r_iret hx hb hr hlk hQ hS (by rw [aTo, if_neg sw0, if_neg sw1, if_neg sw2, if_neg sw3, if_neg sw4, if_neg (told_o sw10 sw11 sw12)]) dX5_told_123


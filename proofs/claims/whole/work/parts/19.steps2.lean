set_option maxHeartbeats 4000000 in
set_option maxRecDepth 100000 in
theorem m_X4_know (l : Launch) (D : va_G) (cI cJ : ClassId) (tT : Nat) (sz : Nat) (pq : Nat) (lq : Nat) (oq : Nat) (wq : Nat) (h : Nat) (bq : Nat) (teq : Nat) (loq : Nat) (rq : Nat) (odq : Nat) (kn : Nat) (nwq : Nat) (nxq : Nat) (smq : Nat) (laq : Nat) (grq : Nat) (chq : Nat) (cq : Nat) (tq : Nat) (al : Nat) (tn : Nat → Nat) (nq : Nat) (slip : Nat) (kd : Nat) (num : Nat → Nat) (fch : Nat → Int32) (w : Nat → Nat) (fb : Nat → Nat) (ft : Nat → Nat) (fl : Nat → Nat) (fr2 : Nat → Nat) (od : Nat → Nat) (hkn : kn ≤ 1) (hod : kn = 1 → ∀ i, i < 64 → od i = stp w slip kd num h i) (hh : 1 ≤ h ∧ h ≤ 4) (hw : ∀ j, j < 3 → w j ≤ 4) (hsl : slip ≤ 12) (hnum : ∀ j, j < 8 → num j < 10) (hkd : kd < 3) (hch : chOk num slip kd fch) : Met l yX4_know wsX4_know ({ frames := 5, cells := 0, slots := 0, locals := 121 }) (PXT D cI cJ tT [(pq, .inr (4, [.ref lq, .ref oq, .ref wq, .int (nI h), .ref bq, .ref teq, .ref loq, .ref rq, .ref odq, .int (nI kn), .ref nwq, .ref nxq])), (wq, .inl (cI, 3, .inl (nF w))), (lq, .inr (1, [.ref nq, .int (nI slip), .int (nI kd)])), (nq, .inl (cI, 8, .inl (nF num))), (bq, .inl (cJ, 6, .inr (.inl (lF fb)))), (teq, .inl (cJ, 6, .inr (.inl (lF ft)))), (loq, .inl (cJ, 210, .inr (.inl (lF fl)))), (rq, .inl (cJ, 8, .inr (.inl (lF fr2)))), (oq, .inr (2, [.ref lq, .ref smq, .ref laq, .ref grq, .ref chq, .ref cq])), (smq, .inl (cI, 210, .inl (nF SM))), (laq, .inl (cI, 210, .inl (nF LA))), (grq, .inl (cI, 504, .inl (nF GR))), (chq, .inl (cI, 210, .inl fch)), (cq, .inr (0, [.ref tq, .int (nI al)])), (tq, .inl (cI, 6, .inl (nF tn))), (odq, .inl (cJ, 64, .inr (.inl (lF od))))] sz [.ref pq]) (QWv D (S := (Nat → Nat) × (Nat → Nat) × (Nat → Nat) × (Nat → Nat) × (Nat → Int32) × (Nat → Nat) × Nat) [(pq, .inr (4, [.ref lq, .ref oq, .ref wq, .int (nI h), .ref bq, .ref teq, .ref loq, .ref rq, .ref odq, .int (nI kn), .ref nwq, .ref nxq])), (wq, .inl (cI, 3, .inl (nF w))), (lq, .inr (1, [.ref nq, .int (nI slip), .int (nI kd)])), (nq, .inl (cI, 8, .inl (nF num))), (bq, .inl (cJ, 6, .inr (.inl (lF fb)))), (teq, .inl (cJ, 6, .inr (.inl (lF ft)))), (loq, .inl (cJ, 210, .inr (.inl (lF fl)))), (rq, .inl (cJ, 8, .inr (.inl (lF fr2)))), (oq, .inr (2, [.ref lq, .ref smq, .ref laq, .ref grq, .ref chq, .ref cq])), (smq, .inl (cI, 210, .inl (nF SM))), (laq, .inl (cI, 210, .inl (nF LA))), (grq, .inl (cI, 504, .inl (nF GR))), (chq, .inl (cI, 210, .inl fch)), (cq, .inr (0, [.ref tq, .int (nI al)])), (tq, .inl (cI, 6, .inl (nF tn))), (odq, .inl (cJ, 64, .inr (.inl (lF od))))] sz (fun u => (chOk num slip kd u.2.2.2.2.1)) (fun u => [(pq, .inr (4, [.ref lq, .ref oq, .ref wq, .int (nI h), .ref bq, .ref teq, .ref loq, .ref rq, .ref odq, .int (nI 1), .ref nwq, .ref nxq])), (wq, .inl (cI, 3, .inl (nF w))), (lq, .inr (1, [.ref nq, .int (nI slip), .int (nI kd)])), (nq, .inl (cI, 8, .inl (nF num))), (bq, .inl (cJ, 6, .inr (.inl (lF u.1)))), (teq, .inl (cJ, 6, .inr (.inl (lF u.2.1)))), (loq, .inl (cJ, 210, .inr (.inl (lF u.2.2.1)))), (rq, .inl (cJ, 8, .inr (.inl (lF u.2.2.2.1)))), (oq, .inr (2, [.ref lq, .ref smq, .ref laq, .ref grq, .ref chq, .ref cq])), (smq, .inl (cI, 210, .inl (nF SM))), (laq, .inl (cI, 210, .inl (nF LA))), (grq, .inl (cI, 504, .inl (nF GR))), (chq, .inl (cI, 210, .inl u.2.2.2.2.1)), (cq, .inr (0, [.ref tq, .int (nI (u.2.2.2.2.2.2))])), (tq, .inl (cI, 6, .inl (nF u.2.2.2.2.2.1))), (odq, .inl (cJ, 64, .inr (.inl (lF (stp w slip kd num h)))))])) 0 0 (va_A [(pq, .inr (4, [.ref lq, .ref oq, .ref wq, .int (nI h), .ref bq, .ref teq, .ref loq, .ref rq, .ref odq, .int (nI kn), .ref nwq, .ref nxq])), (wq, .inl (cI, 3, .inl (nF w))), (lq, .inr (1, [.ref nq, .int (nI slip), .int (nI kd)])), (nq, .inl (cI, 8, .inl (nF num))), (bq, .inl (cJ, 6, .inr (.inl (lF fb)))), (teq, .inl (cJ, 6, .inr (.inl (lF ft)))), (loq, .inl (cJ, 210, .inr (.inl (lF fl)))), (rq, .inl (cJ, 8, .inr (.inl (lF fr2)))), (oq, .inr (2, [.ref lq, .ref smq, .ref laq, .ref grq, .ref chq, .ref cq])), (smq, .inl (cI, 210, .inl (nF SM))), (laq, .inl (cI, 210, .inl (nF LA))), (grq, .inl (cI, 504, .inl (nF GR))), (chq, .inl (cI, 210, .inl fch)), (cq, .inr (0, [.ref tq, .int (nI al)])), (tq, .inl (cI, 6, .inl (nF tn))), (odq, .inl (cJ, 64, .inr (.inl (lF od))))] sz) := by
  refine met_XT (cc := cX4_know) (maxL := 2) (ret := none) (by decide) rfl (Nat.le_of_ble_eq_true rfl) ?_
  intro p e s m args below meth c Q ls A hQ hAe hFT hAt hKB hP hD hA hl
  obtain ⟨hx, hb, hr, hml, hlk, hts, hown, hnm⟩ := hAt
  have hown : s.vm.findClass RX4 = some m.cls := hown
  have hS : va_S A s.heap s.heap [] := va_S.rf
  have hl : lv_has ls 2 [(0, .ref pq)] := hl
  have hiX4 : ∀ w ∈ u_ws RX4 TX4 12, w ∈ wsX4_know := by decide +kernel
  have fl37 := hts (.fieldLink RX4 37 "TaughtTongues$Steps" "known" "Z") (by decide +kernel)
  have fl34 := hts (.fieldLink RX4 34 "TaughtTongues$Steps" "odds" "[J") (by decide +kernel)
  have acl95 := hts (.methodLink RX4 95 arraycopyName) (by decide +kernel)
  have acn := hts (.native arraycopyName) (by decide +kernel)
  have acs := hts (.static arraycopyName) (by decide +kernel)
  have aci := hts (.initialized "java/lang/System") (by decide +kernel)
  refine lv_aload_n hx hb dX4_know_0 rfl (lv_at hl 0 rfl) ?_
  refine va_get (D := D) (ci := 4) (v := .int (nI kn)) (C := RX4) (T := TX4) (N := 12) hx hb hts hiX4 hown hKB.1 hP 0 rfl rfl 9 (by decide) fl37 (fun _ h9 => h9) rfl dX4_know_1 ?_
  refine r_if_eq (a := kn) (tgt := 8) hx hb dX4_know_4 (by decide) (by omega) (fun c4 => ?_) (fun c4 => ?_)
  · skip
    refine lv_iconst (v := nI (0)) hx hb dX4_know_8 (by decide) ?_
    refine lv_istore_n (lv' := [(1, .int (nI 0)), (0, .ref pq)]) hx hb dX4_know_9 rfl hl (by decide) rfl (fun ls hl => ?_)
    have L10 : ∀ (n : Nat) (k : Nat) (o3 : Nat → Nat) (fb3 : Nat → Nat) (ft3 : Nat → Nat) (fl3 : Nat → Nat) (rw3 : Nat → Nat) (fch3 : Nat → Int32) (al3 : Nat) (tn3 : Nat → Nat) (H : Heap) (locs : List Loc) (ls : Array Slot), 8 - k < n → (k ≤ 8) → (∀ i, i < k * 8 → o3 i = stp w slip kd num h i) → (chOk num slip kd fch3) → va_P D vwCl [(pq, .inr (4, [.ref lq, .ref oq, .ref wq, .int (nI h), .ref bq, .ref teq, .ref loq, .ref rq, .ref odq, .int (nI kn), .ref nwq, .ref nxq])), (wq, .inl (cI, 3, .inl (nF w))), (lq, .inr (1, [.ref nq, .int (nI slip), .int (nI kd)])), (nq, .inl (cI, 8, .inl (nF num))), (bq, .inl (cJ, 6, .inr (.inl (lF fb3)))), (teq, .inl (cJ, 6, .inr (.inl (lF ft3)))), (loq, .inl (cJ, 210, .inr (.inl (lF fl3)))), (rq, .inl (cJ, 8, .inr (.inl (lF rw3)))), (oq, .inr (2, [.ref lq, .ref smq, .ref laq, .ref grq, .ref chq, .ref cq])), (smq, .inl (cI, 210, .inl (nF SM))), (laq, .inl (cI, 210, .inl (nF LA))), (grq, .inl (cI, 504, .inl (nF GR))), (chq, .inl (cI, 210, .inl fch3)), (cq, .inr (0, [.ref tq, .int (nI al3)])), (tq, .inl (cI, 6, .inl (nF tn3))), (odq, .inl (cJ, 64, .inr (.inl (lF o3))))] H → va_D A [(pq, .inr (4, [.ref lq, .ref oq, .ref wq, .int (nI h), .ref bq, .ref teq, .ref loq, .ref rq, .ref odq, .int (nI kn), .ref nwq, .ref nxq])), (wq, .inl (cI, 3, .inl (nF w))), (lq, .inr (1, [.ref nq, .int (nI slip), .int (nI kd)])), (nq, .inl (cI, 8, .inl (nF num))), (bq, .inl (cJ, 6, .inr (.inl (lF fb3)))), (teq, .inl (cJ, 6, .inr (.inl (lF ft3)))), (loq, .inl (cJ, 210, .inr (.inl (lF fl3)))), (rq, .inl (cJ, 8, .inr (.inl (lF rw3)))), (oq, .inr (2, [.ref lq, .ref smq, .ref laq, .ref grq, .ref chq, .ref cq])), (smq, .inl (cI, 210, .inl (nF SM))), (laq, .inl (cI, 210, .inl (nF LA))), (grq, .inl (cI, 504, .inl (nF GR))), (chq, .inl (cI, 210, .inl fch3)), (cq, .inr (0, [.ref tq, .int (nI al3)])), (tq, .inl (cI, 6, .inl (nF tn3))), (odq, .inl (cJ, 64, .inr (.inl (lF o3))))] → va_S A s.heap H locs → lv_has ls 2 [(1, .int (nI k)), (0, .ref pq)] → W p l e ({ frames := 5, cells := 0, slots := 0, locals := 121 }) s m args below meth c H locs 0 0 Q (F0 m 10 ls []) := by
      intro n
      induction n with
      | zero => intro k o3 fb3 ft3 fl3 rw3 fch3 al3 tn3 H locs ls hm; exact absurd hm (Nat.not_lt_zero _)
      | succ n ih10 =>
        intro k o3 fb3 ft3 fl3 rw3 fch3 al3 tn3 H locs ls hm hk ho hch3 hP hD hS hl
        refine lv_iload_n hx hb dX4_know_10 rfl (lv_at hl 0 rfl) ?_
        refine lv_bipush (v := nI (8)) hx hb dX4_know_11 (by decide) ?_
        refine r_icmp_ge (a := k) (b := 8) (tgt := 43) hx hb dX4_know_13 (by decide) (by omega) (by omega)  (fun c13 => ?_) (fun c13 => ?_)
        · skip
          have hP := P_arrJ hP 15 (g := (lF (stp w slip kd num h))) rfl (fun i hi => congrArg lN (ho i (by omega)))
          have hD := D_arrJ hD 15 (g := (lF (stp w slip kd num h))) rfl
          have hP : va_P D vwCl [(pq, .inr (4, [.ref lq, .ref oq, .ref wq, .int (nI h), .ref bq, .ref teq, .ref loq, .ref rq, .ref odq, .int (nI kn), .ref nwq, .ref nxq])), (wq, .inl (cI, 3, .inl (nF w))), (lq, .inr (1, [.ref nq, .int (nI slip), .int (nI kd)])), (nq, .inl (cI, 8, .inl (nF num))), (bq, .inl (cJ, 6, .inr (.inl (lF fb3)))), (teq, .inl (cJ, 6, .inr (.inl (lF ft3)))), (loq, .inl (cJ, 210, .inr (.inl (lF fl3)))), (rq, .inl (cJ, 8, .inr (.inl (lF rw3)))), (oq, .inr (2, [.ref lq, .ref smq, .ref laq, .ref grq, .ref chq, .ref cq])), (smq, .inl (cI, 210, .inl (nF SM))), (laq, .inl (cI, 210, .inl (nF LA))), (grq, .inl (cI, 504, .inl (nF GR))), (chq, .inl (cI, 210, .inl fch3)), (cq, .inr (0, [.ref tq, .int (nI al3)])), (tq, .inl (cI, 6, .inl (nF tn3))), (odq, .inl (cJ, 64, .inr (.inl (lF (stp w slip kd num h)))))] _ := hP
          have hD : va_D A [(pq, .inr (4, [.ref lq, .ref oq, .ref wq, .int (nI h), .ref bq, .ref teq, .ref loq, .ref rq, .ref odq, .int (nI kn), .ref nwq, .ref nxq])), (wq, .inl (cI, 3, .inl (nF w))), (lq, .inr (1, [.ref nq, .int (nI slip), .int (nI kd)])), (nq, .inl (cI, 8, .inl (nF num))), (bq, .inl (cJ, 6, .inr (.inl (lF fb3)))), (teq, .inl (cJ, 6, .inr (.inl (lF ft3)))), (loq, .inl (cJ, 210, .inr (.inl (lF fl3)))), (rq, .inl (cJ, 8, .inr (.inl (lF rw3)))), (oq, .inr (2, [.ref lq, .ref smq, .ref laq, .ref grq, .ref chq, .ref cq])), (smq, .inl (cI, 210, .inl (nF SM))), (laq, .inl (cI, 210, .inl (nF LA))), (grq, .inl (cI, 504, .inl (nF GR))), (chq, .inl (cI, 210, .inl fch3)), (cq, .inr (0, [.ref tq, .int (nI al3)])), (tq, .inl (cI, 6, .inl (nF tn3))), (odq, .inl (cJ, 64, .inr (.inl (lF (stp w slip kd num h)))))] := hD
          refine lv_aload_n hx hb dX4_know_43 rfl (lv_at hl 1 rfl) ?_
          refine lv_iconst (v := nI (1)) hx hb dX4_know_44 (by decide) ?_
          refine va_put (D := D) (ci := 4) (v := .int (nI 1)) (ty := .boolean) (C := RX4) (T := TX4) (N := 12) hx hb hts hiX4 tyX4 tyX4_ok nmX4 hown hKB.1 hP hD hS 0 rfl rfl 9 (by decide) fl37 (fun _ h9 => h9) rfl (by decide +kernel) rfl rfl (Nat.le_of_ble_eq_true rfl) dX4_know_45 (fun H locs hP hD hS => ?_)
          have hP : va_P D vwCl [(pq, .inr (4, [.ref lq, .ref oq, .ref wq, .int (nI h), .ref bq, .ref teq, .ref loq, .ref rq, .ref odq, .int (nI 1), .ref nwq, .ref nxq])), (wq, .inl (cI, 3, .inl (nF w))), (lq, .inr (1, [.ref nq, .int (nI slip), .int (nI kd)])), (nq, .inl (cI, 8, .inl (nF num))), (bq, .inl (cJ, 6, .inr (.inl (lF fb3)))), (teq, .inl (cJ, 6, .inr (.inl (lF ft3)))), (loq, .inl (cJ, 210, .inr (.inl (lF fl3)))), (rq, .inl (cJ, 8, .inr (.inl (lF rw3)))), (oq, .inr (2, [.ref lq, .ref smq, .ref laq, .ref grq, .ref chq, .ref cq])), (smq, .inl (cI, 210, .inl (nF SM))), (laq, .inl (cI, 210, .inl (nF LA))), (grq, .inl (cI, 504, .inl (nF GR))), (chq, .inl (cI, 210, .inl fch3)), (cq, .inr (0, [.ref tq, .int (nI al3)])), (tq, .inl (cI, 6, .inl (nF tn3))), (odq, .inl (cJ, 64, .inr (.inl (lF (stp w slip kd num h)))))] _ := hP
          have hD : va_D A [(pq, .inr (4, [.ref lq, .ref oq, .ref wq, .int (nI h), .ref bq, .ref teq, .ref loq, .ref rq, .ref odq, .int (nI 1), .ref nwq, .ref nxq])), (wq, .inl (cI, 3, .inl (nF w))), (lq, .inr (1, [.ref nq, .int (nI slip), .int (nI kd)])), (nq, .inl (cI, 8, .inl (nF num))), (bq, .inl (cJ, 6, .inr (.inl (lF fb3)))), (teq, .inl (cJ, 6, .inr (.inl (lF ft3)))), (loq, .inl (cJ, 210, .inr (.inl (lF fl3)))), (rq, .inl (cJ, 8, .inr (.inl (lF rw3)))), (oq, .inr (2, [.ref lq, .ref smq, .ref laq, .ref grq, .ref chq, .ref cq])), (smq, .inl (cI, 210, .inl (nF SM))), (laq, .inl (cI, 210, .inl (nF LA))), (grq, .inl (cI, 504, .inl (nF GR))), (chq, .inl (cI, 210, .inl fch3)), (cq, .inr (0, [.ref tq, .int (nI al3)])), (tq, .inl (cI, 6, .inl (nF tn3))), (odq, .inl (cJ, 64, .inr (.inl (lF (stp w slip kd num h)))))] := hD
          exact w_vret hx hb hr hlk hQ hAe (fb3, ft3, fl3, rw3, fch3, tn3, al3) hP hD hS (hch3) dX4_know_48
        refine lv_aload_n hx hb dX4_know_16 rfl (lv_at hl 1 rfl) ?_
        refine lv_iload_n hx hb dX4_know_17 rfl (lv_at hl 0 rfl) ?_
        refine lv_iload_n hx hb dX4_know_18 rfl (lv_at hl 0 rfl) ?_
        refine lv_iconst (v := nI (0)) hx hb dX4_know_19 (by decide) ?_
        have hPc := hP.sub (ws' := [(pq, .inr (4, [.ref lq, .ref oq, .ref wq, .int (nI h), .ref bq, .ref teq, .ref loq, .ref rq, .ref odq, .int (nI kn), .ref nwq, .ref nxq])), (wq, .inl (cI, 3, .inl (nF w))), (lq, .inr (1, [.ref nq, .int (nI slip), .int (nI kd)])), (nq, .inl (cI, 8, .inl (nF num))), (bq, .inl (cJ, 6, .inr (.inl (lF fb3)))), (teq, .inl (cJ, 6, .inr (.inl (lF ft3)))), (loq, .inl (cJ, 210, .inr (.inl (lF fl3)))), (rq, .inl (cJ, 8, .inr (.inl (lF rw3)))), (oq, .inr (2, [.ref lq, .ref smq, .ref laq, .ref grq, .ref chq, .ref cq])), (smq, .inl (cI, 210, .inl (nF SM))), (laq, .inl (cI, 210, .inl (nF LA))), (grq, .inl (cI, 504, .inl (nF GR))), (chq, .inl (cI, 210, .inl fch3)), (cq, .inr (0, [.ref tq, .int (nI al3)])), (tq, .inl (cI, 6, .inl (nF tn3)))]) [0, 1, 2, 3, 4, 5, 6, 7, 8, 9, 10, 11, 12, 13, 14] rfl
        have hDc := hD.sub (ws' := [(pq, .inr (4, [.ref lq, .ref oq, .ref wq, .int (nI h), .ref bq, .ref teq, .ref loq, .ref rq, .ref odq, .int (nI kn), .ref nwq, .ref nxq])), (wq, .inl (cI, 3, .inl (nF w))), (lq, .inr (1, [.ref nq, .int (nI slip), .int (nI kd)])), (nq, .inl (cI, 8, .inl (nF num))), (bq, .inl (cJ, 6, .inr (.inl (lF fb3)))), (teq, .inl (cJ, 6, .inr (.inl (lF ft3)))), (loq, .inl (cJ, 210, .inr (.inl (lF fl3)))), (rq, .inl (cJ, 8, .inr (.inl (lF rw3)))), (oq, .inr (2, [.ref lq, .ref smq, .ref laq, .ref grq, .ref chq, .ref cq])), (smq, .inl (cI, 210, .inl (nF SM))), (laq, .inl (cI, 210, .inl (nF LA))), (grq, .inl (cI, 504, .inl (nF GR))), (chq, .inl (cI, 210, .inl fch3)), (cq, .inr (0, [.ref tq, .int (nI al3)])), (tq, .inl (cI, 6, .inl (nF tn3)))]) [0, 1, 2, 3, 4, 5, 6, 7, 8, 9, 10, 11, 12, 13, 14] (by decide) rfl
        have hFc := va_free (wc := [(pq, .inr (4, [.ref lq, .ref oq, .ref wq, .int (nI h), .ref bq, .ref teq, .ref loq, .ref rq, .ref odq, .int (nI kn), .ref nwq, .ref nxq])), (wq, .inl (cI, 3, .inl (nF w))), (lq, .inr (1, [.ref nq, .int (nI slip), .int (nI kd)])), (nq, .inl (cI, 8, .inl (nF num))), (bq, .inl (cJ, 6, .inr (.inl (lF fb3)))), (teq, .inl (cJ, 6, .inr (.inl (lF ft3)))), (loq, .inl (cJ, 210, .inr (.inl (lF fl3)))), (rq, .inl (cJ, 8, .inr (.inl (lF rw3)))), (oq, .inr (2, [.ref lq, .ref smq, .ref laq, .ref grq, .ref chq, .ref cq])), (smq, .inl (cI, 210, .inl (nF SM))), (laq, .inl (cI, 210, .inl (nF LA))), (grq, .inl (cI, 504, .inl (nF GR))), (chq, .inl (cI, 210, .inl fch3)), (cq, .inr (0, [.ref tq, .int (nI al3)])), (tq, .inl (cI, 6, .inl (nF tn3)))]) hD hS hA [0, 1, 2, 3, 4, 5, 6, 7, 8, 9, 10, 11, 12, 13, 14] rfl
        refine w_callr (wc := [(pq, .inr (4, [.ref lq, .ref oq, .ref wq, .int (nI h), .ref bq, .ref teq, .ref loq, .ref rq, .ref odq, .int (nI kn), .ref nwq, .ref nxq])), (wq, .inl (cI, 3, .inl (nF w))), (lq, .inr (1, [.ref nq, .int (nI slip), .int (nI kd)])), (nq, .inl (cI, 8, .inl (nF num))), (bq, .inl (cJ, 6, .inr (.inl (lF fb3)))), (teq, .inl (cJ, 6, .inr (.inl (lF ft3)))), (loq, .inl (cJ, 210, .inr (.inl (lF fl3)))), (rq, .inl (cJ, 8, .inr (.inl (lF rw3)))), (oq, .inr (2, [.ref lq, .ref smq, .ref laq, .ref grq, .ref chq, .ref cq])), (smq, .inl (cI, 210, .inl (nF SM))), (laq, .inl (cI, 210, .inl (nF LA))), (grq, .inl (cI, 504, .inl (nF GR))), (chq, .inl (cI, 210, .inl fch3)), (cq, .inr (0, [.ref tq, .int (nI al3)])), (tq, .inl (cI, 6, .inl (nF tn3)))]) (wr := [(odq, .inl (cJ, 64, .inr (.inl (lF o3))))]) hP hD hS [0, 1, 2, 3, 4, 5, 6, 7, 8, 9, 10, 11, 12, 13, 14] [15] rfl rfl (by decide) (by decide) hFc (va_runV (As := [.int (nI k), .int (nI k), .int (nI 0)]) (rest := []) ⟨hx, hb, hml, hown, hts⟩ (m_X4_rowOf l D cI cJ tT _ pq lq oq wq h bq teq loq rq odq kn nwq nxq smq laq grq chq cq tq al3 tn3 nq slip kd num fch3 w fb3 ft3 fl3 rw3 k k 0 (by omega) (by omega) (by omega) (by assumption) (by assumption) (by assumption) (by assumption) (by assumption) (hch3)) (cwV 3 hts gX4_know_X4_rowOf rfl rfl rfl (by decide +kernel) ⟨Nat.le_of_ble_eq_true rfl, Nat.le_of_ble_eq_true rfl⟩) ⟨PXT.blind, va_recv hKB.1 hP (ci := 4) (q0 := 0) rfl rfl, fun U hU hW => ⟨rfl, by rw [hU], hKB.warm hW, hFT.go hW (by rw [hU]; exact hS) hFc, by rw [hU]; exact hPc, hDc.weaken (fun _ _ _ _ => trivial)⟩⟩ rfl rfl hl.1 rfl (lv_room (Nat.le_of_ble_eq_true rfl)) dX4_know_20 ⟨Nat.le_of_ble_eq_true rfl, Nat.le_of_ble_eq_true rfl⟩) (fun u20 H locs hw20 hP hD hS => ?_)
        obtain ⟨fb9_20, ft9_20, fl9_20, row9_20, fch9_20, tn9_20, al9_20⟩ := u20
        have hP : va_P D vwCl [(odq, .inl (cJ, 64, .inr (.inl (lF o3)))), (pq, .inr (4, [.ref lq, .ref oq, .ref wq, .int (nI h), .ref bq, .ref teq, .ref loq, .ref rq, .ref odq, .int (nI kn), .ref nwq, .ref nxq])), (wq, .inl (cI, 3, .inl (nF w))), (lq, .inr (1, [.ref nq, .int (nI slip), .int (nI kd)])), (nq, .inl (cI, 8, .inl (nF num))), (bq, .inl (cJ, 6, .inr (.inl (lF fb9_20)))), (teq, .inl (cJ, 6, .inr (.inl (lF ft9_20)))), (loq, .inl (cJ, 210, .inr (.inl (lF fl9_20)))), (rq, .inl (cJ, 8, .inr (.inl (lF row9_20)))), (oq, .inr (2, [.ref lq, .ref smq, .ref laq, .ref grq, .ref chq, .ref cq])), (smq, .inl (cI, 210, .inl (nF SM))), (laq, .inl (cI, 210, .inl (nF LA))), (grq, .inl (cI, 504, .inl (nF GR))), (chq, .inl (cI, 210, .inl fch9_20)), (cq, .inr (0, [.ref tq, .int (nI al9_20)])), (tq, .inl (cI, 6, .inl (nF tn9_20)))] _ := hP
        have hD : va_D A [(odq, .inl (cJ, 64, .inr (.inl (lF o3)))), (pq, .inr (4, [.ref lq, .ref oq, .ref wq, .int (nI h), .ref bq, .ref teq, .ref loq, .ref rq, .ref odq, .int (nI kn), .ref nwq, .ref nxq])), (wq, .inl (cI, 3, .inl (nF w))), (lq, .inr (1, [.ref nq, .int (nI slip), .int (nI kd)])), (nq, .inl (cI, 8, .inl (nF num))), (bq, .inl (cJ, 6, .inr (.inl (lF fb9_20)))), (teq, .inl (cJ, 6, .inr (.inl (lF ft9_20)))), (loq, .inl (cJ, 210, .inr (.inl (lF fl9_20)))), (rq, .inl (cJ, 8, .inr (.inl (lF row9_20)))), (oq, .inr (2, [.ref lq, .ref smq, .ref laq, .ref grq, .ref chq, .ref cq])), (smq, .inl (cI, 210, .inl (nF SM))), (laq, .inl (cI, 210, .inl (nF LA))), (grq, .inl (cI, 504, .inl (nF GR))), (chq, .inl (cI, 210, .inl fch9_20)), (cq, .inr (0, [.ref tq, .int (nI al9_20)])), (tq, .inl (cI, 6, .inl (nF tn9_20)))] := hD
        have hw20 : row9_20 = rwF w slip kd num h k k 0 ∧ (chOk num slip kd fch9_20) := hw20
        obtain ⟨erow9_20, hE20⟩ := hw20
        subst erow9_20
        have hP : va_P D vwCl [(odq, .inl (cJ, 64, .inr (.inl (lF o3)))), (pq, .inr (4, [.ref lq, .ref oq, .ref wq, .int (nI h), .ref bq, .ref teq, .ref loq, .ref rq, .ref odq, .int (nI kn), .ref nwq, .ref nxq])), (wq, .inl (cI, 3, .inl (nF w))), (lq, .inr (1, [.ref nq, .int (nI slip), .int (nI kd)])), (nq, .inl (cI, 8, .inl (nF num))), (bq, .inl (cJ, 6, .inr (.inl (lF fb9_20)))), (teq, .inl (cJ, 6, .inr (.inl (lF ft9_20)))), (loq, .inl (cJ, 210, .inr (.inl (lF fl9_20)))), (rq, .inl (cJ, 8, .inr (.inl (lF (rwF w slip kd num h k k 0))))), (oq, .inr (2, [.ref lq, .ref smq, .ref laq, .ref grq, .ref chq, .ref cq])), (smq, .inl (cI, 210, .inl (nF SM))), (laq, .inl (cI, 210, .inl (nF LA))), (grq, .inl (cI, 504, .inl (nF GR))), (chq, .inl (cI, 210, .inl fch9_20)), (cq, .inr (0, [.ref tq, .int (nI al9_20)])), (tq, .inl (cI, 6, .inl (nF tn9_20)))] _ := hP
        have hD : va_D A [(odq, .inl (cJ, 64, .inr (.inl (lF o3)))), (pq, .inr (4, [.ref lq, .ref oq, .ref wq, .int (nI h), .ref bq, .ref teq, .ref loq, .ref rq, .ref odq, .int (nI kn), .ref nwq, .ref nxq])), (wq, .inl (cI, 3, .inl (nF w))), (lq, .inr (1, [.ref nq, .int (nI slip), .int (nI kd)])), (nq, .inl (cI, 8, .inl (nF num))), (bq, .inl (cJ, 6, .inr (.inl (lF fb9_20)))), (teq, .inl (cJ, 6, .inr (.inl (lF ft9_20)))), (loq, .inl (cJ, 210, .inr (.inl (lF fl9_20)))), (rq, .inl (cJ, 8, .inr (.inl (lF (rwF w slip kd num h k k 0))))), (oq, .inr (2, [.ref lq, .ref smq, .ref laq, .ref grq, .ref chq, .ref cq])), (smq, .inl (cI, 210, .inl (nF SM))), (laq, .inl (cI, 210, .inl (nF LA))), (grq, .inl (cI, 504, .inl (nF GR))), (chq, .inl (cI, 210, .inl fch9_20)), (cq, .inr (0, [.ref tq, .int (nI al9_20)])), (tq, .inl (cI, 6, .inl (nF tn9_20)))] := hD
        have hch4 := hE20
        refine lv_iconst (v := nI (0)) hx hb dX4_know_23 (by decide) ?_
        refine lv_aload_n hx hb dX4_know_24 rfl (lv_at hl 1 rfl) ?_
        refine va_get (D := D) (ci := 4) (v := .ref odq) (C := RX4) (T := TX4) (N := 12) hx hb hts hiX4 hown hKB.1 hP 1 rfl rfl 8 (by decide) fl34 (fun _ h9 => h9) rfl dX4_know_25 ?_
        refine lv_iload_n hx hb dX4_know_28 rfl (lv_at hl 0 rfl) ?_
        refine lv_bipush (v := nI (8)) hx hb dX4_know_29 (by decide) ?_
        refine r_imul (a := k) (b := 8) hx hb dX4_know_31  ?_
        refine lv_bipush (v := nI (8)) hx hb dX4_know_32 (by decide) ?_
        refine r_copyL (sp := 0) (dp := k * 8) (n := 8) hx hb (by rw [hml]; exact hl.1.symm) hown acl95 acn acs aci hKB.1 hP hD hS 8 0 1 rfl rfl rfl (by omega) (by omega) (by omega) (by omega) (by omega) (Nat.le_of_ble_eq_true rfl) (Nat.le_of_ble_eq_true rfl) dX4_know_34 (fun H locs hP hD hS => ?_)
        have hP : va_P D vwCl [(odq, .inl (cJ, 64, .inr (.inl (lF (ncpy (rwF w slip kd num h k k 0) o3 0 (k * 8) 8))))), (pq, .inr (4, [.ref lq, .ref oq, .ref wq, .int (nI h), .ref bq, .ref teq, .ref loq, .ref rq, .ref odq, .int (nI kn), .ref nwq, .ref nxq])), (wq, .inl (cI, 3, .inl (nF w))), (lq, .inr (1, [.ref nq, .int (nI slip), .int (nI kd)])), (nq, .inl (cI, 8, .inl (nF num))), (bq, .inl (cJ, 6, .inr (.inl (lF fb9_20)))), (teq, .inl (cJ, 6, .inr (.inl (lF ft9_20)))), (loq, .inl (cJ, 210, .inr (.inl (lF fl9_20)))), (rq, .inl (cJ, 8, .inr (.inl (lF (rwF w slip kd num h k k 0))))), (oq, .inr (2, [.ref lq, .ref smq, .ref laq, .ref grq, .ref chq, .ref cq])), (smq, .inl (cI, 210, .inl (nF SM))), (laq, .inl (cI, 210, .inl (nF LA))), (grq, .inl (cI, 504, .inl (nF GR))), (chq, .inl (cI, 210, .inl fch9_20)), (cq, .inr (0, [.ref tq, .int (nI al9_20)])), (tq, .inl (cI, 6, .inl (nF tn9_20)))] _ := hP
        have hD : va_D A [(odq, .inl (cJ, 64, .inr (.inl (lF (ncpy (rwF w slip kd num h k k 0) o3 0 (k * 8) 8))))), (pq, .inr (4, [.ref lq, .ref oq, .ref wq, .int (nI h), .ref bq, .ref teq, .ref loq, .ref rq, .ref odq, .int (nI kn), .ref nwq, .ref nxq])), (wq, .inl (cI, 3, .inl (nF w))), (lq, .inr (1, [.ref nq, .int (nI slip), .int (nI kd)])), (nq, .inl (cI, 8, .inl (nF num))), (bq, .inl (cJ, 6, .inr (.inl (lF fb9_20)))), (teq, .inl (cJ, 6, .inr (.inl (lF ft9_20)))), (loq, .inl (cJ, 210, .inr (.inl (lF fl9_20)))), (rq, .inl (cJ, 8, .inr (.inl (lF (rwF w slip kd num h k k 0))))), (oq, .inr (2, [.ref lq, .ref smq, .ref laq, .ref grq, .ref chq, .ref cq])), (smq, .inl (cI, 210, .inl (nF SM))), (laq, .inl (cI, 210, .inl (nF LA))), (grq, .inl (cI, 504, .inl (nF GR))), (chq, .inl (cI, 210, .inl fch9_20)), (cq, .inr (0, [.ref tq, .int (nI al9_20)])), (tq, .inl (cI, 6, .inl (nF tn9_20)))] := hD
        refine lv_iinc (v := nI (k + 1)) (lv' := [(1, .int (nI (k + 1))), (0, .ref pq)]) hx hb dX4_know_37 hl (k := 0) rfl (n_inc _ 1) (by decide) rfl (fun ls hl => ?_)
        refine lv_goto (tgt := 10) hx hb dX4_know_40 (by decide) ?_
        exact ih10 (k + 1) (ncpy (rwF w slip kd num h k k 0) o3 0 (k * 8) 8) fb9_20 ft9_20 fl9_20 (rwF w slip kd num h k k 0) fch9_20 al9_20 tn9_20 _ _ _ (by omega) (by omega) (stp_s c13 ho) (by assumption) (hP.sub [1, 2, 3, 4, 5, 6, 7, 8, 9, 10, 11, 12, 13, 14, 15, 0] rfl) (hD.sub [1, 2, 3, 4, 5, 6, 7, 8, 9, 10, 11, 12, 13, 14, 15, 0] (by decide) rfl) hS hl
    exact L10 (8 - 0 + 1) 0 od fb ft fl fr2 fch al tn _ _ _ (Nat.lt_succ_self _) (by omega) (fun i hi => absurd hi (by omega)) (hch) hP hD hS hl
  obtain rfl : 1 = kn := by omega
  have hP := P_arrJ hP 15 (g := (lF (stp w slip kd num h))) rfl (fun i hi => congrArg lN (hod rfl i hi))
  have hD := D_arrJ hD 15 (g := (lF (stp w slip kd num h))) rfl
  have hP : va_P D vwCl [(pq, .inr (4, [.ref lq, .ref oq, .ref wq, .int (nI h), .ref bq, .ref teq, .ref loq, .ref rq, .ref odq, .int (nI 1), .ref nwq, .ref nxq])), (wq, .inl (cI, 3, .inl (nF w))), (lq, .inr (1, [.ref nq, .int (nI slip), .int (nI kd)])), (nq, .inl (cI, 8, .inl (nF num))), (bq, .inl (cJ, 6, .inr (.inl (lF fb)))), (teq, .inl (cJ, 6, .inr (.inl (lF ft)))), (loq, .inl (cJ, 210, .inr (.inl (lF fl)))), (rq, .inl (cJ, 8, .inr (.inl (lF fr2)))), (oq, .inr (2, [.ref lq, .ref smq, .ref laq, .ref grq, .ref chq, .ref cq])), (smq, .inl (cI, 210, .inl (nF SM))), (laq, .inl (cI, 210, .inl (nF LA))), (grq, .inl (cI, 504, .inl (nF GR))), (chq, .inl (cI, 210, .inl fch)), (cq, .inr (0, [.ref tq, .int (nI al)])), (tq, .inl (cI, 6, .inl (nF tn))), (odq, .inl (cJ, 64, .inr (.inl (lF (stp w slip kd num h)))))] _ := hP
  have hD : va_D A [(pq, .inr (4, [.ref lq, .ref oq, .ref wq, .int (nI h), .ref bq, .ref teq, .ref loq, .ref rq, .ref odq, .int (nI 1), .ref nwq, .ref nxq])), (wq, .inl (cI, 3, .inl (nF w))), (lq, .inr (1, [.ref nq, .int (nI slip), .int (nI kd)])), (nq, .inl (cI, 8, .inl (nF num))), (bq, .inl (cJ, 6, .inr (.inl (lF fb)))), (teq, .inl (cJ, 6, .inr (.inl (lF ft)))), (loq, .inl (cJ, 210, .inr (.inl (lF fl)))), (rq, .inl (cJ, 8, .inr (.inl (lF fr2)))), (oq, .inr (2, [.ref lq, .ref smq, .ref laq, .ref grq, .ref chq, .ref cq])), (smq, .inl (cI, 210, .inl (nF SM))), (laq, .inl (cI, 210, .inl (nF LA))), (grq, .inl (cI, 504, .inl (nF GR))), (chq, .inl (cI, 210, .inl fch)), (cq, .inr (0, [.ref tq, .int (nI al)])), (tq, .inl (cI, 6, .inl (nF tn))), (odq, .inl (cJ, 64, .inr (.inl (lF (stp w slip kd num h)))))] := hD
  exact w_vret hx hb hr hlk hQ hAe (fb, ft, fl, fr2, fch, tn, al) hP hD hS (hch) dX4_know_7

set_option maxHeartbeats 4000000 in
set_option maxRecDepth 100000 in
theorem m_X4_startAt (l : Launch) (D : va_G) (cI cJ : ClassId) (sz : Nat) (pq : Nat) (lq : Nat) (oq : Nat) (wq : Nat) (h : Nat) (bq : Nat) (teq : Nat) (loq : Nat) (rq : Nat) (odq : Nat) (kn : Nat) (nwq : Nat) (nxq : Nat) (n0 : Nat → Nat) (t : Nat) (ht : t < 8) : Met l yX4_startAt wsX4_startAt ({ frames := 1, cells := 0, slots := 0, locals := 24 }) (PX D cI cJ [(pq, .inr (4, [.ref lq, .ref oq, .ref wq, .int (nI h), .ref bq, .ref teq, .ref loq, .ref rq, .ref odq, .int (nI kn), .ref nwq, .ref nxq])), (nwq, .inl (cJ, 8, .inr (.inl (lF n0))))] sz [.ref pq, .int (nI t)]) (QWv D (S := Unit) [(pq, .inr (4, [.ref lq, .ref oq, .ref wq, .int (nI h), .ref bq, .ref teq, .ref loq, .ref rq, .ref odq, .int (nI kn), .ref nwq, .ref nxq])), (nwq, .inl (cJ, 8, .inr (.inl (lF n0))))] sz (fun _ => True) (fun _ => [(pq, .inr (4, [.ref lq, .ref oq, .ref wq, .int (nI h), .ref bq, .ref teq, .ref loq, .ref rq, .ref odq, .int (nI kn), .ref nwq, .ref nxq])), (nwq, .inl (cJ, 8, .inr (.inl (lF (fun j => if j = t then 1 else 0)))))])) 0 0 (va_A [(pq, .inr (4, [.ref lq, .ref oq, .ref wq, .int (nI h), .ref bq, .ref teq, .ref loq, .ref rq, .ref odq, .int (nI kn), .ref nwq, .ref nxq])), (nwq, .inl (cJ, 8, .inr (.inl (lF n0))))] sz) := by
  refine met_X (cc := cX4_startAt) (maxL := 2) (ret := none) (by decide) rfl (Nat.le_of_ble_eq_true rfl) ?_
  intro p e s m args below meth c Q ls A hQ hAe hAt hKB hP hD hA hl
  obtain ⟨hx, hb, hr, hml, hlk, hts, hown, hnm⟩ := hAt
  have hown : s.vm.findClass RX4 = some m.cls := hown
  have hS : va_S A s.heap s.heap [] := va_S.rf
  have hl : lv_has ls 2 [(0, .ref pq), (1, .int (nI t))] := hl
  have hiX4 : ∀ w ∈ u_ws RX4 TX4 12, w ∈ wsX4_startAt := by decide +kernel
  have fl41 := hts (.fieldLink RX4 41 "TaughtTongues$Steps" "now" "[J") (by decide +kernel)
  refine lv_aload_n hx hb dX4_startAt_0 rfl (lv_at hl 0 rfl) ?_
  refine va_get (D := D) (ci := 4) (v := .ref nwq) (C := RX4) (T := TX4) (N := 12) hx hb hts hiX4 hown hKB.1 hP 0 rfl rfl 10 (by decide) fl41 (fun _ h9 => h9) rfl dX4_startAt_1 ?_
  refine lv_lconst (v := lN (0)) hx hb dX4_startAt_4 (by decide) ?_
  have hPc := hP.sub (ws' := [(nwq, .inl (cJ, 8, .inr (.inl (lF n0))))]) [1] rfl
  have hDc := hD.sub (ws' := [(nwq, .inl (cJ, 8, .inr (.inl (lF n0))))]) [1] (by decide) rfl
  have hFc := va_free (wc := [(nwq, .inl (cJ, 8, .inr (.inl (lF n0))))]) hD hS hA [1] rfl
  refine w_callv (wc := [(nwq, .inl (cJ, 8, .inr (.inl (lF n0))))]) (wr := [(pq, .inr (4, [.ref lq, .ref oq, .ref wq, .int (nI h), .ref bq, .ref teq, .ref loq, .ref rq, .ref odq, .int (nI kn), .ref nwq, .ref nxq]))]) hP hD hS [1] [0] rfl rfl (by decide) (by decide) hFc (va_runS (As := [.ref nwq, .long (lN 0)]) (rest := []) ⟨hx, hb, hml, hown, hts⟩ (m_J7_fill_d0a16 l D cI cJ _ nwq 8 (lF n0) (lN (0)) (by decide)) (va_cwS 2 hts gX4_startAt_J7_fill_d0a16 rfl rfl rfl (by decide +kernel) ⟨Nat.le_of_ble_eq_true rfl, Nat.le_of_ble_eq_true rfl⟩) ⟨PX.blind, fun U hU hW => ⟨rfl, by rw [hU], hKB.warm hW, by rw [hU]; exact hPc, hDc.weaken (fun _ _ _ _ => trivial)⟩⟩ rfl rfl hl.1 rfl (lv_room (Nat.le_of_ble_eq_true rfl)) dX4_startAt_5 ⟨Nat.le_of_ble_eq_true rfl, Nat.le_of_ble_eq_true rfl⟩) (fun u5 H locs hw5 hP hD hS => ?_)
  have hP : va_P D vwCl [(pq, .inr (4, [.ref lq, .ref oq, .ref wq, .int (nI h), .ref bq, .ref teq, .ref loq, .ref rq, .ref odq, .int (nI kn), .ref nwq, .ref nxq])), (nwq, .inl (cJ, 8, .inr (.inl (fillL (lF n0) (lN (0)) 8))))] _ := hP
  have hD : va_D A [(pq, .inr (4, [.ref lq, .ref oq, .ref wq, .int (nI h), .ref bq, .ref teq, .ref loq, .ref rq, .ref odq, .int (nI kn), .ref nwq, .ref nxq])), (nwq, .inl (cJ, 8, .inr (.inl (fillL (lF n0) (lN (0)) 8))))] := hD
  have hw2 : fillL (lF n0) (lN (0)) 8 = lF (nfl n0 0 8) := lF_fill n0 0 8
  rw [hw2] at hP hD
  refine lv_aload_n hx hb dX4_startAt_8 rfl (lv_at hl 0 rfl) ?_
  refine va_get (D := D) (ci := 4) (v := .ref nwq) (C := RX4) (T := TX4) (N := 12) hx hb hts hiX4 hown hKB.1 hP 0 rfl rfl 10 (by decide) fl41 (fun _ h9 => h9) rfl dX4_startAt_9 ?_
  refine lv_iload_n hx hb dX4_startAt_12 rfl (lv_at hl 1 rfl) ?_
  refine lv_lconst (v := lN (1)) hx hb dX4_startAt_13 (by decide) ?_
  refine r_lastN (i := t) hx hb hKB.1 hP hD hS 1 1 rfl rfl (by omega) (by decide) dX4_startAt_14 (fun H locs hP hD hS => ?_)
  have hP : va_P D vwCl [(pq, .inr (4, [.ref lq, .ref oq, .ref wq, .int (nI h), .ref bq, .ref teq, .ref loq, .ref rq, .ref odq, .int (nI kn), .ref nwq, .ref nxq])), (nwq, .inl (cJ, 8, .inr (.inl (lF (nu (nfl n0 0 8) t 1)))))] _ := hP
  have hD : va_D A [(pq, .inr (4, [.ref lq, .ref oq, .ref wq, .int (nI h), .ref bq, .ref teq, .ref loq, .ref rq, .ref odq, .int (nI kn), .ref nwq, .ref nxq])), (nwq, .inl (cJ, 8, .inr (.inl (lF (nu (nfl n0 0 8) t 1)))))] := hD
  have hP := P_arrJ hP 1 (g := (lF (fun j => if j = t then 1 else 0))) rfl (start_ag n0)
  have hD := D_arrJ hD 1 (g := (lF (fun j => if j = t then 1 else 0))) rfl
  have hP : va_P D vwCl [(pq, .inr (4, [.ref lq, .ref oq, .ref wq, .int (nI h), .ref bq, .ref teq, .ref loq, .ref rq, .ref odq, .int (nI kn), .ref nwq, .ref nxq])), (nwq, .inl (cJ, 8, .inr (.inl (lF (fun j => if j = t then 1 else 0)))))] _ := hP
  have hD : va_D A [(pq, .inr (4, [.ref lq, .ref oq, .ref wq, .int (nI h), .ref bq, .ref teq, .ref loq, .ref rq, .ref odq, .int (nI kn), .ref nwq, .ref nxq])), (nwq, .inl (cJ, 8, .inr (.inl (lF (fun j => if j = t then 1 else 0)))))] := hD
  exact w_vret hx hb hr hlk hQ hAe () hP hD hS (trivial) dX4_startAt_15

set_option maxHeartbeats 4000000 in
set_option maxRecDepth 100000 in
theorem m_X4_forward (l : Launch) (D : va_G) (cI cJ : ClassId) (sz : Nat) (pq : Nat) (lq : Nat) (oq : Nat) (wq : Nat) (h : Nat) (bq : Nat) (teq : Nat) (loq : Nat) (rq : Nat) (odq : Nat) (kn : Nat) (nwq : Nat) (nxq : Nat) (od : Nat → Nat) (n0 : Nat → Nat) (x0 : Nat → Nat) (fr : Nat) (k : Nat) (hfr : fr < 8) (hk4 : k ≤ 4) : Met l yX4_forward wsX4_forward ({ frames := 2, cells := 0, slots := 0, locals := 45 }) (PX D cI cJ [(pq, .inr (4, [.ref lq, .ref oq, .ref wq, .int (nI h), .ref bq, .ref teq, .ref loq, .ref rq, .ref odq, .int (nI kn), .ref nwq, .ref nxq])), (odq, .inl (cJ, 64, .inr (.inl (lF od)))), (nwq, .inl (cJ, 8, .inr (.inl (lF n0)))), (nxq, .inl (cJ, 8, .inr (.inl (lF x0))))] sz [.ref pq, .int (nI fr), .int (nI k)]) (QWr D (S := Nat → Nat) [(pq, .inr (4, [.ref lq, .ref oq, .ref wq, .int (nI h), .ref bq, .ref teq, .ref loq, .ref rq, .ref odq, .int (nI kn), .ref nwq, .ref nxq])), (odq, .inl (cJ, 64, .inr (.inl (lF od)))), (nwq, .inl (cJ, 8, .inr (.inl (lF n0)))), (nxq, .inl (cJ, 8, .inr (.inl (lF x0))))] sz (fun _ => True) (fun x9 => [(pq, .inr (4, [.ref lq, .ref oq, .ref wq, .int (nI h), .ref bq, .ref teq, .ref loq, .ref rq, .ref odq, .int (nI kn), .ref nwq, .ref nxq])), (odq, .inl (cJ, 64, .inr (.inl (lF od)))), (nwq, .inl (cJ, 8, .inr (.inl (lF (fwd od fr k))))), (nxq, .inl (cJ, 8, .inr (.inl (lF x9))))]) nwq) 0 0 (va_A [(pq, .inr (4, [.ref lq, .ref oq, .ref wq, .int (nI h), .ref bq, .ref teq, .ref loq, .ref rq, .ref odq, .int (nI kn), .ref nwq, .ref nxq])), (odq, .inl (cJ, 64, .inr (.inl (lF od)))), (nwq, .inl (cJ, 8, .inr (.inl (lF n0)))), (nxq, .inl (cJ, 8, .inr (.inl (lF x0))))] sz) := by
  refine met_X (cc := cX4_forward) (maxL := 5) (ret := (some (.array .long))) (by decide) rfl (Nat.le_of_ble_eq_true rfl) ?_
  intro p e s m args below meth c Q ls A hQ hAe hAt hKB hP hD hA hl
  obtain ⟨hx, hb, hr, hml, hlk, hts, hown, hnm⟩ := hAt
  have hown : s.vm.findClass RX4 = some m.cls := hown
  have hS : va_S A s.heap s.heap [] := va_S.rf
  have hl : lv_has ls 5 [(0, .ref pq), (1, .int (nI fr)), (2, .int (nI k))] := hl
  have hiX4 : ∀ w ∈ u_ws RX4 TX4 12, w ∈ wsX4_forward := by decide +kernel
  have fl41 := hts (.fieldLink RX4 41 "TaughtTongues$Steps" "now" "[J") (by decide +kernel)
  have fl44 := hts (.fieldLink RX4 44 "TaughtTongues$Steps" "next" "[J") (by decide +kernel)
  have acl95 := hts (.methodLink RX4 95 arraycopyName) (by decide +kernel)
  have acn := hts (.native arraycopyName) (by decide +kernel)
  have acs := hts (.static arraycopyName) (by decide +kernel)
  have aci := hts (.initialized "java/lang/System") (by decide +kernel)
  have fl34 := hts (.fieldLink RX4 34 "TaughtTongues$Steps" "odds" "[J") (by decide +kernel)
  refine lv_aload_n hx hb dX4_forward_0 rfl (lv_at hl 0 rfl) ?_
  refine lv_iload_n hx hb dX4_forward_1 rfl (lv_at hl 1 rfl) ?_
  have hPc := hP.sub (ws' := [(pq, .inr (4, [.ref lq, .ref oq, .ref wq, .int (nI h), .ref bq, .ref teq, .ref loq, .ref rq, .ref odq, .int (nI kn), .ref nwq, .ref nxq])), (nwq, .inl (cJ, 8, .inr (.inl (lF n0))))]) [0, 2] rfl
  have hDc := hD.sub (ws' := [(pq, .inr (4, [.ref lq, .ref oq, .ref wq, .int (nI h), .ref bq, .ref teq, .ref loq, .ref rq, .ref odq, .int (nI kn), .ref nwq, .ref nxq])), (nwq, .inl (cJ, 8, .inr (.inl (lF n0))))]) [0, 2] (by decide) rfl
  have hFc := va_free (wc := [(pq, .inr (4, [.ref lq, .ref oq, .ref wq, .int (nI h), .ref bq, .ref teq, .ref loq, .ref rq, .ref odq, .int (nI kn), .ref nwq, .ref nxq])), (nwq, .inl (cJ, 8, .inr (.inl (lF n0))))]) hD hS hA [0, 2] rfl
  refine w_callv (wc := [(pq, .inr (4, [.ref lq, .ref oq, .ref wq, .int (nI h), .ref bq, .ref teq, .ref loq, .ref rq, .ref odq, .int (nI kn), .ref nwq, .ref nxq])), (nwq, .inl (cJ, 8, .inr (.inl (lF n0))))]) (wr := [(odq, .inl (cJ, 64, .inr (.inl (lF od)))), (nxq, .inl (cJ, 8, .inr (.inl (lF x0))))]) hP hD hS [0, 2] [1, 3] rfl rfl (by decide) (by decide) hFc (va_runV (As := [.int (nI fr)]) (rest := []) ⟨hx, hb, hml, hown, hts⟩ (m_X4_startAt l D cI cJ _ pq lq oq wq h bq teq loq rq odq kn nwq nxq n0 fr (by omega)) (cwV 1 hts gX4_forward_X4_startAt rfl rfl rfl (by decide +kernel) ⟨Nat.le_of_ble_eq_true rfl, Nat.le_of_ble_eq_true rfl⟩) ⟨PX.blind, va_recv hKB.1 hP (ci := 4) (q0 := 0) rfl rfl, fun U hU hW => ⟨rfl, by rw [hU], hKB.warm hW, by rw [hU]; exact hPc, hDc.weaken (fun _ _ _ _ => trivial)⟩⟩ rfl rfl hl.1 rfl (lv_room (Nat.le_of_ble_eq_true rfl)) dX4_forward_2 ⟨Nat.le_of_ble_eq_true rfl, Nat.le_of_ble_eq_true rfl⟩) (fun u2 H locs hw2 hP hD hS => ?_)
  have hP : va_P D vwCl [(odq, .inl (cJ, 64, .inr (.inl (lF od)))), (nxq, .inl (cJ, 8, .inr (.inl (lF x0)))), (pq, .inr (4, [.ref lq, .ref oq, .ref wq, .int (nI h), .ref bq, .ref teq, .ref loq, .ref rq, .ref odq, .int (nI kn), .ref nwq, .ref nxq])), (nwq, .inl (cJ, 8, .inr (.inl (lF (fun j => if j = fr then 1 else 0)))))] _ := hP
  have hD : va_D A [(odq, .inl (cJ, 64, .inr (.inl (lF od)))), (nxq, .inl (cJ, 8, .inr (.inl (lF x0)))), (pq, .inr (4, [.ref lq, .ref oq, .ref wq, .int (nI h), .ref bq, .ref teq, .ref loq, .ref rq, .ref odq, .int (nI kn), .ref nwq, .ref nxq])), (nwq, .inl (cJ, 8, .inr (.inl (lF (fun j => if j = fr then 1 else 0)))))] := hD
  refine lv_iconst (v := nI (0)) hx hb dX4_forward_5 (by decide) ?_
  refine lv_istore_n (lv' := [(3, .int (nI 0)), (0, .ref pq), (1, .int (nI fr)), (2, .int (nI k))]) hx hb dX4_forward_6 rfl hl (by decide) rfl (fun ls hl => ?_)
  have L7 : ∀ (n : Nat) (i : Nat) (x3 : Nat → Nat) (H : Heap) (locs : List Loc) (ls : Array Slot), k - i < n → (i ≤ k) → va_P D vwCl [(odq, .inl (cJ, 64, .inr (.inl (lF od)))), (nxq, .inl (cJ, 8, .inr (.inl (lF x3)))), (pq, .inr (4, [.ref lq, .ref oq, .ref wq, .int (nI h), .ref bq, .ref teq, .ref loq, .ref rq, .ref odq, .int (nI kn), .ref nwq, .ref nxq])), (nwq, .inl (cJ, 8, .inr (.inl (lF (fwd od fr i)))))] H → va_D A [(odq, .inl (cJ, 64, .inr (.inl (lF od)))), (nxq, .inl (cJ, 8, .inr (.inl (lF x3)))), (pq, .inr (4, [.ref lq, .ref oq, .ref wq, .int (nI h), .ref bq, .ref teq, .ref loq, .ref rq, .ref odq, .int (nI kn), .ref nwq, .ref nxq])), (nwq, .inl (cJ, 8, .inr (.inl (lF (fwd od fr i)))))] → va_S A s.heap H locs → lv_has ls 5 [(3, .int (nI i)), (0, .ref pq), (1, .int (nI fr)), (2, .int (nI k))] → W p l e ({ frames := 2, cells := 0, slots := 0, locals := 45 }) s m args below meth c H locs 0 0 Q (F0 m 7 ls []) := by
    intro n
    induction n with
    | zero => intro i x3 H locs ls hm; exact absurd hm (Nat.not_lt_zero _)
    | succ n ih7 =>
      intro i x3 H locs ls hm hi hP hD hS hl
      refine lv_iload_n hx hb dX4_forward_7 rfl (lv_at hl 0 rfl) ?_
      refine lv_iload_n hx hb dX4_forward_8 rfl (lv_at hl 3 rfl) ?_
      refine r_icmp_ge (a := i) (b := k) (tgt := 88) hx hb dX4_forward_9 (by decide) (by omega) (by omega)  (fun c9 => ?_) (fun c9 => ?_)
      · skip
        obtain rfl : k = i := by omega
        refine lv_aload_n hx hb dX4_forward_88 rfl (lv_at hl 1 rfl) ?_
        refine va_get (D := D) (ci := 4) (v := .ref nwq) (C := RX4) (T := TX4) (N := 12) hx hb hts hiX4 hown hKB.1 hP 2 rfl rfl 10 (by decide) fl41 (fun _ h9 => h9) rfl dX4_forward_89 ?_
        exact w_aret hx hb hr (Or.inr ⟨_, rfl⟩) hlk hQ hAe x3 (hP.sub [2, 0, 3, 1] rfl) (hD.sub [2, 0, 3, 1] (by decide) rfl) hS (trivial) dX4_forward_92
      refine lv_aload_n hx hb dX4_forward_12 rfl (lv_at hl 1 rfl) ?_
      refine va_get (D := D) (ci := 4) (v := .ref nxq) (C := RX4) (T := TX4) (N := 12) hx hb hts hiX4 hown hKB.1 hP 2 rfl rfl 11 (by decide) fl44 (fun _ h9 => h9) rfl dX4_forward_13 ?_
      refine lv_lconst (v := lN (0)) hx hb dX4_forward_16 (by decide) ?_
      have hPc := hP.sub (ws' := [(nxq, .inl (cJ, 8, .inr (.inl (lF x3))))]) [1] rfl
      have hDc := hD.sub (ws' := [(nxq, .inl (cJ, 8, .inr (.inl (lF x3))))]) [1] (by decide) rfl
      have hFc := va_free (wc := [(nxq, .inl (cJ, 8, .inr (.inl (lF x3))))]) hD hS hA [1] rfl
      refine w_callv (wc := [(nxq, .inl (cJ, 8, .inr (.inl (lF x3))))]) (wr := [(odq, .inl (cJ, 64, .inr (.inl (lF od)))), (pq, .inr (4, [.ref lq, .ref oq, .ref wq, .int (nI h), .ref bq, .ref teq, .ref loq, .ref rq, .ref odq, .int (nI kn), .ref nwq, .ref nxq])), (nwq, .inl (cJ, 8, .inr (.inl (lF (fwd od fr i)))))]) hP hD hS [1] [0, 2, 3] rfl rfl (by decide) (by decide) hFc (va_runS (As := [.ref nxq, .long (lN 0)]) (rest := []) ⟨hx, hb, hml, hown, hts⟩ (m_J7_fill_d0a16 l D cI cJ _ nxq 8 (lF x3) (lN (0)) (by decide)) (va_cwS 2 hts gX4_forward_J7_fill_d0a16 rfl rfl rfl (by decide +kernel) ⟨Nat.le_of_ble_eq_true rfl, Nat.le_of_ble_eq_true rfl⟩) ⟨PX.blind, fun U hU hW => ⟨rfl, by rw [hU], hKB.warm hW, by rw [hU]; exact hPc, hDc.weaken (fun _ _ _ _ => trivial)⟩⟩ rfl rfl hl.1 rfl (lv_room (Nat.le_of_ble_eq_true rfl)) dX4_forward_17 ⟨Nat.le_of_ble_eq_true rfl, Nat.le_of_ble_eq_true rfl⟩) (fun u17 H locs hw17 hP hD hS => ?_)
      have hP : va_P D vwCl [(odq, .inl (cJ, 64, .inr (.inl (lF od)))), (pq, .inr (4, [.ref lq, .ref oq, .ref wq, .int (nI h), .ref bq, .ref teq, .ref loq, .ref rq, .ref odq, .int (nI kn), .ref nwq, .ref nxq])), (nwq, .inl (cJ, 8, .inr (.inl (lF (fwd od fr i))))), (nxq, .inl (cJ, 8, .inr (.inl (fillL (lF x3) (lN (0)) 8))))] _ := hP
      have hD : va_D A [(odq, .inl (cJ, 64, .inr (.inl (lF od)))), (pq, .inr (4, [.ref lq, .ref oq, .ref wq, .int (nI h), .ref bq, .ref teq, .ref loq, .ref rq, .ref odq, .int (nI kn), .ref nwq, .ref nxq])), (nwq, .inl (cJ, 8, .inr (.inl (lF (fwd od fr i))))), (nxq, .inl (cJ, 8, .inr (.inl (fillL (lF x3) (lN (0)) 8))))] := hD
      have hw3 : fillL (lF x3) (lN (0)) 8 = lF (nfl x3 0 8) := lF_fill x3 0 8
      rw [hw3] at hP hD
      have hP := P_arrJ hP 3 (g := (lF (fS od (fwd od fr i) 0))) rfl (zero_ag x3)
      have hD := D_arrJ hD 3 (g := (lF (fS od (fwd od fr i) 0))) rfl
      have hP : va_P D vwCl [(odq, .inl (cJ, 64, .inr (.inl (lF od)))), (pq, .inr (4, [.ref lq, .ref oq, .ref wq, .int (nI h), .ref bq, .ref teq, .ref loq, .ref rq, .ref odq, .int (nI kn), .ref nwq, .ref nxq])), (nwq, .inl (cJ, 8, .inr (.inl (lF (fwd od fr i))))), (nxq, .inl (cJ, 8, .inr (.inl (lF (fS od (fwd od fr i) 0)))))] _ := hP
      have hD : va_D A [(odq, .inl (cJ, 64, .inr (.inl (lF od)))), (pq, .inr (4, [.ref lq, .ref oq, .ref wq, .int (nI h), .ref bq, .ref teq, .ref loq, .ref rq, .ref odq, .int (nI kn), .ref nwq, .ref nxq])), (nwq, .inl (cJ, 8, .inr (.inl (lF (fwd od fr i))))), (nxq, .inl (cJ, 8, .inr (.inl (lF (fS od (fwd od fr i) 0)))))] := hD
      refine lv_iconst (v := nI (0)) hx hb dX4_forward_20 (by decide) ?_
      refine lv_istore (lv' := [(4, .int (nI 0)), (3, .int (nI i)), (0, .ref pq), (1, .int (nI fr)), (2, .int (nI k))]) hx hb dX4_forward_21 hl (by decide) rfl (fun ls hl => ?_)
      have L23 : ∀ (n : Nat) (ii : Nat) (H : Heap) (locs : List Loc) (ls : Array Slot), 64 - ii < n → (ii ≤ 64) → va_P D vwCl [(odq, .inl (cJ, 64, .inr (.inl (lF od)))), (pq, .inr (4, [.ref lq, .ref oq, .ref wq, .int (nI h), .ref bq, .ref teq, .ref loq, .ref rq, .ref odq, .int (nI kn), .ref nwq, .ref nxq])), (nwq, .inl (cJ, 8, .inr (.inl (lF (fwd od fr i))))), (nxq, .inl (cJ, 8, .inr (.inl (lF (fS od (fwd od fr i) ii)))))] H → va_D A [(odq, .inl (cJ, 64, .inr (.inl (lF od)))), (pq, .inr (4, [.ref lq, .ref oq, .ref wq, .int (nI h), .ref bq, .ref teq, .ref loq, .ref rq, .ref odq, .int (nI kn), .ref nwq, .ref nxq])), (nwq, .inl (cJ, 8, .inr (.inl (lF (fwd od fr i))))), (nxq, .inl (cJ, 8, .inr (.inl (lF (fS od (fwd od fr i) ii)))))] → va_S A s.heap H locs → lv_has ls 5 [(4, .int (nI ii)), (3, .int (nI i)), (0, .ref pq), (1, .int (nI fr)), (2, .int (nI k))] → W p l e ({ frames := 2, cells := 0, slots := 0, locals := 45 }) s m args below meth c H locs 0 0 Q (F0 m 23 ls []) := by
        intro n
        induction n with
        | zero => intro ii H locs ls hm; exact absurd hm (Nat.not_lt_zero _)
        | succ n ih23 =>
          intro ii H locs ls hm hii hP hD hS hl
          refine lv_iload hx hb dX4_forward_23 (lv_at hl 0 rfl) ?_
          refine lv_bipush (v := nI (64)) hx hb dX4_forward_25 (by decide) ?_
          refine r_icmp_ge (a := ii) (b := 64) (tgt := 67) hx hb dX4_forward_27 (by decide) (by omega) (by omega)  (fun c27 => ?_) (fun c27 => ?_)
          · skip
            obtain rfl : 64 = ii := by omega
            refine lv_aload_n hx hb dX4_forward_67 rfl (lv_at hl 2 rfl) ?_
            refine va_get (D := D) (ci := 4) (v := .ref nxq) (C := RX4) (T := TX4) (N := 12) hx hb hts hiX4 hown hKB.1 hP 1 rfl rfl 11 (by decide) fl44 (fun _ h9 => h9) rfl dX4_forward_68 ?_
            refine lv_iconst (v := nI (0)) hx hb dX4_forward_71 (by decide) ?_
            refine lv_aload_n hx hb dX4_forward_72 rfl (lv_at hl 2 rfl) ?_
            refine va_get (D := D) (ci := 4) (v := .ref nwq) (C := RX4) (T := TX4) (N := 12) hx hb hts hiX4 hown hKB.1 hP 1 rfl rfl 10 (by decide) fl41 (fun _ h9 => h9) rfl dX4_forward_73 ?_
            refine lv_iconst (v := nI (0)) hx hb dX4_forward_76 (by decide) ?_
            refine lv_bipush (v := nI (8)) hx hb dX4_forward_77 (by decide) ?_
            refine r_copyL (sp := 0) (dp := 0) (n := 8) hx hb (by rw [hml]; exact hl.1.symm) hown acl95 acn acs aci hKB.1 hP hD hS 3 2 1 rfl rfl rfl (by omega) (by omega) (by omega) (by omega) (by omega) (Nat.le_of_ble_eq_true rfl) (Nat.le_of_ble_eq_true rfl) dX4_forward_79 (fun H locs hP hD hS => ?_)
            have hP : va_P D vwCl [(odq, .inl (cJ, 64, .inr (.inl (lF od)))), (pq, .inr (4, [.ref lq, .ref oq, .ref wq, .int (nI h), .ref bq, .ref teq, .ref loq, .ref rq, .ref odq, .int (nI kn), .ref nwq, .ref nxq])), (nwq, .inl (cJ, 8, .inr (.inl (lF (ncpy (fS od (fwd od fr i) 64) (fwd od fr i) 0 0 8))))), (nxq, .inl (cJ, 8, .inr (.inl (lF (fS od (fwd od fr i) 64)))))] _ := hP
            have hD : va_D A [(odq, .inl (cJ, 64, .inr (.inl (lF od)))), (pq, .inr (4, [.ref lq, .ref oq, .ref wq, .int (nI h), .ref bq, .ref teq, .ref loq, .ref rq, .ref odq, .int (nI kn), .ref nwq, .ref nxq])), (nwq, .inl (cJ, 8, .inr (.inl (lF (ncpy (fS od (fwd od fr i) 64) (fwd od fr i) 0 0 8))))), (nxq, .inl (cJ, 8, .inr (.inl (lF (fS od (fwd od fr i) 64)))))] := hD
            have hP := P_arrJ hP 2 (g := (lF (fwd od fr (i + 1)))) rfl (cpy_ag (fS od (fwd od fr i) 64) (fwd od fr i))
            have hD := D_arrJ hD 2 (g := (lF (fwd od fr (i + 1)))) rfl
            have hP : va_P D vwCl [(odq, .inl (cJ, 64, .inr (.inl (lF od)))), (pq, .inr (4, [.ref lq, .ref oq, .ref wq, .int (nI h), .ref bq, .ref teq, .ref loq, .ref rq, .ref odq, .int (nI kn), .ref nwq, .ref nxq])), (nwq, .inl (cJ, 8, .inr (.inl (lF (fwd od fr (i + 1)))))), (nxq, .inl (cJ, 8, .inr (.inl (lF (fS od (fwd od fr i) 64)))))] _ := hP
            have hD : va_D A [(odq, .inl (cJ, 64, .inr (.inl (lF od)))), (pq, .inr (4, [.ref lq, .ref oq, .ref wq, .int (nI h), .ref bq, .ref teq, .ref loq, .ref rq, .ref odq, .int (nI kn), .ref nwq, .ref nxq])), (nwq, .inl (cJ, 8, .inr (.inl (lF (fwd od fr (i + 1)))))), (nxq, .inl (cJ, 8, .inr (.inl (lF (fS od (fwd od fr i) 64)))))] := hD
            refine lv_iinc (v := nI (i + 1)) (lv' := [(3, .int (nI (i + 1))), (4, .int (nI 64)), (0, .ref pq), (1, .int (nI fr)), (2, .int (nI k))]) hx hb dX4_forward_82 hl (k := 1) rfl (n_inc _ 1) (by decide) rfl (fun ls hl => ?_)
            refine lv_goto (tgt := 7) hx hb dX4_forward_85 (by decide) ?_
            exact ih7 (i + 1) (fS od (fwd od fr i) 64) _ _ _ (by omega) (by omega) (hP.sub [0, 3, 1, 2] rfl) (hD.sub [0, 3, 1, 2] (by decide) rfl) hS (lv_sub hl [0, 2, 3, 4] rfl)
          refine lv_aload_n hx hb dX4_forward_30 rfl (lv_at hl 2 rfl) ?_
          refine va_get (D := D) (ci := 4) (v := .ref nxq) (C := RX4) (T := TX4) (N := 12) hx hb hts hiX4 hown hKB.1 hP 1 rfl rfl 11 (by decide) fl44 (fun _ h9 => h9) rfl dX4_forward_31 ?_
          refine lv_iload hx hb dX4_forward_34 (lv_at hl 0 rfl) ?_
          refine lv_bipush (v := nI (8)) hx hb dX4_forward_36 (by decide) ?_
          refine r_irem (a := ii) (b := 8) hx hb dX4_forward_38 (by omega) (by omega) (by omega) ?_
          refine lv_dup2_11 hx hb dX4_forward_39 rfl rfl ?_
          refine r_lald (i := ii % 8) (v := lN ((fS od (fwd od fr i) ii) (ii % 8))) hx hb hKB.1 hP 3 1 rfl rfl (by omega) (by decide) (rfl) dX4_forward_40 ?_
          refine lv_aload_n hx hb dX4_forward_41 rfl (lv_at hl 2 rfl) ?_
          refine va_get (D := D) (ci := 4) (v := .ref nwq) (C := RX4) (T := TX4) (N := 12) hx hb hts hiX4 hown hKB.1 hP 1 rfl rfl 10 (by decide) fl41 (fun _ h9 => h9) rfl dX4_forward_42 ?_
          refine lv_iload hx hb dX4_forward_45 (lv_at hl 0 rfl) ?_
          refine lv_bipush (v := nI (8)) hx hb dX4_forward_47 (by decide) ?_
          refine r_idiv (a := ii) (b := 8) hx hb dX4_forward_49 (by omega) (by omega) (by omega) ?_
          refine r_lald (i := ii / 8) (v := lN ((fwd od fr i) (ii / 8))) hx hb hKB.1 hP 2 1 rfl rfl (by omega) (by decide) (rfl) dX4_forward_50 ?_
          refine lv_aload_n hx hb dX4_forward_51 rfl (lv_at hl 2 rfl) ?_
          refine va_get (D := D) (ci := 4) (v := .ref odq) (C := RX4) (T := TX4) (N := 12) hx hb hts hiX4 hown hKB.1 hP 1 rfl rfl 8 (by decide) fl34 (fun _ h9 => h9) rfl dX4_forward_52 ?_
          refine lv_iload hx hb dX4_forward_55 (lv_at hl 0 rfl) ?_
          refine r_lald (i := ii) (v := lN (od ii)) hx hb hKB.1 hP 0 1 rfl rfl (by omega) (by decide) (rfl) dX4_forward_57 ?_
          refine r_lmul (a := (fwd od fr i) (ii / 8)) (b := od ii) hx hb dX4_forward_58  ?_
          refine r_ladd (a := (fS od (fwd od fr i) ii) (ii % 8)) (b := ((fwd od fr i) (ii / 8)) * (od ii)) hx hb dX4_forward_59  ?_
          refine r_lastN (i := ii % 8) hx hb hKB.1 hP hD hS 3 1 rfl rfl (by omega) (by decide) dX4_forward_60 (fun H locs hP hD hS => ?_)
          have hP : va_P D vwCl [(odq, .inl (cJ, 64, .inr (.inl (lF od)))), (pq, .inr (4, [.ref lq, .ref oq, .ref wq, .int (nI h), .ref bq, .ref teq, .ref loq, .ref rq, .ref odq, .int (nI kn), .ref nwq, .ref nxq])), (nwq, .inl (cJ, 8, .inr (.inl (lF (fwd od fr i))))), (nxq, .inl (cJ, 8, .inr (.inl (lF (nu (fS od (fwd od fr i) ii) (ii % 8) (((fS od (fwd od fr i) ii) (ii % 8)) + (((fwd od fr i) (ii / 8)) * (od ii))))))))] _ := hP
          have hD : va_D A [(odq, .inl (cJ, 64, .inr (.inl (lF od)))), (pq, .inr (4, [.ref lq, .ref oq, .ref wq, .int (nI h), .ref bq, .ref teq, .ref loq, .ref rq, .ref odq, .int (nI kn), .ref nwq, .ref nxq])), (nwq, .inl (cJ, 8, .inr (.inl (lF (fwd od fr i))))), (nxq, .inl (cJ, 8, .inr (.inl (lF (nu (fS od (fwd od fr i) ii) (ii % 8) (((fS od (fwd od fr i) ii) (ii % 8)) + (((fwd od fr i) (ii / 8)) * (od ii))))))))] := hD
          refine lv_iinc (v := nI (ii + 1)) (lv' := [(4, .int (nI (ii + 1))), (3, .int (nI i)), (0, .ref pq), (1, .int (nI fr)), (2, .int (nI k))]) hx hb dX4_forward_61 hl (k := 0) rfl (n_inc _ 1) (by decide) rfl (fun ls hl => ?_)
          refine lv_goto (tgt := 23) hx hb dX4_forward_64 (by decide) ?_
          exact ih23 (ii + 1) _ _ _ (by omega) (by omega) hP hD hS hl
      exact L23 (64 - 0 + 1) 0 _ _ _ (Nat.lt_succ_self _) (by omega) hP hD hS hl
  exact L7 (k - 0 + 1) 0 x0 _ _ _ (Nat.lt_succ_self _) (by omega) hP hD hS hl

set_option maxHeartbeats 4000000 in
set_option maxRecDepth 100000 in
theorem m_X4_backward (l : Launch) (D : va_G) (cI cJ : ClassId) (sz : Nat) (pq : Nat) (lq : Nat) (oq : Nat) (wq : Nat) (h : Nat) (bq : Nat) (teq : Nat) (loq : Nat) (rq : Nat) (odq : Nat) (kn : Nat) (nwq : Nat) (nxq : Nat) (od : Nat → Nat) (n0 : Nat → Nat) (x0 : Nat → Nat) (fr : Nat) (k : Nat) (hfr : fr < 8) (hk4 : k ≤ 4) : Met l yX4_backward wsX4_backward ({ frames := 2, cells := 0, slots := 0, locals := 45 }) (PX D cI cJ [(pq, .inr (4, [.ref lq, .ref oq, .ref wq, .int (nI h), .ref bq, .ref teq, .ref loq, .ref rq, .ref odq, .int (nI kn), .ref nwq, .ref nxq])), (odq, .inl (cJ, 64, .inr (.inl (lF od)))), (nwq, .inl (cJ, 8, .inr (.inl (lF n0)))), (nxq, .inl (cJ, 8, .inr (.inl (lF x0))))] sz [.ref pq, .int (nI fr), .int (nI k)]) (QWr D (S := Nat → Nat) [(pq, .inr (4, [.ref lq, .ref oq, .ref wq, .int (nI h), .ref bq, .ref teq, .ref loq, .ref rq, .ref odq, .int (nI kn), .ref nwq, .ref nxq])), (odq, .inl (cJ, 64, .inr (.inl (lF od)))), (nwq, .inl (cJ, 8, .inr (.inl (lF n0)))), (nxq, .inl (cJ, 8, .inr (.inl (lF x0))))] sz (fun _ => True) (fun x9 => [(pq, .inr (4, [.ref lq, .ref oq, .ref wq, .int (nI h), .ref bq, .ref teq, .ref loq, .ref rq, .ref odq, .int (nI kn), .ref nwq, .ref nxq])), (odq, .inl (cJ, 64, .inr (.inl (lF od)))), (nwq, .inl (cJ, 8, .inr (.inl (lF (bwd od fr k))))), (nxq, .inl (cJ, 8, .inr (.inl (lF x9))))]) nwq) 0 0 (va_A [(pq, .inr (4, [.ref lq, .ref oq, .ref wq, .int (nI h), .ref bq, .ref teq, .ref loq, .ref rq, .ref odq, .int (nI kn), .ref nwq, .ref nxq])), (odq, .inl (cJ, 64, .inr (.inl (lF od)))), (nwq, .inl (cJ, 8, .inr (.inl (lF n0)))), (nxq, .inl (cJ, 8, .inr (.inl (lF x0))))] sz) := by
  refine met_X (cc := cX4_backward) (maxL := 5) (ret := (some (.array .long))) (by decide) rfl (Nat.le_of_ble_eq_true rfl) ?_
  intro p e s m args below meth c Q ls A hQ hAe hAt hKB hP hD hA hl
  obtain ⟨hx, hb, hr, hml, hlk, hts, hown, hnm⟩ := hAt
  have hown : s.vm.findClass RX4 = some m.cls := hown
  have hS : va_S A s.heap s.heap [] := va_S.rf
  have hl : lv_has ls 5 [(0, .ref pq), (1, .int (nI fr)), (2, .int (nI k))] := hl
  have hiX4 : ∀ w ∈ u_ws RX4 TX4 12, w ∈ wsX4_backward := by decide +kernel
  have fl41 := hts (.fieldLink RX4 41 "TaughtTongues$Steps" "now" "[J") (by decide +kernel)
  have fl44 := hts (.fieldLink RX4 44 "TaughtTongues$Steps" "next" "[J") (by decide +kernel)
  have acl95 := hts (.methodLink RX4 95 arraycopyName) (by decide +kernel)
  have acn := hts (.native arraycopyName) (by decide +kernel)
  have acs := hts (.static arraycopyName) (by decide +kernel)
  have aci := hts (.initialized "java/lang/System") (by decide +kernel)
  have fl34 := hts (.fieldLink RX4 34 "TaughtTongues$Steps" "odds" "[J") (by decide +kernel)
  refine lv_aload_n hx hb dX4_backward_0 rfl (lv_at hl 0 rfl) ?_
  refine lv_iload_n hx hb dX4_backward_1 rfl (lv_at hl 1 rfl) ?_
  have hPc := hP.sub (ws' := [(pq, .inr (4, [.ref lq, .ref oq, .ref wq, .int (nI h), .ref bq, .ref teq, .ref loq, .ref rq, .ref odq, .int (nI kn), .ref nwq, .ref nxq])), (nwq, .inl (cJ, 8, .inr (.inl (lF n0))))]) [0, 2] rfl
  have hDc := hD.sub (ws' := [(pq, .inr (4, [.ref lq, .ref oq, .ref wq, .int (nI h), .ref bq, .ref teq, .ref loq, .ref rq, .ref odq, .int (nI kn), .ref nwq, .ref nxq])), (nwq, .inl (cJ, 8, .inr (.inl (lF n0))))]) [0, 2] (by decide) rfl
  have hFc := va_free (wc := [(pq, .inr (4, [.ref lq, .ref oq, .ref wq, .int (nI h), .ref bq, .ref teq, .ref loq, .ref rq, .ref odq, .int (nI kn), .ref nwq, .ref nxq])), (nwq, .inl (cJ, 8, .inr (.inl (lF n0))))]) hD hS hA [0, 2] rfl
  refine w_callv (wc := [(pq, .inr (4, [.ref lq, .ref oq, .ref wq, .int (nI h), .ref bq, .ref teq, .ref loq, .ref rq, .ref odq, .int (nI kn), .ref nwq, .ref nxq])), (nwq, .inl (cJ, 8, .inr (.inl (lF n0))))]) (wr := [(odq, .inl (cJ, 64, .inr (.inl (lF od)))), (nxq, .inl (cJ, 8, .inr (.inl (lF x0))))]) hP hD hS [0, 2] [1, 3] rfl rfl (by decide) (by decide) hFc (va_runV (As := [.int (nI fr)]) (rest := []) ⟨hx, hb, hml, hown, hts⟩ (m_X4_startAt l D cI cJ _ pq lq oq wq h bq teq loq rq odq kn nwq nxq n0 fr (by omega)) (cwV 1 hts gX4_backward_X4_startAt rfl rfl rfl (by decide +kernel) ⟨Nat.le_of_ble_eq_true rfl, Nat.le_of_ble_eq_true rfl⟩) ⟨PX.blind, va_recv hKB.1 hP (ci := 4) (q0 := 0) rfl rfl, fun U hU hW => ⟨rfl, by rw [hU], hKB.warm hW, by rw [hU]; exact hPc, hDc.weaken (fun _ _ _ _ => trivial)⟩⟩ rfl rfl hl.1 rfl (lv_room (Nat.le_of_ble_eq_true rfl)) dX4_backward_2 ⟨Nat.le_of_ble_eq_true rfl, Nat.le_of_ble_eq_true rfl⟩) (fun u2 H locs hw2 hP hD hS => ?_)
  have hP : va_P D vwCl [(odq, .inl (cJ, 64, .inr (.inl (lF od)))), (nxq, .inl (cJ, 8, .inr (.inl (lF x0)))), (pq, .inr (4, [.ref lq, .ref oq, .ref wq, .int (nI h), .ref bq, .ref teq, .ref loq, .ref rq, .ref odq, .int (nI kn), .ref nwq, .ref nxq])), (nwq, .inl (cJ, 8, .inr (.inl (lF (fun j => if j = fr then 1 else 0)))))] _ := hP
  have hD : va_D A [(odq, .inl (cJ, 64, .inr (.inl (lF od)))), (nxq, .inl (cJ, 8, .inr (.inl (lF x0)))), (pq, .inr (4, [.ref lq, .ref oq, .ref wq, .int (nI h), .ref bq, .ref teq, .ref loq, .ref rq, .ref odq, .int (nI kn), .ref nwq, .ref nxq])), (nwq, .inl (cJ, 8, .inr (.inl (lF (fun j => if j = fr then 1 else 0)))))] := hD
  refine lv_iconst (v := nI (0)) hx hb dX4_backward_5 (by decide) ?_
  refine lv_istore_n (lv' := [(3, .int (nI 0)), (0, .ref pq), (1, .int (nI fr)), (2, .int (nI k))]) hx hb dX4_backward_6 rfl hl (by decide) rfl (fun ls hl => ?_)
  have L7 : ∀ (n : Nat) (i : Nat) (x3 : Nat → Nat) (H : Heap) (locs : List Loc) (ls : Array Slot), k - i < n → (i ≤ k) → va_P D vwCl [(odq, .inl (cJ, 64, .inr (.inl (lF od)))), (nxq, .inl (cJ, 8, .inr (.inl (lF x3)))), (pq, .inr (4, [.ref lq, .ref oq, .ref wq, .int (nI h), .ref bq, .ref teq, .ref loq, .ref rq, .ref odq, .int (nI kn), .ref nwq, .ref nxq])), (nwq, .inl (cJ, 8, .inr (.inl (lF (bwd od fr i)))))] H → va_D A [(odq, .inl (cJ, 64, .inr (.inl (lF od)))), (nxq, .inl (cJ, 8, .inr (.inl (lF x3)))), (pq, .inr (4, [.ref lq, .ref oq, .ref wq, .int (nI h), .ref bq, .ref teq, .ref loq, .ref rq, .ref odq, .int (nI kn), .ref nwq, .ref nxq])), (nwq, .inl (cJ, 8, .inr (.inl (lF (bwd od fr i)))))] → va_S A s.heap H locs → lv_has ls 5 [(3, .int (nI i)), (0, .ref pq), (1, .int (nI fr)), (2, .int (nI k))] → W p l e ({ frames := 2, cells := 0, slots := 0, locals := 45 }) s m args below meth c H locs 0 0 Q (F0 m 7 ls []) := by
    intro n
    induction n with
    | zero => intro i x3 H locs ls hm; exact absurd hm (Nat.not_lt_zero _)
    | succ n ih7 =>
      intro i x3 H locs ls hm hi hP hD hS hl
      refine lv_iload_n hx hb dX4_backward_7 rfl (lv_at hl 0 rfl) ?_
      refine lv_iload_n hx hb dX4_backward_8 rfl (lv_at hl 3 rfl) ?_
      refine r_icmp_ge (a := i) (b := k) (tgt := 88) hx hb dX4_backward_9 (by decide) (by omega) (by omega)  (fun c9 => ?_) (fun c9 => ?_)
      · skip
        obtain rfl : k = i := by omega
        refine lv_aload_n hx hb dX4_backward_88 rfl (lv_at hl 1 rfl) ?_
        refine va_get (D := D) (ci := 4) (v := .ref nwq) (C := RX4) (T := TX4) (N := 12) hx hb hts hiX4 hown hKB.1 hP 2 rfl rfl 10 (by decide) fl41 (fun _ h9 => h9) rfl dX4_backward_89 ?_
        exact w_aret hx hb hr (Or.inr ⟨_, rfl⟩) hlk hQ hAe x3 (hP.sub [2, 0, 3, 1] rfl) (hD.sub [2, 0, 3, 1] (by decide) rfl) hS (trivial) dX4_backward_92
      refine lv_aload_n hx hb dX4_backward_12 rfl (lv_at hl 1 rfl) ?_
      refine va_get (D := D) (ci := 4) (v := .ref nxq) (C := RX4) (T := TX4) (N := 12) hx hb hts hiX4 hown hKB.1 hP 2 rfl rfl 11 (by decide) fl44 (fun _ h9 => h9) rfl dX4_backward_13 ?_
      refine lv_lconst (v := lN (0)) hx hb dX4_backward_16 (by decide) ?_
      have hPc := hP.sub (ws' := [(nxq, .inl (cJ, 8, .inr (.inl (lF x3))))]) [1] rfl
      have hDc := hD.sub (ws' := [(nxq, .inl (cJ, 8, .inr (.inl (lF x3))))]) [1] (by decide) rfl
      have hFc := va_free (wc := [(nxq, .inl (cJ, 8, .inr (.inl (lF x3))))]) hD hS hA [1] rfl
      refine w_callv (wc := [(nxq, .inl (cJ, 8, .inr (.inl (lF x3))))]) (wr := [(odq, .inl (cJ, 64, .inr (.inl (lF od)))), (pq, .inr (4, [.ref lq, .ref oq, .ref wq, .int (nI h), .ref bq, .ref teq, .ref loq, .ref rq, .ref odq, .int (nI kn), .ref nwq, .ref nxq])), (nwq, .inl (cJ, 8, .inr (.inl (lF (bwd od fr i)))))]) hP hD hS [1] [0, 2, 3] rfl rfl (by decide) (by decide) hFc (va_runS (As := [.ref nxq, .long (lN 0)]) (rest := []) ⟨hx, hb, hml, hown, hts⟩ (m_J7_fill_d0a16 l D cI cJ _ nxq 8 (lF x3) (lN (0)) (by decide)) (va_cwS 2 hts gX4_backward_J7_fill_d0a16 rfl rfl rfl (by decide +kernel) ⟨Nat.le_of_ble_eq_true rfl, Nat.le_of_ble_eq_true rfl⟩) ⟨PX.blind, fun U hU hW => ⟨rfl, by rw [hU], hKB.warm hW, by rw [hU]; exact hPc, hDc.weaken (fun _ _ _ _ => trivial)⟩⟩ rfl rfl hl.1 rfl (lv_room (Nat.le_of_ble_eq_true rfl)) dX4_backward_17 ⟨Nat.le_of_ble_eq_true rfl, Nat.le_of_ble_eq_true rfl⟩) (fun u17 H locs hw17 hP hD hS => ?_)
      have hP : va_P D vwCl [(odq, .inl (cJ, 64, .inr (.inl (lF od)))), (pq, .inr (4, [.ref lq, .ref oq, .ref wq, .int (nI h), .ref bq, .ref teq, .ref loq, .ref rq, .ref odq, .int (nI kn), .ref nwq, .ref nxq])), (nwq, .inl (cJ, 8, .inr (.inl (lF (bwd od fr i))))), (nxq, .inl (cJ, 8, .inr (.inl (fillL (lF x3) (lN (0)) 8))))] _ := hP
      have hD : va_D A [(odq, .inl (cJ, 64, .inr (.inl (lF od)))), (pq, .inr (4, [.ref lq, .ref oq, .ref wq, .int (nI h), .ref bq, .ref teq, .ref loq, .ref rq, .ref odq, .int (nI kn), .ref nwq, .ref nxq])), (nwq, .inl (cJ, 8, .inr (.inl (lF (bwd od fr i))))), (nxq, .inl (cJ, 8, .inr (.inl (fillL (lF x3) (lN (0)) 8))))] := hD
      have hw3 : fillL (lF x3) (lN (0)) 8 = lF (nfl x3 0 8) := lF_fill x3 0 8
      rw [hw3] at hP hD
      have hP := P_arrJ hP 3 (g := (lF (bS od (bwd od fr i) 0))) rfl (zero_ag x3)
      have hD := D_arrJ hD 3 (g := (lF (bS od (bwd od fr i) 0))) rfl
      have hP : va_P D vwCl [(odq, .inl (cJ, 64, .inr (.inl (lF od)))), (pq, .inr (4, [.ref lq, .ref oq, .ref wq, .int (nI h), .ref bq, .ref teq, .ref loq, .ref rq, .ref odq, .int (nI kn), .ref nwq, .ref nxq])), (nwq, .inl (cJ, 8, .inr (.inl (lF (bwd od fr i))))), (nxq, .inl (cJ, 8, .inr (.inl (lF (bS od (bwd od fr i) 0)))))] _ := hP
      have hD : va_D A [(odq, .inl (cJ, 64, .inr (.inl (lF od)))), (pq, .inr (4, [.ref lq, .ref oq, .ref wq, .int (nI h), .ref bq, .ref teq, .ref loq, .ref rq, .ref odq, .int (nI kn), .ref nwq, .ref nxq])), (nwq, .inl (cJ, 8, .inr (.inl (lF (bwd od fr i))))), (nxq, .inl (cJ, 8, .inr (.inl (lF (bS od (bwd od fr i) 0)))))] := hD
      refine lv_iconst (v := nI (0)) hx hb dX4_backward_20 (by decide) ?_
      refine lv_istore (lv' := [(4, .int (nI 0)), (3, .int (nI i)), (0, .ref pq), (1, .int (nI fr)), (2, .int (nI k))]) hx hb dX4_backward_21 hl (by decide) rfl (fun ls hl => ?_)
      have L23 : ∀ (n : Nat) (ii : Nat) (H : Heap) (locs : List Loc) (ls : Array Slot), 64 - ii < n → (ii ≤ 64) → va_P D vwCl [(odq, .inl (cJ, 64, .inr (.inl (lF od)))), (pq, .inr (4, [.ref lq, .ref oq, .ref wq, .int (nI h), .ref bq, .ref teq, .ref loq, .ref rq, .ref odq, .int (nI kn), .ref nwq, .ref nxq])), (nwq, .inl (cJ, 8, .inr (.inl (lF (bwd od fr i))))), (nxq, .inl (cJ, 8, .inr (.inl (lF (bS od (bwd od fr i) ii)))))] H → va_D A [(odq, .inl (cJ, 64, .inr (.inl (lF od)))), (pq, .inr (4, [.ref lq, .ref oq, .ref wq, .int (nI h), .ref bq, .ref teq, .ref loq, .ref rq, .ref odq, .int (nI kn), .ref nwq, .ref nxq])), (nwq, .inl (cJ, 8, .inr (.inl (lF (bwd od fr i))))), (nxq, .inl (cJ, 8, .inr (.inl (lF (bS od (bwd od fr i) ii)))))] → va_S A s.heap H locs → lv_has ls 5 [(4, .int (nI ii)), (3, .int (nI i)), (0, .ref pq), (1, .int (nI fr)), (2, .int (nI k))] → W p l e ({ frames := 2, cells := 0, slots := 0, locals := 45 }) s m args below meth c H locs 0 0 Q (F0 m 23 ls []) := by
        intro n
        induction n with
        | zero => intro ii H locs ls hm; exact absurd hm (Nat.not_lt_zero _)
        | succ n ih23 =>
          intro ii H locs ls hm hii hP hD hS hl
          refine lv_iload hx hb dX4_backward_23 (lv_at hl 0 rfl) ?_
          refine lv_bipush (v := nI (64)) hx hb dX4_backward_25 (by decide) ?_
          refine r_icmp_ge (a := ii) (b := 64) (tgt := 67) hx hb dX4_backward_27 (by decide) (by omega) (by omega)  (fun c27 => ?_) (fun c27 => ?_)
          · skip
            obtain rfl : 64 = ii := by omega
            refine lv_aload_n hx hb dX4_backward_67 rfl (lv_at hl 2 rfl) ?_
            refine va_get (D := D) (ci := 4) (v := .ref nxq) (C := RX4) (T := TX4) (N := 12) hx hb hts hiX4 hown hKB.1 hP 1 rfl rfl 11 (by decide) fl44 (fun _ h9 => h9) rfl dX4_backward_68 ?_
            refine lv_iconst (v := nI (0)) hx hb dX4_backward_71 (by decide) ?_
            refine lv_aload_n hx hb dX4_backward_72 rfl (lv_at hl 2 rfl) ?_
            refine va_get (D := D) (ci := 4) (v := .ref nwq) (C := RX4) (T := TX4) (N := 12) hx hb hts hiX4 hown hKB.1 hP 1 rfl rfl 10 (by decide) fl41 (fun _ h9 => h9) rfl dX4_backward_73 ?_
            refine lv_iconst (v := nI (0)) hx hb dX4_backward_76 (by decide) ?_
            refine lv_bipush (v := nI (8)) hx hb dX4_backward_77 (by decide) ?_
            refine r_copyL (sp := 0) (dp := 0) (n := 8) hx hb (by rw [hml]; exact hl.1.symm) hown acl95 acn acs aci hKB.1 hP hD hS 3 2 1 rfl rfl rfl (by omega) (by omega) (by omega) (by omega) (by omega) (Nat.le_of_ble_eq_true rfl) (Nat.le_of_ble_eq_true rfl) dX4_backward_79 (fun H locs hP hD hS => ?_)
            have hP : va_P D vwCl [(odq, .inl (cJ, 64, .inr (.inl (lF od)))), (pq, .inr (4, [.ref lq, .ref oq, .ref wq, .int (nI h), .ref bq, .ref teq, .ref loq, .ref rq, .ref odq, .int (nI kn), .ref nwq, .ref nxq])), (nwq, .inl (cJ, 8, .inr (.inl (lF (ncpy (bS od (bwd od fr i) 64) (bwd od fr i) 0 0 8))))), (nxq, .inl (cJ, 8, .inr (.inl (lF (bS od (bwd od fr i) 64)))))] _ := hP
            have hD : va_D A [(odq, .inl (cJ, 64, .inr (.inl (lF od)))), (pq, .inr (4, [.ref lq, .ref oq, .ref wq, .int (nI h), .ref bq, .ref teq, .ref loq, .ref rq, .ref odq, .int (nI kn), .ref nwq, .ref nxq])), (nwq, .inl (cJ, 8, .inr (.inl (lF (ncpy (bS od (bwd od fr i) 64) (bwd od fr i) 0 0 8))))), (nxq, .inl (cJ, 8, .inr (.inl (lF (bS od (bwd od fr i) 64)))))] := hD
            have hP := P_arrJ hP 2 (g := (lF (bwd od fr (i + 1)))) rfl (cpy_ag (bS od (bwd od fr i) 64) (bwd od fr i))
            have hD := D_arrJ hD 2 (g := (lF (bwd od fr (i + 1)))) rfl
            have hP : va_P D vwCl [(odq, .inl (cJ, 64, .inr (.inl (lF od)))), (pq, .inr (4, [.ref lq, .ref oq, .ref wq, .int (nI h), .ref bq, .ref teq, .ref loq, .ref rq, .ref odq, .int (nI kn), .ref nwq, .ref nxq])), (nwq, .inl (cJ, 8, .inr (.inl (lF (bwd od fr (i + 1)))))), (nxq, .inl (cJ, 8, .inr (.inl (lF (bS od (bwd od fr i) 64)))))] _ := hP
            have hD : va_D A [(odq, .inl (cJ, 64, .inr (.inl (lF od)))), (pq, .inr (4, [.ref lq, .ref oq, .ref wq, .int (nI h), .ref bq, .ref teq, .ref loq, .ref rq, .ref odq, .int (nI kn), .ref nwq, .ref nxq])), (nwq, .inl (cJ, 8, .inr (.inl (lF (bwd od fr (i + 1)))))), (nxq, .inl (cJ, 8, .inr (.inl (lF (bS od (bwd od fr i) 64)))))] := hD
            refine lv_iinc (v := nI (i + 1)) (lv' := [(3, .int (nI (i + 1))), (4, .int (nI 64)), (0, .ref pq), (1, .int (nI fr)), (2, .int (nI k))]) hx hb dX4_backward_82 hl (k := 1) rfl (n_inc _ 1) (by decide) rfl (fun ls hl => ?_)
            refine lv_goto (tgt := 7) hx hb dX4_backward_85 (by decide) ?_
            exact ih7 (i + 1) (bS od (bwd od fr i) 64) _ _ _ (by omega) (by omega) (hP.sub [0, 3, 1, 2] rfl) (hD.sub [0, 3, 1, 2] (by decide) rfl) hS (lv_sub hl [0, 2, 3, 4] rfl)
          refine lv_aload_n hx hb dX4_backward_30 rfl (lv_at hl 2 rfl) ?_
          refine va_get (D := D) (ci := 4) (v := .ref nxq) (C := RX4) (T := TX4) (N := 12) hx hb hts hiX4 hown hKB.1 hP 1 rfl rfl 11 (by decide) fl44 (fun _ h9 => h9) rfl dX4_backward_31 ?_
          refine lv_iload hx hb dX4_backward_34 (lv_at hl 0 rfl) ?_
          refine lv_bipush (v := nI (8)) hx hb dX4_backward_36 (by decide) ?_
          refine r_idiv (a := ii) (b := 8) hx hb dX4_backward_38 (by omega) (by omega) (by omega) ?_
          refine lv_dup2_11 hx hb dX4_backward_39 rfl rfl ?_
          refine r_lald (i := ii / 8) (v := lN ((bS od (bwd od fr i) ii) (ii / 8))) hx hb hKB.1 hP 3 1 rfl rfl (by omega) (by decide) (rfl) dX4_backward_40 ?_
          refine lv_aload_n hx hb dX4_backward_41 rfl (lv_at hl 2 rfl) ?_
          refine va_get (D := D) (ci := 4) (v := .ref odq) (C := RX4) (T := TX4) (N := 12) hx hb hts hiX4 hown hKB.1 hP 1 rfl rfl 8 (by decide) fl34 (fun _ h9 => h9) rfl dX4_backward_42 ?_
          refine lv_iload hx hb dX4_backward_45 (lv_at hl 0 rfl) ?_
          refine r_lald (i := ii) (v := lN (od ii)) hx hb hKB.1 hP 0 1 rfl rfl (by omega) (by decide) (rfl) dX4_backward_47 ?_
          refine lv_aload_n hx hb dX4_backward_48 rfl (lv_at hl 2 rfl) ?_
          refine va_get (D := D) (ci := 4) (v := .ref nwq) (C := RX4) (T := TX4) (N := 12) hx hb hts hiX4 hown hKB.1 hP 1 rfl rfl 10 (by decide) fl41 (fun _ h9 => h9) rfl dX4_backward_49 ?_
          refine lv_iload hx hb dX4_backward_52 (lv_at hl 0 rfl) ?_
          refine lv_bipush (v := nI (8)) hx hb dX4_backward_54 (by decide) ?_
          refine r_irem (a := ii) (b := 8) hx hb dX4_backward_56 (by omega) (by omega) (by omega) ?_
          refine r_lald (i := ii % 8) (v := lN ((bwd od fr i) (ii % 8))) hx hb hKB.1 hP 2 1 rfl rfl (by omega) (by decide) (rfl) dX4_backward_57 ?_
          refine r_lmul (a := od ii) (b := (bwd od fr i) (ii % 8)) hx hb dX4_backward_58  ?_
          refine r_ladd (a := (bS od (bwd od fr i) ii) (ii / 8)) (b := (od ii) * ((bwd od fr i) (ii % 8))) hx hb dX4_backward_59  ?_
          refine r_lastN (i := ii / 8) hx hb hKB.1 hP hD hS 3 1 rfl rfl (by omega) (by decide) dX4_backward_60 (fun H locs hP hD hS => ?_)
          have hP : va_P D vwCl [(odq, .inl (cJ, 64, .inr (.inl (lF od)))), (pq, .inr (4, [.ref lq, .ref oq, .ref wq, .int (nI h), .ref bq, .ref teq, .ref loq, .ref rq, .ref odq, .int (nI kn), .ref nwq, .ref nxq])), (nwq, .inl (cJ, 8, .inr (.inl (lF (bwd od fr i))))), (nxq, .inl (cJ, 8, .inr (.inl (lF (nu (bS od (bwd od fr i) ii) (ii / 8) (((bS od (bwd od fr i) ii) (ii / 8)) + ((od ii) * ((bwd od fr i) (ii % 8)))))))))] _ := hP
          have hD : va_D A [(odq, .inl (cJ, 64, .inr (.inl (lF od)))), (pq, .inr (4, [.ref lq, .ref oq, .ref wq, .int (nI h), .ref bq, .ref teq, .ref loq, .ref rq, .ref odq, .int (nI kn), .ref nwq, .ref nxq])), (nwq, .inl (cJ, 8, .inr (.inl (lF (bwd od fr i))))), (nxq, .inl (cJ, 8, .inr (.inl (lF (nu (bS od (bwd od fr i) ii) (ii / 8) (((bS od (bwd od fr i) ii) (ii / 8)) + ((od ii) * ((bwd od fr i) (ii % 8)))))))))] := hD
          refine lv_iinc (v := nI (ii + 1)) (lv' := [(4, .int (nI (ii + 1))), (3, .int (nI i)), (0, .ref pq), (1, .int (nI fr)), (2, .int (nI k))]) hx hb dX4_backward_61 hl (k := 0) rfl (n_inc _ 1) (by decide) rfl (fun ls hl => ?_)
          refine lv_goto (tgt := 23) hx hb dX4_backward_64 (by decide) ?_
          exact ih23 (ii + 1) _ _ _ (by omega) (by omega) hP hD hS hl
      exact L23 (64 - 0 + 1) 0 _ _ _ (Nat.lt_succ_self _) (by omega) hP hD hS hl
  exact L7 (k - 0 + 1) 0 x0 _ _ _ (Nat.lt_succ_self _) (by omega) hP hD hS hl

set_option maxHeartbeats 4000000 in
set_option maxRecDepth 100000 in
theorem m_X4_nextOnes (l : Launch) (D : va_G) (cI cJ : ClassId) (pq : Nat) (lq : Nat) (oq : Nat) (wq : Nat) (h : Nat) (bq : Nat) (teq : Nat) (loq : Nat) (rq : Nat) (odq : Nat) (kn : Nat) (nwq : Nat) (nxq : Nat) (od : Nat → Nat) (fr : Nat) (hfr : fr < 8) (hob : ∀ i, i < 64 → od i < 2 ^ 63) : Met l yX4_nextOnes wsX4_nextOnes ({ frames := 0, cells := 0, slots := 0, locals := 0 }) (PR D cI cJ [(pq, .inr (4, [.ref lq, .ref oq, .ref wq, .int (nI h), .ref bq, .ref teq, .ref loq, .ref rq, .ref odq, .int (nI kn), .ref nwq, .ref nxq])), (odq, .inl (cJ, 64, .inr (.inl (lF od))))] [.ref pq, .int (nI fr)]) (QRi (fun r => r = nI (nxO od fr 8))) 0 0 NA := by
  refine met_R (cc := cX4_nextOnes) (maxL := 4) (ret := (some .int)) (by decide) rfl (Nat.le_of_ble_eq_true rfl) ?_
  intro p e s m args below meth c Q ls hQ hAt hKB hP hl
  obtain ⟨hx, hb, hr, hml, hlk, hts, hown, hnm⟩ := hAt
  have hown : s.vm.findClass RX4 = some m.cls := hown
  have hS : va_S NA s.heap s.heap [] := va_S.rf
  have hl : lv_has ls 4 [(0, .ref pq), (1, .int (nI fr))] := hl
  have hiX4 : ∀ w ∈ u_ws RX4 TX4 12, w ∈ wsX4_nextOnes := by decide +kernel
  have fl34 := hts (.fieldLink RX4 34 "TaughtTongues$Steps" "odds" "[J") (by decide +kernel)
  refine lv_iconst (v := nI (0)) hx hb dX4_nextOnes_0 (by decide) ?_
  refine lv_istore_n (lv' := [(2, .int (nI 0)), (0, .ref pq), (1, .int (nI fr))]) hx hb dX4_nextOnes_1 rfl hl (by decide) rfl (fun ls hl => ?_)
  refine lv_iconst (v := nI (0)) hx hb dX4_nextOnes_2 (by decide) ?_
  refine lv_istore_n (lv' := [(3, .int (nI 0)), (2, .int (nI 0)), (0, .ref pq), (1, .int (nI fr))]) hx hb dX4_nextOnes_3 rfl hl (by decide) rfl (fun ls hl => ?_)
  have L4 : ∀ (n : Nat) (k : Nat) (H : Heap) (locs : List Loc) (ls : Array Slot), 8 - k < n → (k ≤ 8) → va_P D vwCl [(pq, .inr (4, [.ref lq, .ref oq, .ref wq, .int (nI h), .ref bq, .ref teq, .ref loq, .ref rq, .ref odq, .int (nI kn), .ref nwq, .ref nxq])), (odq, .inl (cJ, 64, .inr (.inl (lF od))))] H → va_S NA s.heap H locs → lv_has ls 4 [(3, .int (nI k)), (2, .int (nI (nxO od fr k))), (0, .ref pq), (1, .int (nI fr))] → W p l e ({ frames := 0, cells := 0, slots := 0, locals := 0 }) s m args below meth c H locs 0 0 Q (F0 m 4 ls []) := by
    intro n
    induction n with
    | zero => intro k H locs ls hm; exact absurd hm (Nat.not_lt_zero _)
    | succ n ih4 =>
      intro k H locs ls hm hk hP hS hl
      refine lv_iload_n hx hb dX4_nextOnes_4 rfl (lv_at hl 0 rfl) ?_
      refine lv_bipush (v := nI (8)) hx hb dX4_nextOnes_5 (by decide) ?_
      refine r_icmp_ge (a := k) (b := 8) (tgt := 38) hx hb dX4_nextOnes_7 (by decide) (by omega) (by omega)  (fun c7 => ?_) (fun c7 => ?_)
      · skip
        obtain rfl : 8 = k := by omega
        refine lv_iload_n hx hb dX4_nextOnes_38 rfl (lv_at hl 1 rfl) ?_
        exact r_iret hx hb hr hlk hQ hS (rfl) dX4_nextOnes_39
      refine lv_aload_n hx hb dX4_nextOnes_10 rfl (lv_at hl 2 rfl) ?_
      refine va_get (D := D) (ci := 4) (v := .ref odq) (C := RX4) (T := TX4) (N := 12) hx hb hts hiX4 hown hKB.1 hP 0 rfl rfl 8 (by decide) fl34 (fun _ h9 => h9) rfl dX4_nextOnes_11 ?_
      refine lv_iload_n hx hb dX4_nextOnes_14 rfl (lv_at hl 3 rfl) ?_
      refine lv_bipush (v := nI (8)) hx hb dX4_nextOnes_15 (by decide) ?_
      refine r_imul (a := fr) (b := 8) hx hb dX4_nextOnes_17  ?_
      refine lv_iload_n hx hb dX4_nextOnes_18 rfl (lv_at hl 0 rfl) ?_
      refine r_iadd (a := fr * 8) (b := k) hx hb dX4_nextOnes_19  ?_
      refine r_lald (i := (fr * 8) + k) (v := lN (od ((fr * 8) + k))) hx hb hKB.1 hP 1 1 rfl rfl (by omega) (by decide) (rfl) dX4_nextOnes_20 ?_
      refine lv_lconst (v := lN (0)) hx hb dX4_nextOnes_21 (by decide) ?_
      refine r_lcmp_le (x := lN (od ((fr * 8) + k))) (y := lN (0)) (tgt := 32) hx hb dX4_nextOnes_22 dX4_nextOnes_23 (by decide) (fun c22 => ?_) (fun c22 => ?_)
      · skip
        have hw1 : nI (nxO od fr k) = nI (nxO od fr (k + 1)) := congrArg nI (by first | exact nxO_n (lN_le0 (hob _ (by omega)) c22) | exact nxO_y (lN_gt0 (hob _ (by omega)) (Int64.not_le.mp c22)))
        rw [hw1] at hl
        refine lv_iinc (v := nI (k + 1)) (lv' := [(3, .int (nI (k + 1))), (2, .int (nI (nxO od fr (k + 1)))), (0, .ref pq), (1, .int (nI fr))]) hx hb dX4_nextOnes_32 hl (k := 0) rfl (n_inc _ 1) (by decide) rfl (fun ls hl => ?_)
        refine lv_goto (tgt := 4) hx hb dX4_nextOnes_35 (by decide) ?_
        exact ih4 (k + 1) _ _ _ (by omega) (by omega) hP hS hl
      refine lv_iload_n hx hb dX4_nextOnes_26 rfl (lv_at hl 1 rfl) ?_
      refine lv_iconst (v := nI (1)) hx hb dX4_nextOnes_27 (by decide) ?_
      refine lv_iload_n hx hb dX4_nextOnes_28 rfl (lv_at hl 0 rfl) ?_
      refine r_ishl (a := 1) (b := k) hx hb dX4_nextOnes_29 (by omega) (sh1 k c7) ?_
      refine r_ior (a := nxO od fr k) (b := 1 <<< k) hx hb dX4_nextOnes_30  ?_
      refine lv_istore_n (lv' := [(2, .int (nI ((nxO od fr k) ||| (1 <<< k)))), (3, .int (nI k)), (0, .ref pq), (1, .int (nI fr))]) hx hb dX4_nextOnes_31 rfl hl (by decide) rfl (fun ls hl => ?_)
      have hw2 : nI ((nxO od fr k) ||| (1 <<< k)) = nI (nxO od fr (k + 1)) := congrArg nI (by first | exact nxO_n (lN_le0 (hob _ (by omega)) c22) | exact nxO_y (lN_gt0 (hob _ (by omega)) (Int64.not_le.mp c22)))
      rw [hw2] at hl
      refine lv_iinc (v := nI (k + 1)) (lv' := [(3, .int (nI (k + 1))), (2, .int (nI (nxO od fr (k + 1)))), (0, .ref pq), (1, .int (nI fr))]) hx hb dX4_nextOnes_32 hl (k := 1) rfl (n_inc _ 1) (by decide) rfl (fun ls hl => ?_)
      refine lv_goto (tgt := 4) hx hb dX4_nextOnes_35 (by decide) ?_
      exact ih4 (k + 1) _ _ _ (by omega) (by omega) hP hS hl
  exact L4 (8 - 0 + 1) 0 _ _ _ (Nat.lt_succ_self _) (by omega) hP hS hl

set_option maxHeartbeats 4000000 in
set_option maxRecDepth 100000 in
theorem m_X4_keptOnes (l : Launch) (D : va_G) (cI cJ : ClassId) (pq : Nat) (lq : Nat) (oq : Nat) (wq : Nat) (h : Nat) (bq : Nat) (teq : Nat) (loq : Nat) (rq : Nat) (odq : Nat) (kn : Nat) (nwq : Nat) (nxq : Nat) (od : Nat → Nat) (w : Nat → Nat) (hob : ∀ i, i < 64 → od i < 2 ^ 63) (hw : ∀ j, j < 3 → w j ≤ 4) (hh : h ≤ 4) (hwb : wh w h 1 < 2 ^ 63) : Met l yX4_keptOnes wsX4_keptOnes ({ frames := 2, cells := 0, slots := 0, locals := 46 }) (PR D cI cJ [(pq, .inr (4, [.ref lq, .ref oq, .ref wq, .int (nI h), .ref bq, .ref teq, .ref loq, .ref rq, .ref odq, .int (nI kn), .ref nwq, .ref nxq])), (odq, .inl (cJ, 64, .inr (.inl (lF od)))), (wq, .inl (cI, 3, .inl (nF w)))] [.ref pq]) (QRi (fun r => r = nI (kpO od (wh w h 1) 8))) 0 0 NA := by
  refine met_R (cc := cX4_keptOnes) (maxL := 3) (ret := (some .int)) (by decide) rfl (Nat.le_of_ble_eq_true rfl) ?_
  intro p e s m args below meth c Q ls hQ hAt hKB hP hl
  obtain ⟨hx, hb, hr, hml, hlk, hts, hown, hnm⟩ := hAt
  have hown : s.vm.findClass RX4 = some m.cls := hown
  have hS : va_S NA s.heap s.heap [] := va_S.rf
  have hl : lv_has ls 3 [(0, .ref pq)] := hl
  have hiX4 : ∀ w ∈ u_ws RX4 TX4 12, w ∈ wsX4_keptOnes := by decide +kernel
  have fl34 := hts (.fieldLink RX4 34 "TaughtTongues$Steps" "odds" "[J") (by decide +kernel)
  refine lv_iconst (v := nI (0)) hx hb dX4_keptOnes_0 (by decide) ?_
  refine lv_istore_n (lv' := [(1, .int (nI 0)), (0, .ref pq)]) hx hb dX4_keptOnes_1 rfl hl (by decide) rfl (fun ls hl => ?_)
  refine lv_iconst (v := nI (0)) hx hb dX4_keptOnes_2 (by decide) ?_
  refine lv_istore_n (lv' := [(2, .int (nI 0)), (1, .int (nI 0)), (0, .ref pq)]) hx hb dX4_keptOnes_3 rfl hl (by decide) rfl (fun ls hl => ?_)
  have L4 : ∀ (n : Nat) (k : Nat) (H : Heap) (locs : List Loc) (ls : Array Slot), 8 - k < n → (k ≤ 8) → va_P D vwCl [(pq, .inr (4, [.ref lq, .ref oq, .ref wq, .int (nI h), .ref bq, .ref teq, .ref loq, .ref rq, .ref odq, .int (nI kn), .ref nwq, .ref nxq])), (odq, .inl (cJ, 64, .inr (.inl (lF od)))), (wq, .inl (cI, 3, .inl (nF w)))] H → va_S NA s.heap H locs → lv_has ls 3 [(2, .int (nI k)), (1, .int (nI (kpO od (wh w h 1) k))), (0, .ref pq)] → W p l e ({ frames := 2, cells := 0, slots := 0, locals := 46 }) s m args below meth c H locs 0 0 Q (F0 m 4 ls []) := by
    intro n
    induction n with
    | zero => intro k H locs ls hm; exact absurd hm (Nat.not_lt_zero _)
    | succ n ih4 =>
      intro k H locs ls hm hk hP hS hl
      refine lv_iload_n hx hb dX4_keptOnes_4 rfl (lv_at hl 0 rfl) ?_
      refine lv_bipush (v := nI (8)) hx hb dX4_keptOnes_5 (by decide) ?_
      refine r_icmp_ge (a := k) (b := 8) (tgt := 42) hx hb dX4_keptOnes_7 (by decide) (by omega) (by omega)  (fun c7 => ?_) (fun c7 => ?_)
      · skip
        obtain rfl : 8 = k := by omega
        refine lv_iload_n hx hb dX4_keptOnes_42 rfl (lv_at hl 1 rfl) ?_
        exact r_iret hx hb hr hlk hQ hS (rfl) dX4_keptOnes_43
      refine lv_aload_n hx hb dX4_keptOnes_10 rfl (lv_at hl 2 rfl) ?_
      refine va_get (D := D) (ci := 4) (v := .ref odq) (C := RX4) (T := TX4) (N := 12) hx hb hts hiX4 hown hKB.1 hP 0 rfl rfl 8 (by decide) fl34 (fun _ h9 => h9) rfl dX4_keptOnes_11 ?_
      refine lv_iload_n hx hb dX4_keptOnes_14 rfl (lv_at hl 0 rfl) ?_
      refine lv_bipush (v := nI (8)) hx hb dX4_keptOnes_15 (by decide) ?_
      refine r_imul (a := k) (b := 8) hx hb dX4_keptOnes_17  ?_
      refine lv_iload_n hx hb dX4_keptOnes_18 rfl (lv_at hl 0 rfl) ?_
      refine r_iadd (a := k * 8) (b := k) hx hb dX4_keptOnes_19  ?_
      refine r_lald (i := (k * 8) + k) (v := lN (od ((k * 8) + k))) hx hb hKB.1 hP 1 1 rfl rfl (by omega) (by decide) (rfl) dX4_keptOnes_20 ?_
      refine lv_aload_n hx hb dX4_keptOnes_21 rfl (lv_at hl 2 rfl) ?_
      refine lv_iconst (v := nI (1)) hx hb dX4_keptOnes_22 (by decide) ?_
      have hPc := hP.sub (ws' := [(pq, .inr (4, [.ref lq, .ref oq, .ref wq, .int (nI h), .ref bq, .ref teq, .ref loq, .ref rq, .ref odq, .int (nI kn), .ref nwq, .ref nxq])), (wq, .inl (cI, 3, .inl (nF w)))]) [0, 2] rfl
      refine r_calll hP hS (va_runV (As := [.int (nI 1)]) (rest := [.long (lN (od ((k * 8) + k)))]) ⟨hx, hb, hml, hown, hts⟩ (m_X4_whole l D cI cJ pq lq oq wq h bq teq loq rq odq kn nwq nxq w 1 (by assumption) (by omega) (by omega)) (cwV 1 hts gX4_keptOnes_X4_whole rfl rfl rfl (by decide +kernel) ⟨Nat.le_of_ble_eq_true rfl, Nat.le_of_ble_eq_true rfl⟩) ⟨PR.blind, va_recv hKB.1 hP (ci := 4) (q0 := 0) rfl rfl, fun U hU hW => ⟨rfl, hKB.warm hW, by rw [hU]; exact hPc⟩⟩ rfl rfl hl.1 rfl (lv_room (Nat.le_of_ble_eq_true rfl)) dX4_keptOnes_23 ⟨Nat.le_of_ble_eq_true rfl, Nat.le_of_ble_eq_true rfl⟩) (fun r1 H locs hw23 hP hS => ?_)
      have hw23 : r1 = lN (wh w h 1) := hw23
      subst hw23
      refine r_lcmp_ne (x := lN (od ((k * 8) + k))) (y := lN (wh w h 1)) (tgt := 36) hx hb dX4_keptOnes_26 dX4_keptOnes_27 (by decide) (fun c26 => ?_) (fun c26 => ?_)
      · skip
        have hw2 : nI (kpO od (wh w h 1) k) = nI (kpO od (wh w h 1) (k + 1)) := congrArg nI (by first | exact kpO_y ((pk_lEQ (hob _ (by omega)) hwb).mp c26) | exact kpO_n (fun q => c26 (by rw [q])))
        rw [hw2] at hl
        refine lv_iinc (v := nI (k + 1)) (lv' := [(2, .int (nI (k + 1))), (1, .int (nI (kpO od (wh w h 1) (k + 1)))), (0, .ref pq)]) hx hb dX4_keptOnes_36 hl (k := 0) rfl (n_inc _ 1) (by decide) rfl (fun ls hl => ?_)
        refine lv_goto (tgt := 4) hx hb dX4_keptOnes_39 (by decide) ?_
        exact ih4 (k + 1) _ _ _ (by omega) (by omega) hP hS hl
      refine lv_iload_n hx hb dX4_keptOnes_30 rfl (lv_at hl 1 rfl) ?_
      refine lv_iconst (v := nI (1)) hx hb dX4_keptOnes_31 (by decide) ?_
      refine lv_iload_n hx hb dX4_keptOnes_32 rfl (lv_at hl 0 rfl) ?_
      refine r_ishl (a := 1) (b := k) hx hb dX4_keptOnes_33 (by omega) (sh1 k c7) ?_
      refine r_ior (a := kpO od (wh w h 1) k) (b := 1 <<< k) hx hb dX4_keptOnes_34  ?_
      refine lv_istore_n (lv' := [(1, .int (nI ((kpO od (wh w h 1) k) ||| (1 <<< k)))), (2, .int (nI k)), (0, .ref pq)]) hx hb dX4_keptOnes_35 rfl hl (by decide) rfl (fun ls hl => ?_)
      have hw3 : nI ((kpO od (wh w h 1) k) ||| (1 <<< k)) = nI (kpO od (wh w h 1) (k + 1)) := congrArg nI (by first | exact kpO_y ((pk_lEQ (hob _ (by omega)) hwb).mp c26) | exact kpO_n (fun q => c26 (by rw [q])))
      rw [hw3] at hl
      refine lv_iinc (v := nI (k + 1)) (lv' := [(2, .int (nI (k + 1))), (1, .int (nI (kpO od (wh w h 1) (k + 1)))), (0, .ref pq)]) hx hb dX4_keptOnes_36 hl (k := 1) rfl (n_inc _ 1) (by decide) rfl (fun ls hl => ?_)
      refine lv_goto (tgt := 4) hx hb dX4_keptOnes_39 (by decide) ?_
      exact ih4 (k + 1) _ _ _ (by omega) (by omega) hP hS hl
  exact L4 (8 - 0 + 1) 0 _ _ _ (Nat.lt_succ_self _) (by omega) hP hS hl


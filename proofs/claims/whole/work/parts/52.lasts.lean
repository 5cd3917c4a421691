set_option maxHeartbeats 1000000 in
set_option maxRecDepth 100000 in
theorem m_X6_lasts (l : Launch) (D : va_G) (cI cJ : ClassId) (sz : Nat) (mq : Nat) (mw : Nat) (slip : Nat) (h : Nat) (kd : Nat) (ms : Nat) (cnt : Nat) (ml : Nat) (nl : Nat) (mh : Nat) (hn : Nat) (mr : Nat) (rm : Nat) (mst : Nat) (lo : Nat) (mn : Nat) (mth : Nat) (lon : Nat) (mld : Nat) (mpk : Nat) (mcm : Nat) (w : Nat → Nat) (lg : Nat → Nat) (num : Nat → Nat) (rw1 : Nat → Nat) (st0 : Nat → Nat) (ld0 : Nat → Nat) (p0 : Int32) (hh : 1 ≤ h ∧ h ≤ 4) (hw : ∀ j, j < 3 → w j ≤ 4) (hnl7 : nl ≤ 7) (hlg : okL lg nl) (hbf : ∀ t, t < 8 → bfM lg t nl 0 = num t) (hsl : slip ≤ 12) (hnum : ∀ j, j < 8 → num j < 10) (hr6 : ∀ j, j < 6 → rw1 j < 6) (hkd : kd < 3) : Met l yX6_lasts wsX6_lasts ({ frames := 5, cells := 0, slots := 0, locals := 127 }) (PX D cI cJ [(mq, .inr (6, [.ref mw, .int (nI slip), .int (nI h), .int (nI kd), .ref ms, .int (nI cnt), .ref ml, .int (nI nl), .ref mh, .int (nI hn), .ref mr, .int (nI rm), .ref mst, .long (lN lo), .ref mn, .ref mth, .long (lN lon), .ref mld, .ref mpk, .ref mcm])), (mw, .inl (cI, 3, .inl (nF w))), (ml, .inl (cI, 28, .inl (nF lg))), (mr, .inl (cI, 6, .inl (nF rw1))), (mst, .inl (cJ, 64, .inr (.inl (lF st0)))), (mld, .inl (cI, 8, .inl (nF ld0)))] sz [.ref mq, .int p0]) (QWi D (S := (Nat → Nat) × Nat × Nat × (Nat → Nat) × (Nat → Nat)) [(mq, .inr (6, [.ref mw, .int (nI slip), .int (nI h), .int (nI kd), .ref ms, .int (nI cnt), .ref ml, .int (nI nl), .ref mh, .int (nI hn), .ref mr, .int (nI rm), .ref mst, .long (lN lo), .ref mn, .ref mth, .long (lN lon), .ref mld, .ref mpk, .ref mcm])), (mw, .inl (cI, 3, .inl (nF w))), (ml, .inl (cI, 28, .inl (nF lg))), (mr, .inl (cI, 6, .inl (nF rw1))), (mst, .inl (cJ, 64, .inr (.inl (lF st0)))), (mld, .inl (cI, 8, .inl (nF ld0)))] sz (fun r u => r = aLa (stp w slip kd num h) (wh w h 1) p0 ∧ (∀ j, j < 6 → u.1 j < 6)) (fun u => [(mq, .inr (6, [.ref mw, .int (nI slip), .int (nI h), .int (nI kd), .ref ms, .int (nI cnt), .ref ml, .int (nI nl), .ref mh, .int (nI hn), .ref mr, .int (nI (u.2.1)), .ref mst, .long (lN (u.2.2.1)), .ref mn, .ref mth, .long (lN lon), .ref mld, .ref mpk, .ref mcm])), (mw, .inl (cI, 3, .inl (nF w))), (ml, .inl (cI, 28, .inl (nF lg))), (mr, .inl (cI, 6, .inl (nF u.1))), (mst, .inl (cJ, 64, .inr (.inl (lF u.2.2.2.1)))), (mld, .inl (cI, 8, .inl (nF u.2.2.2.2)))])) 0 0 (va_A [(mq, .inr (6, [.ref mw, .int (nI slip), .int (nI h), .int (nI kd), .ref ms, .int (nI cnt), .ref ml, .int (nI nl), .ref mh, .int (nI hn), .ref mr, .int (nI rm), .ref mst, .long (lN lo), .ref mn, .ref mth, .long (lN lon), .ref mld, .ref mpk, .ref mcm])), (mw, .inl (cI, 3, .inl (nF w))), (ml, .inl (cI, 28, .inl (nF lg))), (mr, .inl (cI, 6, .inl (nF rw1))), (mst, .inl (cJ, 64, .inr (.inl (lF st0)))), (mld, .inl (cI, 8, .inl (nF ld0)))] sz) := by
  refine met_X (cc := cX6_lasts) (maxL := 7) (ret := (some .int)) (by decide) rfl (Nat.le_of_ble_eq_true rfl) ?_
  intro p e s m args below meth c Q ls A hQ hAe hAt hKB hP hD hA hl
  obtain ⟨hx, hb, hr, hml, hlk, hts, hown, hnm⟩ := hAt
  have hown : s.vm.findClass RX6 = some m.cls := hown
  have hS : va_S A s.heap s.heap [] := va_S.rf
  have hl : lv_has ls 7 [(0, .ref mq), (1, .int p0)] := hl
  have kl51 := hts (.constantLong RX6 51 (lN (2))) (by decide +kernel)
  have hiX6 : ∀ w ∈ u_ws RX6 TX6 20, w ∈ wsX6_lasts := by decide +kernel
  have fl25 := hts (.fieldLink RX6 25 "TaughtTonguesModel" "steps" "[J") (by decide +kernel)
  have fl143 := hts (.fieldLink RX6 143 "TaughtTonguesModel" "lower" "J") (by decide +kernel)
  have fl35 := hts (.fieldLink RX6 35 "TaughtTonguesModel" "led" "[I") (by decide +kernel)
  have hob : ∀ i, i < 64 → stp w slip kd num h i < 2 ^ 63 := fun i _ => Nat.lt_of_le_of_lt (stp_le hh.2 hsl) (Nat.lt_of_le_of_lt (wh_lt hw (by rw [Nat.mul_one]; exact Nat.le_trans hh.2 (by decide))) (by decide))
  have hwb : lowN w h < 2 ^ 63 := by rw [lowN_wh]; exact Nat.lt_of_le_of_lt (wh_lt hw (by rw [Nat.mul_one]; exact Nat.le_trans hh.2 (by decide))) (by decide)
  have hre : ∀ j, j < 8 → rO (r0 (stp w slip kd num h)) 8 j < 256 := rO_lt r0_lt 8 (Nat.le_refl 8)
  refine lv_iload_n hx hb dX6_lasts_0 rfl (lv_at hl 1 rfl) ?_
  refine lv_i2l (v := p0.toInt64) hx hb dX6_lasts_1 rfl ?_
  refine lv_lconst (v := lN (0)) hx hb dX6_lasts_2 (by decide) ?_
  refine lv_ldc2 hx hb hown kl51 dX6_lasts_3 ?_
  have hPc := hP.sub (ws' := []) [] rfl
  refine r_calli hP hS (va_runS (As := [.long (p0.toInt64), .long (lN 0), .long (lN 2)]) (rest := []) ⟨hx, hb, hml, hown, hts⟩ (m_X6_in l D cI cJ (p0.toInt64) (lN (0)) (lN (2))) (va_cwS 3 hts gX6_lasts_X6_in rfl rfl rfl (by decide +kernel) ⟨Nat.le_of_ble_eq_true rfl, Nat.le_of_ble_eq_true rfl⟩) ⟨PR.blind, fun U hU hW => ⟨rfl, hKB.warm hW, by rw [hU]; exact hPc⟩⟩ rfl rfl hl.1 rfl (lv_room (Nat.le_of_ble_eq_true rfl)) dX6_lasts_6 ⟨Nat.le_of_ble_eq_true rfl, Nat.le_of_ble_eq_true rfl⟩) (fun r1 H locs hw6 hP hS => ?_)
  have hw6 : r1 = bI (inL (p0.toInt64) (lN (0)) (lN (2))) := hw6
  subst hw6
  refine lv_topi (fun z2 ez2 => ?_)
  obtain rfl : z2 = bI (inR p0 0 2) := ez2.trans (congrArg bI (inL_R (by decide) (by decide)))
  refine r_bif_ne (b := inR p0 0 2) (tgt := 15) hx hb dX6_lasts_9 (by decide) (fun c9 => ?_) (fun c9 => ?_)
  · skip
    obtain ⟨V0, -, hV0, rfl⟩ := inR_t (by decide) (by decide) (c9)
    refine lv_aload_n hx hb dX6_lasts_15 rfl (lv_at hl 0 rfl) ?_
    have hPc := hP.sub (ws' := [(mq, .inr (6, [.ref mw, .int (nI slip), .int (nI h), .int (nI kd), .ref ms, .int (nI cnt), .ref ml, .int (nI nl), .ref mh, .int (nI hn), .ref mr, .int (nI rm), .ref mst, .long (lN lo), .ref mn, .ref mth, .long (lN lon), .ref mld, .ref mpk, .ref mcm])), (mw, .inl (cI, 3, .inl (nF w))), (ml, .inl (cI, 28, .inl (nF lg))), (mr, .inl (cI, 6, .inl (nF rw1))), (mst, .inl (cJ, 64, .inr (.inl (lF st0)))), (mld, .inl (cI, 8, .inl (nF ld0)))]) [0, 1, 2, 3, 4, 5] rfl
    have hDc := hD.sub (ws' := [(mq, .inr (6, [.ref mw, .int (nI slip), .int (nI h), .int (nI kd), .ref ms, .int (nI cnt), .ref ml, .int (nI nl), .ref mh, .int (nI hn), .ref mr, .int (nI rm), .ref mst, .long (lN lo), .ref mn, .ref mth, .long (lN lon), .ref mld, .ref mpk, .ref mcm])), (mw, .inl (cI, 3, .inl (nF w))), (ml, .inl (cI, 28, .inl (nF lg))), (mr, .inl (cI, 6, .inl (nF rw1))), (mst, .inl (cJ, 64, .inr (.inl (lF st0)))), (mld, .inl (cI, 8, .inl (nF ld0)))]) [0, 1, 2, 3, 4, 5] (by decide) rfl
    have hFc := va_free (wc := [(mq, .inr (6, [.ref mw, .int (nI slip), .int (nI h), .int (nI kd), .ref ms, .int (nI cnt), .ref ml, .int (nI nl), .ref mh, .int (nI hn), .ref mr, .int (nI rm), .ref mst, .long (lN lo), .ref mn, .ref mth, .long (lN lon), .ref mld, .ref mpk, .ref mcm])), (mw, .inl (cI, 3, .inl (nF w))), (ml, .inl (cI, 28, .inl (nF lg))), (mr, .inl (cI, 6, .inl (nF rw1))), (mst, .inl (cJ, 64, .inr (.inl (lF st0)))), (mld, .inl (cI, 8, .inl (nF ld0)))]) hD hS hA [0, 1, 2, 3, 4, 5] rfl
    refine w_callv (wc := [(mq, .inr (6, [.ref mw, .int (nI slip), .int (nI h), .int (nI kd), .ref ms, .int (nI cnt), .ref ml, .int (nI nl), .ref mh, .int (nI hn), .ref mr, .int (nI rm), .ref mst, .long (lN lo), .ref mn, .ref mth, .long (lN lon), .ref mld, .ref mpk, .ref mcm])), (mw, .inl (cI, 3, .inl (nF w))), (ml, .inl (cI, 28, .inl (nF lg))), (mr, .inl (cI, 6, .inl (nF rw1))), (mst, .inl (cJ, 64, .inr (.inl (lF st0)))), (mld, .inl (cI, 8, .inl (nF ld0)))]) (wr := []) hP hD hS [0, 1, 2, 3, 4, 5] [] rfl rfl (by decide) (by decide) hFc (va_runV (As := []) (rest := []) ⟨hx, hb, hml, hown, hts⟩ (m_X6_findLeads l D cI cJ _ mq mw slip h kd ms cnt ml nl mh hn mr rm mst lo mn mth lon mld mpk mcm w lg num rw1 st0 ld0 (by assumption) (by assumption) (by assumption) (by assumption) (by assumption) (by assumption) (by assumption) (by assumption) (by assumption)) (cwV 0 hts gX6_lasts_X6_findLeads rfl rfl rfl (by decide +kernel) ⟨Nat.le_of_ble_eq_true rfl, Nat.le_of_ble_eq_true rfl⟩) ⟨PX.blind, va_recv hKB.1 hP (ci := 6) (q0 := 0) rfl rfl, fun U hU hW => ⟨rfl, by rw [hU], hKB.warm hW, by rw [hU]; exact hPc, hDc.weaken (fun _ _ _ _ => trivial)⟩⟩ rfl rfl hl.1 rfl (lv_room (Nat.le_of_ble_eq_true rfl)) dX6_lasts_16 ⟨Nat.le_of_ble_eq_true rfl, Nat.le_of_ble_eq_true rfl⟩) (fun u16 H locs hw16 hP hD hS => ?_)
    have hP : va_P D vwCl [(mq, .inr (6, [.ref mw, .int (nI slip), .int (nI h), .int (nI kd), .ref ms, .int (nI cnt), .ref ml, .int (nI nl), .ref mh, .int (nI hn), .ref mr, .int (nI h), .ref mst, .long (lN (lowN w h)), .ref mn, .ref mth, .long (lN lon), .ref mld, .ref mpk, .ref mcm])), (mw, .inl (cI, 3, .inl (nF w))), (ml, .inl (cI, 28, .inl (nF lg))), (mr, .inl (cI, 6, .inl (nF u16))), (mst, .inl (cJ, 64, .inr (.inl (lF (stp w slip kd num h))))), (mld, .inl (cI, 8, .inl (nF (rO (r0 (stp w slip kd num h)) 8))))] _ := hP
    have hD : va_D A [(mq, .inr (6, [.ref mw, .int (nI slip), .int (nI h), .int (nI kd), .ref ms, .int (nI cnt), .ref ml, .int (nI nl), .ref mh, .int (nI hn), .ref mr, .int (nI h), .ref mst, .long (lN (lowN w h)), .ref mn, .ref mth, .long (lN lon), .ref mld, .ref mpk, .ref mcm])), (mw, .inl (cI, 3, .inl (nF w))), (ml, .inl (cI, 28, .inl (nF lg))), (mr, .inl (cI, 6, .inl (nF u16))), (mst, .inl (cJ, 64, .inr (.inl (lF (stp w slip kd num h))))), (mld, .inl (cI, 8, .inl (nF (rO (r0 (stp w slip kd num h)) 8))))] := hD
    have hw16 : (∀ j, j < 6 → u16 j < 6) := hw16
    have hE16 := hw16
    have hP : va_P D vwCl [(mq, .inr (6, [.ref mw, .int (nI slip), .int (nI h), .int (nI kd), .ref ms, .int (nI cnt), .ref ml, .int (nI nl), .ref mh, .int (nI hn), .ref mr, .int (nI h), .ref mst, .long (lN (lowN w h)), .ref mn, .ref mth, .long (lN lon), .ref mld, .ref mpk, .ref mcm])), (mw, .inl (cI, 3, .inl (nF w))), (ml, .inl (cI, 28, .inl (nF lg))), (mr, .inl (cI, 6, .inl (nF u16))), (mst, .inl (cJ, 64, .inr (.inl (lF (stp w slip kd num h))))), (mld, .inl (cI, 8, .inl (nF (rO (r0 (stp w slip kd num h)) 8))))] _ := hP
    have hD : va_D A [(mq, .inr (6, [.ref mw, .int (nI slip), .int (nI h), .int (nI kd), .ref ms, .int (nI cnt), .ref ml, .int (nI nl), .ref mh, .int (nI hn), .ref mr, .int (nI h), .ref mst, .long (lN (lowN w h)), .ref mn, .ref mth, .long (lN lon), .ref mld, .ref mpk, .ref mcm])), (mw, .inl (cI, 3, .inl (nF w))), (ml, .inl (cI, 28, .inl (nF lg))), (mr, .inl (cI, 6, .inl (nF u16))), (mst, .inl (cJ, 64, .inr (.inl (lF (stp w slip kd num h))))), (mld, .inl (cI, 8, .inl (nF (rO (r0 (stp w slip kd num h)) 8))))] := hD
    have hr9 := hE16
    refine lv_iconst (v := nI (0)) hx hb dX6_lasts_19 (by decide) ?_
    refine lv_istore_n (lv' := [(2, .int (nI 0)), (0, .ref mq), (1, .int (nI V0))]) hx hb dX6_lasts_20 rfl hl (by decide) rfl (fun ls hl => ?_)
    refine lv_iconst (v := nI (0)) hx hb dX6_lasts_21 (by decide) ?_
    refine lv_istore_n (lv' := [(3, .int (nI 0)), (2, .int (nI 0)), (0, .ref mq), (1, .int (nI V0))]) hx hb dX6_lasts_22 rfl hl (by decide) rfl (fun ls hl => ?_)
    refine lv_iconst (v := nI (0)) hx hb dX6_lasts_23 (by decide) ?_
    refine lv_istore (lv' := [(4, .int (nI 0)), (3, .int (nI 0)), (2, .int (nI 0)), (0, .ref mq), (1, .int (nI V0))]) hx hb dX6_lasts_24 hl (by decide) rfl (fun ls hl => ?_)
    refine lv_iconst (v := nI (0)) hx hb dX6_lasts_26 (by decide) ?_
    refine lv_istore (lv' := [(5, .int (nI 0)), (4, .int (nI 0)), (3, .int (nI 0)), (2, .int (nI 0)), (0, .ref mq), (1, .int (nI V0))]) hx hb dX6_lasts_27 hl (by decide) rfl (fun ls hl => ?_)
    have L29 : ∀ (n : Nat) (t : Nat) (H : Heap) (locs : List Loc) (ls : Array Slot), 8 - t < n → (t ≤ 8) → va_P D vwCl [(mq, .inr (6, [.ref mw, .int (nI slip), .int (nI h), .int (nI kd), .ref ms, .int (nI cnt), .ref ml, .int (nI nl), .ref mh, .int (nI hn), .ref mr, .int (nI h), .ref mst, .long (lN (lowN w h)), .ref mn, .ref mth, .long (lN lon), .ref mld, .ref mpk, .ref mcm])), (mw, .inl (cI, 3, .inl (nF w))), (ml, .inl (cI, 28, .inl (nF lg))), (mr, .inl (cI, 6, .inl (nF u16))), (mst, .inl (cJ, 64, .inr (.inl (lF (stp w slip kd num h))))), (mld, .inl (cI, 8, .inl (nF (rO (r0 (stp w slip kd num h)) 8))))] H → va_D A [(mq, .inr (6, [.ref mw, .int (nI slip), .int (nI h), .int (nI kd), .ref ms, .int (nI cnt), .ref ml, .int (nI nl), .ref mh, .int (nI hn), .ref mr, .int (nI h), .ref mst, .long (lN (lowN w h)), .ref mn, .ref mth, .long (lN lon), .ref mld, .ref mpk, .ref mcm])), (mw, .inl (cI, 3, .inl (nF w))), (ml, .inl (cI, 28, .inl (nF lg))), (mr, .inl (cI, 6, .inl (nF u16))), (mst, .inl (cJ, 64, .inr (.inl (lF (stp w slip kd num h))))), (mld, .inl (cI, 8, .inl (nF (rO (r0 (stp w slip kd num h)) 8))))] → va_S A s.heap H locs → lv_has ls 7 [(5, .int (nI t)), (4, .int (nI (kpO (stp w slip kd num h) (wh w h 1) t))), (3, .int (nI (pcN (dlB (rO (r0 (stp w slip kd num h)) 8)) (rO (r0 (stp w slip kd num h)) 8) t))), (2, .int (nI (lbN (dlB (rO (r0 (stp w slip kd num h)) 8)) t))), (0, .ref mq), (1, .int (nI V0))] → W p l e ({ frames := 5, cells := 0, slots := 0, locals := 127 }) s m args below meth c H locs 0 0 Q (F0 m 29 ls []) := by
      intro n
      induction n with
      | zero => intro t H locs ls hm; exact absurd hm (Nat.not_lt_zero _)
      | succ n ih29 =>
        intro t H locs ls hm ht hP hD hS hl
        refine lv_iload hx hb dX6_lasts_29 (lv_at hl 0 rfl) ?_
        refine lv_bipush (v := nI (8)) hx hb dX6_lasts_31 (by decide) ?_
        refine r_icmp_ge (a := t) (b := 8) (tgt := 130) hx hb dX6_lasts_33 (by decide) (by omega) (by omega)  (fun c33 => ?_) (fun c33 => ?_)
        · skip
          obtain rfl : 8 = t := by omega
          refine lv_iload_n hx hb dX6_lasts_130 rfl (lv_at hl 5 rfl) ?_
          refine r_if_ne (a := V0) (tgt := 138) hx hb dX6_lasts_131 (by decide) (by omega) (fun c131 => ?_) (fun c131 => ?_)
          · skip
            refine lv_iload_n hx hb dX6_lasts_138 rfl (lv_at hl 5 rfl) ?_
            refine lv_iconst (v := nI (1)) hx hb dX6_lasts_139 (by decide) ?_
            refine r_icmp_ne (a := V0) (b := 1) (tgt := 147) hx hb dX6_lasts_140 (by decide) (by omega) (by omega)  (fun c140 => ?_) (fun c140 => ?_)
            · skip
              refine lv_iload hx hb dX6_lasts_147 (lv_at hl 1 rfl) ?_
              exact w_iret hx hb hr hlk hQ hAe (u16, h, lowN w h, stp w slip kd num h, rO (r0 (stp w slip kd num h)) 8) hP hD hS (by refine ⟨?_, hr9⟩; rw [aLa, if_pos c9, if_pos (by rw [show V0 = 2 by omega])]) dX6_lasts_149
            refine lv_iload_n hx hb dX6_lasts_143 rfl (lv_at hl 2 rfl) ?_
            refine lv_goto (tgt := 149) hx hb dX6_lasts_144 (by decide) ?_
            exact w_iret hx hb hr hlk hQ hAe (u16, h, lowN w h, stp w slip kd num h, rO (r0 (stp w slip kd num h)) 8) hP hD hS (by refine ⟨?_, hr9⟩; rw [aLa, if_pos c9, if_neg (nI_nn (by omega) (by decide) (by omega)), if_neg (nI_nn (by omega) (by decide) (by omega)), cP_pc 8 (Nat.le_refl 8)]) dX6_lasts_149
          refine lv_iload_n hx hb dX6_lasts_134 rfl (lv_at hl 3 rfl) ?_
          refine lv_goto (tgt := 149) hx hb dX6_lasts_135 (by decide) ?_
          exact w_iret hx hb hr hlk hQ hAe (u16, h, lowN w h, stp w slip kd num h, rO (r0 (stp w slip kd num h)) 8) hP hD hS (by refine ⟨?_, hr9⟩; rw [aLa, if_pos c9, if_neg (nI_nn (by omega) (by decide) (by omega)), if_pos (by rw [c131]), lsO_cl 8 (Nat.le_refl 8), cl_lb]) dX6_lasts_149
        refine lv_aload_n hx hb dX6_lasts_36 rfl (lv_at hl 4 rfl) ?_
        refine lv_iload hx hb dX6_lasts_37 (lv_at hl 0 rfl) ?_
        have hPc := hP.sub (ws' := [(mq, .inr (6, [.ref mw, .int (nI slip), .int (nI h), .int (nI kd), .ref ms, .int (nI cnt), .ref ml, .int (nI nl), .ref mh, .int (nI hn), .ref mr, .int (nI h), .ref mst, .long (lN (lowN w h)), .ref mn, .ref mth, .long (lN lon), .ref mld, .ref mpk, .ref mcm])), (mld, .inl (cI, 8, .inl (nF (rO (r0 (stp w slip kd num h)) 8))))]) [0, 5] rfl
        refine r_calli hP hS (va_runV (As := [.int (nI t)]) (rest := []) ⟨hx, hb, hml, hown, hts⟩ (m_X6_doesLast l D cI cJ mq mw slip h kd ms cnt ml nl mh hn mr h mst (lowN w h) mn mth lon mld mpk mcm (rO (r0 (stp w slip kd num h)) 8) t (by omega) (by assumption)) (cwV 1 hts gX6_lasts_X6_doesLast rfl rfl rfl (by decide +kernel) ⟨Nat.le_of_ble_eq_true rfl, Nat.le_of_ble_eq_true rfl⟩) ⟨PR.blind, va_recv hKB.1 hP (ci := 6) (q0 := 0) rfl rfl, fun U hU hW => ⟨rfl, hKB.warm hW, by rw [hU]; exact hPc⟩⟩ rfl rfl hl.1 rfl (lv_room (Nat.le_of_ble_eq_true rfl)) dX6_lasts_39 ⟨Nat.le_of_ble_eq_true rfl, Nat.le_of_ble_eq_true rfl⟩) (fun r4 H locs hw39 hP hS => ?_)
        have hw39 : r4 = bI (dlB (rO (r0 (stp w slip kd num h)) 8) t) := hw39
        subst hw39
        refine lv_istore (lv' := [(6, .int (bI (dlB (rO (r0 (stp w slip kd num h)) 8) t))), (5, .int (nI t)), (4, .int (nI (kpO (stp w slip kd num h) (wh w h 1) t))), (3, .int (nI (pcN (dlB (rO (r0 (stp w slip kd num h)) 8)) (rO (r0 (stp w slip kd num h)) 8) t))), (2, .int (nI (lbN (dlB (rO (r0 (stp w slip kd num h)) 8)) t))), (0, .ref mq), (1, .int (nI V0))]) hx hb dX6_lasts_42 hl (by decide) rfl (fun ls hl => ?_)
        refine lv_iload_n hx hb dX6_lasts_44 rfl (lv_at hl 4 rfl) ?_
        refine lv_iload hx hb dX6_lasts_45 (lv_at hl 0 rfl) ?_
        refine r_bif_eq (b := dlB (rO (r0 (stp w slip kd num h)) 8) t) (tgt := 57) hx hb dX6_lasts_47 (by decide) (fun c47 => ?_) (fun c47 => ?_)
        · skip
          refine lv_iconst (v := nI (0)) hx hb dX6_lasts_57 (by decide) ?_
          refine r_ior (a := lbN (dlB (rO (r0 (stp w slip kd num h)) 8)) t) (b := 0) hx hb dX6_lasts_58  ?_
          refine lv_istore_n (lv' := [(2, .int (nI ((lbN (dlB (rO (r0 (stp w slip kd num h)) 8)) t) ||| 0))), (6, .int (bI (dlB (rO (r0 (stp w slip kd num h)) 8) t))), (5, .int (nI t)), (4, .int (nI (kpO (stp w slip kd num h) (wh w h 1) t))), (3, .int (nI (pcN (dlB (rO (r0 (stp w slip kd num h)) 8)) (rO (r0 (stp w slip kd num h)) 8) t))), (0, .ref mq), (1, .int (nI V0))]) hx hb dX6_lasts_59 rfl hl (by decide) rfl (fun ls hl => ?_)
          have hl := lv_ch hl 0 (v2 := .int (nI (lbN (dlB (rO (r0 (stp w slip kd num h)) 8)) (t + 1)))) (l2 := [(2, .int (nI (lbN (dlB (rO (r0 (stp w slip kd num h)) 8)) (t + 1)))), (6, .int (bI (dlB (rO (r0 (stp w slip kd num h)) 8) t))), (5, .int (nI t)), (4, .int (nI (kpO (stp w slip kd num h) (wh w h 1) t))), (3, .int (nI (pcN (dlB (rO (r0 (stp w slip kd num h)) 8)) (rO (r0 (stp w slip kd num h)) 8) t))), (0, .ref mq), (1, .int (nI V0))]) rfl (congrArg Value.int (congrArg nI (by rw [lbN, c47]; rfl))) rfl
          refine lv_iload_n hx hb dX6_lasts_60 rfl (lv_at hl 4 rfl) ?_
          refine lv_iload hx hb dX6_lasts_61 (lv_at hl 1 rfl) ?_
          refine r_bif_eq (b := dlB (rO (r0 (stp w slip kd num h)) 8) t) (tgt := 87) hx hb dX6_lasts_63 (by decide) (fun c63 => ?_) (fun c63 => ?_)
          · skip
            refine lv_iconst (v := nI (0)) hx hb dX6_lasts_87 (by decide) ?_
            refine r_iadd (a := pcN (dlB (rO (r0 (stp w slip kd num h)) 8)) (rO (r0 (stp w slip kd num h)) 8) t) (b := 0) hx hb dX6_lasts_88  ?_
            refine lv_istore_n (lv' := [(3, .int (nI ((pcN (dlB (rO (r0 (stp w slip kd num h)) 8)) (rO (r0 (stp w slip kd num h)) 8) t) + 0))), (2, .int (nI (lbN (dlB (rO (r0 (stp w slip kd num h)) 8)) (t + 1)))), (6, .int (bI (dlB (rO (r0 (stp w slip kd num h)) 8) t))), (5, .int (nI t)), (4, .int (nI (kpO (stp w slip kd num h) (wh w h 1) t))), (0, .ref mq), (1, .int (nI V0))]) hx hb dX6_lasts_89 rfl hl (by decide) rfl (fun ls hl => ?_)
            have hl := lv_ch hl 0 (v2 := .int (nI (pcN (dlB (rO (r0 (stp w slip kd num h)) 8)) (rO (r0 (stp w slip kd num h)) 8) (t + 1)))) (l2 := [(3, .int (nI (pcN (dlB (rO (r0 (stp w slip kd num h)) 8)) (rO (r0 (stp w slip kd num h)) 8) (t + 1)))), (2, .int (nI (lbN (dlB (rO (r0 (stp w slip kd num h)) 8)) (t + 1)))), (6, .int (bI (dlB (rO (r0 (stp w slip kd num h)) 8) t))), (5, .int (nI t)), (4, .int (nI (kpO (stp w slip kd num h) (wh w h 1) t))), (0, .ref mq), (1, .int (nI V0))]) rfl (congrArg Value.int (congrArg nI (by first | (rw [pcN, c63, decide_eq_false c80]; rfl) | (rw [pcN, c63, decide_eq_true c80]; rfl) | (rw [pcN, c63]; rfl)))) rfl
            refine lv_iload hx hb dX6_lasts_90 (lv_at hl 4 rfl) ?_
            refine lv_aload_n hx hb dX6_lasts_92 rfl (lv_at hl 5 rfl) ?_
            refine va_get (D := D) (ci := 6) (v := .ref mst) (C := RX6) (T := TX6) (N := 20) hx hb hts hiX6 hown hKB.1 hP 0 rfl rfl 12 (by decide) fl25 (fun _ h9 => h9) rfl dX6_lasts_93 ?_
            refine lv_bipush (v := nI (8)) hx hb dX6_lasts_96 (by decide) ?_
            refine lv_iload hx hb dX6_lasts_98 (lv_at hl 3 rfl) ?_
            refine r_imul (a := 8) (b := t) hx hb dX6_lasts_100  ?_
            refine lv_iload hx hb dX6_lasts_101 (lv_at hl 3 rfl) ?_
            refine r_iadd (a := 8 * t) (b := t) hx hb dX6_lasts_103  ?_
            refine r_lald (i := (8 * t) + t) (v := lN ((stp w slip kd num h) ((8 * t) + t))) hx hb hKB.1 hP 4 1 rfl rfl (by omega) (by decide) (rfl) dX6_lasts_104 ?_
            refine lv_aload_n hx hb dX6_lasts_105 rfl (lv_at hl 5 rfl) ?_
            refine va_get (D := D) (ci := 6) (v := .long (lN (lowN w h))) (C := RX6) (T := TX6) (N := 20) hx hb hts hiX6 hown hKB.1 hP 0 rfl rfl 13 (by decide) fl143 (fun _ h9 => h9) rfl dX6_lasts_106 ?_
            refine r_lcmp_ne (x := lN ((stp w slip kd num h) ((8 * t) + t))) (y := lN (lowN w h)) (tgt := 120) hx hb dX6_lasts_109 dX6_lasts_110 (by decide) (fun c109 => ?_) (fun c109 => ?_)
            · skip
              refine lv_iconst (v := nI (0)) hx hb dX6_lasts_120 (by decide) ?_
              refine r_ior (a := kpO (stp w slip kd num h) (wh w h 1) t) (b := 0) hx hb dX6_lasts_121  ?_
              refine lv_istore (lv' := [(4, .int (nI ((kpO (stp w slip kd num h) (wh w h 1) t) ||| 0))), (3, .int (nI (pcN (dlB (rO (r0 (stp w slip kd num h)) 8)) (rO (r0 (stp w slip kd num h)) 8) (t + 1)))), (2, .int (nI (lbN (dlB (rO (r0 (stp w slip kd num h)) 8)) (t + 1)))), (6, .int (bI (dlB (rO (r0 (stp w slip kd num h)) 8) t))), (5, .int (nI t)), (0, .ref mq), (1, .int (nI V0))]) hx hb dX6_lasts_122 hl (by decide) rfl (fun ls hl => ?_)
              have hl := lv_ch hl 0 (v2 := .int (nI (kpO (stp w slip kd num h) (wh w h 1) (t + 1)))) (l2 := [(4, .int (nI (kpO (stp w slip kd num h) (wh w h 1) (t + 1)))), (3, .int (nI (pcN (dlB (rO (r0 (stp w slip kd num h)) 8)) (rO (r0 (stp w slip kd num h)) 8) (t + 1)))), (2, .int (nI (lbN (dlB (rO (r0 (stp w slip kd num h)) 8)) (t + 1)))), (6, .int (bI (dlB (rO (r0 (stp w slip kd num h)) 8) t))), (5, .int (nI t)), (0, .ref mq), (1, .int (nI V0))]) rfl (congrArg Value.int (congrArg nI (by first | exact kp_y ((pk_lEQ (hob _ (by omega)) hwb).mp c109) | exact kp_n (fun q => c109 (by rw [q]))))) rfl
              refine lv_iinc (v := nI (t + 1)) (lv' := [(5, .int (nI (t + 1))), (4, .int (nI (kpO (stp w slip kd num h) (wh w h 1) (t + 1)))), (3, .int (nI (pcN (dlB (rO (r0 (stp w slip kd num h)) 8)) (rO (r0 (stp w slip kd num h)) 8) (t + 1)))), (2, .int (nI (lbN (dlB (rO (r0 (stp w slip kd num h)) 8)) (t + 1)))), (6, .int (bI (dlB (rO (r0 (stp w slip kd num h)) 8) t))), (0, .ref mq), (1, .int (nI V0))]) hx hb dX6_lasts_124 hl (k := 4) rfl (n_inc _ 1) (by decide) rfl (fun ls hl => ?_)
              refine lv_goto (tgt := 29) hx hb dX6_lasts_127 (by decide) ?_
              exact ih29 (t + 1) _ _ _ (by omega) (by omega) hP hD hS (lv_sub hl [0, 1, 2, 3, 5, 6] rfl)
            refine lv_iconst (v := nI (1)) hx hb dX6_lasts_113 (by decide) ?_
            refine lv_iload hx hb dX6_lasts_114 (lv_at hl 3 rfl) ?_
            refine r_ishl (a := 1) (b := t) hx hb dX6_lasts_116 (by omega) (sh1 t c33) ?_
            refine lv_goto (tgt := 121) hx hb dX6_lasts_117 (by decide) ?_
            refine r_ior (a := kpO (stp w slip kd num h) (wh w h 1) t) (b := 1 <<< t) hx hb dX6_lasts_121  ?_
            refine lv_istore (lv' := [(4, .int (nI ((kpO (stp w slip kd num h) (wh w h 1) t) ||| (1 <<< t)))), (3, .int (nI (pcN (dlB (rO (r0 (stp w slip kd num h)) 8)) (rO (r0 (stp w slip kd num h)) 8) (t + 1)))), (2, .int (nI (lbN (dlB (rO (r0 (stp w slip kd num h)) 8)) (t + 1)))), (6, .int (bI (dlB (rO (r0 (stp w slip kd num h)) 8) t))), (5, .int (nI t)), (0, .ref mq), (1, .int (nI V0))]) hx hb dX6_lasts_122 hl (by decide) rfl (fun ls hl => ?_)
            have hl := lv_ch hl 0 (v2 := .int (nI (kpO (stp w slip kd num h) (wh w h 1) (t + 1)))) (l2 := [(4, .int (nI (kpO (stp w slip kd num h) (wh w h 1) (t + 1)))), (3, .int (nI (pcN (dlB (rO (r0 (stp w slip kd num h)) 8)) (rO (r0 (stp w slip kd num h)) 8) (t + 1)))), (2, .int (nI (lbN (dlB (rO (r0 (stp w slip kd num h)) 8)) (t + 1)))), (6, .int (bI (dlB (rO (r0 (stp w slip kd num h)) 8) t))), (5, .int (nI t)), (0, .ref mq), (1, .int (nI V0))]) rfl (congrArg Value.int (congrArg nI (by first | exact kp_y ((pk_lEQ (hob _ (by omega)) hwb).mp c109) | exact kp_n (fun q => c109 (by rw [q]))))) rfl
            refine lv_iinc (v := nI (t + 1)) (lv' := [(5, .int (nI (t + 1))), (4, .int (nI (kpO (stp w slip kd num h) (wh w h 1) (t + 1)))), (3, .int (nI (pcN (dlB (rO (r0 (stp w slip kd num h)) 8)) (rO (r0 (stp w slip kd num h)) 8) (t + 1)))), (2, .int (nI (lbN (dlB (rO (r0 (stp w slip kd num h)) 8)) (t + 1)))), (6, .int (bI (dlB (rO (r0 (stp w slip kd num h)) 8) t))), (0, .ref mq), (1, .int (nI V0))]) hx hb dX6_lasts_124 hl (k := 4) rfl (n_inc _ 1) (by decide) rfl (fun ls hl => ?_)
            refine lv_goto (tgt := 29) hx hb dX6_lasts_127 (by decide) ?_
            exact ih29 (t + 1) _ _ _ (by omega) (by omega) hP hD hS (lv_sub hl [0, 1, 2, 3, 5, 6] rfl)
          refine lv_aload_n hx hb dX6_lasts_66 rfl (lv_at hl 5 rfl) ?_
          refine va_get (D := D) (ci := 6) (v := .ref mld) (C := RX6) (T := TX6) (N := 20) hx hb hts hiX6 hown hKB.1 hP 0 rfl rfl 17 (by decide) fl35 (fun _ h9 => h9) rfl dX6_lasts_67 ?_
          refine lv_iload hx hb dX6_lasts_70 (lv_at hl 2 rfl) ?_
          refine r_iald (i := t) (v := nI ((rO (r0 (stp w slip kd num h)) 8) t)) hx hb hKB.1 hP 5 0 rfl rfl (by omega) (by decide) (rfl) dX6_lasts_72 ?_
          refine lv_iconst (v := nI (1)) hx hb dX6_lasts_73 (by decide) ?_
          refine lv_iload hx hb dX6_lasts_74 (lv_at hl 2 rfl) ?_
          refine r_ishl (a := 1) (b := t) hx hb dX6_lasts_76 (by omega) (sh1 t c33) ?_
          refine lv_iconst (v := nI (1)) hx hb dX6_lasts_77 (by decide) ?_
          refine r_isub (a := 1 <<< t) (b := 1) hx hb dX6_lasts_78 (sh_pos t c33) ?_
          refine r_iand (a := (rO (r0 (stp w slip kd num h)) 8) t) (b := (1 <<< t) - 1) hx hb dX6_lasts_79  ?_
          refine r_if_ne (a := ((rO (r0 (stp w slip kd num h)) 8) t) &&& ((1 <<< t) - 1)) (tgt := 87) hx hb dX6_lasts_80 (by decide) (Nat.lt_of_le_of_lt Nat.and_le_left (Nat.lt_trans (hre t c33) (by decide))) (fun c80 => ?_) (fun c80 => ?_)
          · skip
            refine lv_iconst (v := nI (0)) hx hb dX6_lasts_87 (by decide) ?_
            refine r_iadd (a := pcN (dlB (rO (r0 (stp w slip kd num h)) 8)) (rO (r0 (stp w slip kd num h)) 8) t) (b := 0) hx hb dX6_lasts_88  ?_
            refine lv_istore_n (lv' := [(3, .int (nI ((pcN (dlB (rO (r0 (stp w slip kd num h)) 8)) (rO (r0 (stp w slip kd num h)) 8) t) + 0))), (2, .int (nI (lbN (dlB (rO (r0 (stp w slip kd num h)) 8)) (t + 1)))), (6, .int (bI (dlB (rO (r0 (stp w slip kd num h)) 8) t))), (5, .int (nI t)), (4, .int (nI (kpO (stp w slip kd num h) (wh w h 1) t))), (0, .ref mq), (1, .int (nI V0))]) hx hb dX6_lasts_89 rfl hl (by decide) rfl (fun ls hl => ?_)
            have hl := lv_ch hl 0 (v2 := .int (nI (pcN (dlB (rO (r0 (stp w slip kd num h)) 8)) (rO (r0 (stp w slip kd num h)) 8) (t + 1)))) (l2 := [(3, .int (nI (pcN (dlB (rO (r0 (stp w slip kd num h)) 8)) (rO (r0 (stp w slip kd num h)) 8) (t + 1)))), (2, .int (nI (lbN (dlB (rO (r0 (stp w slip kd num h)) 8)) (t + 1)))), (6, .int (bI (dlB (rO (r0 (stp w slip kd num h)) 8) t))), (5, .int (nI t)), (4, .int (nI (kpO (stp w slip kd num h) (wh w h 1) t))), (0, .ref mq), (1, .int (nI V0))]) rfl (congrArg Value.int (congrArg nI (by first | (rw [pcN, c63, decide_eq_false c80]; rfl) | (rw [pcN, c63, decide_eq_true c80]; rfl) | (rw [pcN, c63]; rfl)))) rfl
            refine lv_iload hx hb dX6_lasts_90 (lv_at hl 4 rfl) ?_
            refine lv_aload_n hx hb dX6_lasts_92 rfl (lv_at hl 5 rfl) ?_
            refine va_get (D := D) (ci := 6) (v := .ref mst) (C := RX6) (T := TX6) (N := 20) hx hb hts hiX6 hown hKB.1 hP 0 rfl rfl 12 (by decide) fl25 (fun _ h9 => h9) rfl dX6_lasts_93 ?_
            refine lv_bipush (v := nI (8)) hx hb dX6_lasts_96 (by decide) ?_
            refine lv_iload hx hb dX6_lasts_98 (lv_at hl 3 rfl) ?_
            refine r_imul (a := 8) (b := t) hx hb dX6_lasts_100  ?_
            refine lv_iload hx hb dX6_lasts_101 (lv_at hl 3 rfl) ?_
            refine r_iadd (a := 8 * t) (b := t) hx hb dX6_lasts_103  ?_
            refine r_lald (i := (8 * t) + t) (v := lN ((stp w slip kd num h) ((8 * t) + t))) hx hb hKB.1 hP 4 1 rfl rfl (by omega) (by decide) (rfl) dX6_lasts_104 ?_
            refine lv_aload_n hx hb dX6_lasts_105 rfl (lv_at hl 5 rfl) ?_
            refine va_get (D := D) (ci := 6) (v := .long (lN (lowN w h))) (C := RX6) (T := TX6) (N := 20) hx hb hts hiX6 hown hKB.1 hP 0 rfl rfl 13 (by decide) fl143 (fun _ h9 => h9) rfl dX6_lasts_106 ?_
            refine r_lcmp_ne (x := lN ((stp w slip kd num h) ((8 * t) + t))) (y := lN (lowN w h)) (tgt := 120) hx hb dX6_lasts_109 dX6_lasts_110 (by decide) (fun c109 => ?_) (fun c109 => ?_)
            · skip
              refine lv_iconst (v := nI (0)) hx hb dX6_lasts_120 (by decide) ?_
              refine r_ior (a := kpO (stp w slip kd num h) (wh w h 1) t) (b := 0) hx hb dX6_lasts_121  ?_
              refine lv_istore (lv' := [(4, .int (nI ((kpO (stp w slip kd num h) (wh w h 1) t) ||| 0))), (3, .int (nI (pcN (dlB (rO (r0 (stp w slip kd num h)) 8)) (rO (r0 (stp w slip kd num h)) 8) (t + 1)))), (2, .int (nI (lbN (dlB (rO (r0 (stp w slip kd num h)) 8)) (t + 1)))), (6, .int (bI (dlB (rO (r0 (stp w slip kd num h)) 8) t))), (5, .int (nI t)), (0, .ref mq), (1, .int (nI V0))]) hx hb dX6_lasts_122 hl (by decide) rfl (fun ls hl => ?_)
              have hl := lv_ch hl 0 (v2 := .int (nI (kpO (stp w slip kd num h) (wh w h 1) (t + 1)))) (l2 := [(4, .int (nI (kpO (stp w slip kd num h) (wh w h 1) (t + 1)))), (3, .int (nI (pcN (dlB (rO (r0 (stp w slip kd num h)) 8)) (rO (r0 (stp w slip kd num h)) 8) (t + 1)))), (2, .int (nI (lbN (dlB (rO (r0 (stp w slip kd num h)) 8)) (t + 1)))), (6, .int (bI (dlB (rO (r0 (stp w slip kd num h)) 8) t))), (5, .int (nI t)), (0, .ref mq), (1, .int (nI V0))]) rfl (congrArg Value.int (congrArg nI (by first | exact kp_y ((pk_lEQ (hob _ (by omega)) hwb).mp c109) | exact kp_n (fun q => c109 (by rw [q]))))) rfl
              refine lv_iinc (v := nI (t + 1)) (lv' := [(5, .int (nI (t + 1))), (4, .int (nI (kpO (stp w slip kd num h) (wh w h 1) (t + 1)))), (3, .int (nI (pcN (dlB (rO (r0 (stp w slip kd num h)) 8)) (rO (r0 (stp w slip kd num h)) 8) (t + 1)))), (2, .int (nI (lbN (dlB (rO (r0 (stp w slip kd num h)) 8)) (t + 1)))), (6, .int (bI (dlB (rO (r0 (stp w slip kd num h)) 8) t))), (0, .ref mq), (1, .int (nI V0))]) hx hb dX6_lasts_124 hl (k := 4) rfl (n_inc _ 1) (by decide) rfl (fun ls hl => ?_)
              refine lv_goto (tgt := 29) hx hb dX6_lasts_127 (by decide) ?_
              exact ih29 (t + 1) _ _ _ (by omega) (by omega) hP hD hS (lv_sub hl [0, 1, 2, 3, 5, 6] rfl)
            refine lv_iconst (v := nI (1)) hx hb dX6_lasts_113 (by decide) ?_
            refine lv_iload hx hb dX6_lasts_114 (lv_at hl 3 rfl) ?_
            refine r_ishl (a := 1) (b := t) hx hb dX6_lasts_116 (by omega) (sh1 t c33) ?_
            refine lv_goto (tgt := 121) hx hb dX6_lasts_117 (by decide) ?_
            refine r_ior (a := kpO (stp w slip kd num h) (wh w h 1) t) (b := 1 <<< t) hx hb dX6_lasts_121  ?_
            refine lv_istore (lv' := [(4, .int (nI ((kpO (stp w slip kd num h) (wh w h 1) t) ||| (1 <<< t)))), (3, .int (nI (pcN (dlB (rO (r0 (stp w slip kd num h)) 8)) (rO (r0 (stp w slip kd num h)) 8) (t + 1)))), (2, .int (nI (lbN (dlB (rO (r0 (stp w slip kd num h)) 8)) (t + 1)))), (6, .int (bI (dlB (rO (r0 (stp w slip kd num h)) 8) t))), (5, .int (nI t)), (0, .ref mq), (1, .int (nI V0))]) hx hb dX6_lasts_122 hl (by decide) rfl (fun ls hl => ?_)
            have hl := lv_ch hl 0 (v2 := .int (nI (kpO (stp w slip kd num h) (wh w h 1) (t + 1)))) (l2 := [(4, .int (nI (kpO (stp w slip kd num h) (wh w h 1) (t + 1)))), (3, .int (nI (pcN (dlB (rO (r0 (stp w slip kd num h)) 8)) (rO (r0 (stp w slip kd num h)) 8) (t + 1)))), (2, .int (nI (lbN (dlB (rO (r0 (stp w slip kd num h)) 8)) (t + 1)))), (6, .int (bI (dlB (rO (r0 (stp w slip kd num h)) 8) t))), (5, .int (nI t)), (0, .ref mq), (1, .int (nI V0))]) rfl (congrArg Value.int (congrArg nI (by first | exact kp_y ((pk_lEQ (hob _ (by omega)) hwb).mp c109) | exact kp_n (fun q => c109 (by rw [q]))))) rfl
            refine lv_iinc (v := nI (t + 1)) (lv' := [(5, .int (nI (t + 1))), (4, .int (nI (kpO (stp w slip kd num h) (wh w h 1) (t + 1)))), (3, .int (nI (pcN (dlB (rO (r0 (stp w slip kd num h)) 8)) (rO (r0 (stp w slip kd num h)) 8) (t + 1)))), (2, .int (nI (lbN (dlB (rO (r0 (stp w slip kd num h)) 8)) (t + 1)))), (6, .int (bI (dlB (rO (r0 (stp w slip kd num h)) 8) t))), (0, .ref mq), (1, .int (nI V0))]) hx hb dX6_lasts_124 hl (k := 4) rfl (n_inc _ 1) (by decide) rfl (fun ls hl => ?_)
            refine lv_goto (tgt := 29) hx hb dX6_lasts_127 (by decide) ?_
            exact ih29 (t + 1) _ _ _ (by omega) (by omega) hP hD hS (lv_sub hl [0, 1, 2, 3, 5, 6] rfl)
          refine lv_iconst (v := nI (1)) hx hb dX6_lasts_83 (by decide) ?_
          refine lv_goto (tgt := 88) hx hb dX6_lasts_84 (by decide) ?_
          refine r_iadd (a := pcN (dlB (rO (r0 (stp w slip kd num h)) 8)) (rO (r0 (stp w slip kd num h)) 8) t) (b := 1) hx hb dX6_lasts_88  ?_
          refine lv_istore_n (lv' := [(3, .int (nI ((pcN (dlB (rO (r0 (stp w slip kd num h)) 8)) (rO (r0 (stp w slip kd num h)) 8) t) + 1))), (2, .int (nI (lbN (dlB (rO (r0 (stp w slip kd num h)) 8)) (t + 1)))), (6, .int (bI (dlB (rO (r0 (stp w slip kd num h)) 8) t))), (5, .int (nI t)), (4, .int (nI (kpO (stp w slip kd num h) (wh w h 1) t))), (0, .ref mq), (1, .int (nI V0))]) hx hb dX6_lasts_89 rfl hl (by decide) rfl (fun ls hl => ?_)
          have hl := lv_ch hl 0 (v2 := .int (nI (pcN (dlB (rO (r0 (stp w slip kd num h)) 8)) (rO (r0 (stp w slip kd num h)) 8) (t + 1)))) (l2 := [(3, .int (nI (pcN (dlB (rO (r0 (stp w slip kd num h)) 8)) (rO (r0 (stp w slip kd num h)) 8) (t + 1)))), (2, .int (nI (lbN (dlB (rO (r0 (stp w slip kd num h)) 8)) (t + 1)))), (6, .int (bI (dlB (rO (r0 (stp w slip kd num h)) 8) t))), (5, .int (nI t)), (4, .int (nI (kpO (stp w slip kd num h) (wh w h 1) t))), (0, .ref mq), (1, .int (nI V0))]) rfl (congrArg Value.int (congrArg nI (by first | (rw [pcN, c63, decide_eq_false c80]; rfl) | (rw [pcN, c63, decide_eq_true c80]; rfl) | (rw [pcN, c63]; rfl)))) rfl
          refine lv_iload hx hb dX6_lasts_90 (lv_at hl 4 rfl) ?_
          refine lv_aload_n hx hb dX6_lasts_92 rfl (lv_at hl 5 rfl) ?_
          refine va_get (D := D) (ci := 6) (v := .ref mst) (C := RX6) (T := TX6) (N := 20) hx hb hts hiX6 hown hKB.1 hP 0 rfl rfl 12 (by decide) fl25 (fun _ h9 => h9) rfl dX6_lasts_93 ?_
          refine lv_bipush (v := nI (8)) hx hb dX6_lasts_96 (by decide) ?_
          refine lv_iload hx hb dX6_lasts_98 (lv_at hl 3 rfl) ?_
          refine r_imul (a := 8) (b := t) hx hb dX6_lasts_100  ?_
          refine lv_iload hx hb dX6_lasts_101 (lv_at hl 3 rfl) ?_
          refine r_iadd (a := 8 * t) (b := t) hx hb dX6_lasts_103  ?_
          refine r_lald (i := (8 * t) + t) (v := lN ((stp w slip kd num h) ((8 * t) + t))) hx hb hKB.1 hP 4 1 rfl rfl (by omega) (by decide) (rfl) dX6_lasts_104 ?_
          refine lv_aload_n hx hb dX6_lasts_105 rfl (lv_at hl 5 rfl) ?_
          refine va_get (D := D) (ci := 6) (v := .long (lN (lowN w h))) (C := RX6) (T := TX6) (N := 20) hx hb hts hiX6 hown hKB.1 hP 0 rfl rfl 13 (by decide) fl143 (fun _ h9 => h9) rfl dX6_lasts_106 ?_
          refine r_lcmp_ne (x := lN ((stp w slip kd num h) ((8 * t) + t))) (y := lN (lowN w h)) (tgt := 120) hx hb dX6_lasts_109 dX6_lasts_110 (by decide) (fun c109 => ?_) (fun c109 => ?_)
          · skip
            refine lv_iconst (v := nI (0)) hx hb dX6_lasts_120 (by decide) ?_
            refine r_ior (a := kpO (stp w slip kd num h) (wh w h 1) t) (b := 0) hx hb dX6_lasts_121  ?_
            refine lv_istore (lv' := [(4, .int (nI ((kpO (stp w slip kd num h) (wh w h 1) t) ||| 0))), (3, .int (nI (pcN (dlB (rO (r0 (stp w slip kd num h)) 8)) (rO (r0 (stp w slip kd num h)) 8) (t + 1)))), (2, .int (nI (lbN (dlB (rO (r0 (stp w slip kd num h)) 8)) (t + 1)))), (6, .int (bI (dlB (rO (r0 (stp w slip kd num h)) 8) t))), (5, .int (nI t)), (0, .ref mq), (1, .int (nI V0))]) hx hb dX6_lasts_122 hl (by decide) rfl (fun ls hl => ?_)
            have hl := lv_ch hl 0 (v2 := .int (nI (kpO (stp w slip kd num h) (wh w h 1) (t + 1)))) (l2 := [(4, .int (nI (kpO (stp w slip kd num h) (wh w h 1) (t + 1)))), (3, .int (nI (pcN (dlB (rO (r0 (stp w slip kd num h)) 8)) (rO (r0 (stp w slip kd num h)) 8) (t + 1)))), (2, .int (nI (lbN (dlB (rO (r0 (stp w slip kd num h)) 8)) (t + 1)))), (6, .int (bI (dlB (rO (r0 (stp w slip kd num h)) 8) t))), (5, .int (nI t)), (0, .ref mq), (1, .int (nI V0))]) rfl (congrArg Value.int (congrArg nI (by first | exact kp_y ((pk_lEQ (hob _ (by omega)) hwb).mp c109) | exact kp_n (fun q => c109 (by rw [q]))))) rfl
            refine lv_iinc (v := nI (t + 1)) (lv' := [(5, .int (nI (t + 1))), (4, .int (nI (kpO (stp w slip kd num h) (wh w h 1) (t + 1)))), (3, .int (nI (pcN (dlB (rO (r0 (stp w slip kd num h)) 8)) (rO (r0 (stp w slip kd num h)) 8) (t + 1)))), (2, .int (nI (lbN (dlB (rO (r0 (stp w slip kd num h)) 8)) (t + 1)))), (6, .int (bI (dlB (rO (r0 (stp w slip kd num h)) 8) t))), (0, .ref mq), (1, .int (nI V0))]) hx hb dX6_lasts_124 hl (k := 4) rfl (n_inc _ 1) (by decide) rfl (fun ls hl => ?_)
            refine lv_goto (tgt := 29) hx hb dX6_lasts_127 (by decide) ?_
            exact ih29 (t + 1) _ _ _ (by omega) (by omega) hP hD hS (lv_sub hl [0, 1, 2, 3, 5, 6] rfl)
          refine lv_iconst (v := nI (1)) hx hb dX6_lasts_113 (by decide) ?_
          refine lv_iload hx hb dX6_lasts_114 (lv_at hl 3 rfl) ?_
          refine r_ishl (a := 1) (b := t) hx hb dX6_lasts_116 (by omega) (sh1 t c33) ?_
          refine lv_goto (tgt := 121) hx hb dX6_lasts_117 (by decide) ?_
          refine r_ior (a := kpO (stp w slip kd num h) (wh w h 1) t) (b := 1 <<< t) hx hb dX6_lasts_121  ?_
          refine lv_istore (lv' := [(4, .int (nI ((kpO (stp w slip kd num h) (wh w h 1) t) ||| (1 <<< t)))), (3, .int (nI (pcN (dlB (rO (r0 (stp w slip kd num h)) 8)) (rO (r0 (stp w slip kd num h)) 8) (t + 1)))), (2, .int (nI (lbN (dlB (rO (r0 (stp w slip kd num h)) 8)) (t + 1)))), (6, .int (bI (dlB (rO (r0 (stp w slip kd num h)) 8) t))), (5, .int (nI t)), (0, .ref mq), (1, .int (nI V0))]) hx hb dX6_lasts_122 hl (by decide) rfl (fun ls hl => ?_)
          have hl := lv_ch hl 0 (v2 := .int (nI (kpO (stp w slip kd num h) (wh w h 1) (t + 1)))) (l2 := [(4, .int (nI (kpO (stp w slip kd num h) (wh w h 1) (t + 1)))), (3, .int (nI (pcN (dlB (rO (r0 (stp w slip kd num h)) 8)) (rO (r0 (stp w slip kd num h)) 8) (t + 1)))), (2, .int (nI (lbN (dlB (rO (r0 (stp w slip kd num h)) 8)) (t + 1)))), (6, .int (bI (dlB (rO (r0 (stp w slip kd num h)) 8) t))), (5, .int (nI t)), (0, .ref mq), (1, .int (nI V0))]) rfl (congrArg Value.int (congrArg nI (by first | exact kp_y ((pk_lEQ (hob _ (by omega)) hwb).mp c109) | exact kp_n (fun q => c109 (by rw [q]))))) rfl
          refine lv_iinc (v := nI (t + 1)) (lv' := [(5, .int (nI (t + 1))), (4, .int (nI (kpO (stp w slip kd num h) (wh w h 1) (t + 1)))), (3, .int (nI (pcN (dlB (rO (r0 (stp w slip kd num h)) 8)) (rO (r0 (stp w slip kd num h)) 8) (t + 1)))), (2, .int (nI (lbN (dlB (rO (r0 (stp w slip kd num h)) 8)) (t + 1)))), (6, .int (bI (dlB (rO (r0 (stp w slip kd num h)) 8) t))), (0, .ref mq), (1, .int (nI V0))]) hx hb dX6_lasts_124 hl (k := 4) rfl (n_inc _ 1) (by decide) rfl (fun ls hl => ?_)
          refine lv_goto (tgt := 29) hx hb dX6_lasts_127 (by decide) ?_
          exact ih29 (t + 1) _ _ _ (by omega) (by omega) hP hD hS (lv_sub hl [0, 1, 2, 3, 5, 6] rfl)
        refine lv_iconst (v := nI (1)) hx hb dX6_lasts_50 (by decide) ?_
        refine lv_iload hx hb dX6_lasts_51 (lv_at hl 1 rfl) ?_
        refine r_ishl (a := 1) (b := t) hx hb dX6_lasts_53 (by omega) (sh1 t c33) ?_
        refine lv_goto (tgt := 58) hx hb dX6_lasts_54 (by decide) ?_
        refine r_ior (a := lbN (dlB (rO (r0 (stp w slip kd num h)) 8)) t) (b := 1 <<< t) hx hb dX6_lasts_58  ?_
        refine lv_istore_n (lv' := [(2, .int (nI ((lbN (dlB (rO (r0 (stp w slip kd num h)) 8)) t) ||| (1 <<< t)))), (6, .int (bI (dlB (rO (r0 (stp w slip kd num h)) 8) t))), (5, .int (nI t)), (4, .int (nI (kpO (stp w slip kd num h) (wh w h 1) t))), (3, .int (nI (pcN (dlB (rO (r0 (stp w slip kd num h)) 8)) (rO (r0 (stp w slip kd num h)) 8) t))), (0, .ref mq), (1, .int (nI V0))]) hx hb dX6_lasts_59 rfl hl (by decide) rfl (fun ls hl => ?_)
        have hl := lv_ch hl 0 (v2 := .int (nI (lbN (dlB (rO (r0 (stp w slip kd num h)) 8)) (t + 1)))) (l2 := [(2, .int (nI (lbN (dlB (rO (r0 (stp w slip kd num h)) 8)) (t + 1)))), (6, .int (bI (dlB (rO (r0 (stp w slip kd num h)) 8) t))), (5, .int (nI t)), (4, .int (nI (kpO (stp w slip kd num h) (wh w h 1) t))), (3, .int (nI (pcN (dlB (rO (r0 (stp w slip kd num h)) 8)) (rO (r0 (stp w slip kd num h)) 8) t))), (0, .ref mq), (1, .int (nI V0))]) rfl (congrArg Value.int (congrArg nI (by rw [lbN, c47]; rfl))) rfl
        refine lv_iload_n hx hb dX6_lasts_60 rfl (lv_at hl 4 rfl) ?_
        refine lv_iload hx hb dX6_lasts_61 (lv_at hl 1 rfl) ?_
        refine r_bif_eq (b := dlB (rO (r0 (stp w slip kd num h)) 8) t) (tgt := 87) hx hb dX6_lasts_63 (by decide) (fun c63 => ?_) (fun c63 => ?_)
        · skip
          refine lv_iconst (v := nI (0)) hx hb dX6_lasts_87 (by decide) ?_
          refine r_iadd (a := pcN (dlB (rO (r0 (stp w slip kd num h)) 8)) (rO (r0 (stp w slip kd num h)) 8) t) (b := 0) hx hb dX6_lasts_88  ?_
          refine lv_istore_n (lv' := [(3, .int (nI ((pcN (dlB (rO (r0 (stp w slip kd num h)) 8)) (rO (r0 (stp w slip kd num h)) 8) t) + 0))), (2, .int (nI (lbN (dlB (rO (r0 (stp w slip kd num h)) 8)) (t + 1)))), (6, .int (bI (dlB (rO (r0 (stp w slip kd num h)) 8) t))), (5, .int (nI t)), (4, .int (nI (kpO (stp w slip kd num h) (wh w h 1) t))), (0, .ref mq), (1, .int (nI V0))]) hx hb dX6_lasts_89 rfl hl (by decide) rfl (fun ls hl => ?_)
          have hl := lv_ch hl 0 (v2 := .int (nI (pcN (dlB (rO (r0 (stp w slip kd num h)) 8)) (rO (r0 (stp w slip kd num h)) 8) (t + 1)))) (l2 := [(3, .int (nI (pcN (dlB (rO (r0 (stp w slip kd num h)) 8)) (rO (r0 (stp w slip kd num h)) 8) (t + 1)))), (2, .int (nI (lbN (dlB (rO (r0 (stp w slip kd num h)) 8)) (t + 1)))), (6, .int (bI (dlB (rO (r0 (stp w slip kd num h)) 8) t))), (5, .int (nI t)), (4, .int (nI (kpO (stp w slip kd num h) (wh w h 1) t))), (0, .ref mq), (1, .int (nI V0))]) rfl (congrArg Value.int (congrArg nI (by first | (rw [pcN, c63, decide_eq_false c80]; rfl) | (rw [pcN, c63, decide_eq_true c80]; rfl) | (rw [pcN, c63]; rfl)))) rfl
          refine lv_iload hx hb dX6_lasts_90 (lv_at hl 4 rfl) ?_
          refine lv_aload_n hx hb dX6_lasts_92 rfl (lv_at hl 5 rfl) ?_
          refine va_get (D := D) (ci := 6) (v := .ref mst) (C := RX6) (T := TX6) (N := 20) hx hb hts hiX6 hown hKB.1 hP 0 rfl rfl 12 (by decide) fl25 (fun _ h9 => h9) rfl dX6_lasts_93 ?_
          refine lv_bipush (v := nI (8)) hx hb dX6_lasts_96 (by decide) ?_
          refine lv_iload hx hb dX6_lasts_98 (lv_at hl 3 rfl) ?_
          refine r_imul (a := 8) (b := t) hx hb dX6_lasts_100  ?_
          refine lv_iload hx hb dX6_lasts_101 (lv_at hl 3 rfl) ?_
          refine r_iadd (a := 8 * t) (b := t) hx hb dX6_lasts_103  ?_
          refine r_lald (i := (8 * t) + t) (v := lN ((stp w slip kd num h) ((8 * t) + t))) hx hb hKB.1 hP 4 1 rfl rfl (by omega) (by decide) (rfl) dX6_lasts_104 ?_
          refine lv_aload_n hx hb dX6_lasts_105 rfl (lv_at hl 5 rfl) ?_
          refine va_get (D := D) (ci := 6) (v := .long (lN (lowN w h))) (C := RX6) (T := TX6) (N := 20) hx hb hts hiX6 hown hKB.1 hP 0 rfl rfl 13 (by decide) fl143 (fun _ h9 => h9) rfl dX6_lasts_106 ?_
          refine r_lcmp_ne (x := lN ((stp w slip kd num h) ((8 * t) + t))) (y := lN (lowN w h)) (tgt := 120) hx hb dX6_lasts_109 dX6_lasts_110 (by decide) (fun c109 => ?_) (fun c109 => ?_)
          · skip
            refine lv_iconst (v := nI (0)) hx hb dX6_lasts_120 (by decide) ?_
            refine r_ior (a := kpO (stp w slip kd num h) (wh w h 1) t) (b := 0) hx hb dX6_lasts_121  ?_
            refine lv_istore (lv' := [(4, .int (nI ((kpO (stp w slip kd num h) (wh w h 1) t) ||| 0))), (3, .int (nI (pcN (dlB (rO (r0 (stp w slip kd num h)) 8)) (rO (r0 (stp w slip kd num h)) 8) (t + 1)))), (2, .int (nI (lbN (dlB (rO (r0 (stp w slip kd num h)) 8)) (t + 1)))), (6, .int (bI (dlB (rO (r0 (stp w slip kd num h)) 8) t))), (5, .int (nI t)), (0, .ref mq), (1, .int (nI V0))]) hx hb dX6_lasts_122 hl (by decide) rfl (fun ls hl => ?_)
            have hl := lv_ch hl 0 (v2 := .int (nI (kpO (stp w slip kd num h) (wh w h 1) (t + 1)))) (l2 := [(4, .int (nI (kpO (stp w slip kd num h) (wh w h 1) (t + 1)))), (3, .int (nI (pcN (dlB (rO (r0 (stp w slip kd num h)) 8)) (rO (r0 (stp w slip kd num h)) 8) (t + 1)))), (2, .int (nI (lbN (dlB (rO (r0 (stp w slip kd num h)) 8)) (t + 1)))), (6, .int (bI (dlB (rO (r0 (stp w slip kd num h)) 8) t))), (5, .int (nI t)), (0, .ref mq), (1, .int (nI V0))]) rfl (congrArg Value.int (congrArg nI (by first | exact kp_y ((pk_lEQ (hob _ (by omega)) hwb).mp c109) | exact kp_n (fun q => c109 (by rw [q]))))) rfl
            refine lv_iinc (v := nI (t + 1)) (lv' := [(5, .int (nI (t + 1))), (4, .int (nI (kpO (stp w slip kd num h) (wh w h 1) (t + 1)))), (3, .int (nI (pcN (dlB (rO (r0 (stp w slip kd num h)) 8)) (rO (r0 (stp w slip kd num h)) 8) (t + 1)))), (2, .int (nI (lbN (dlB (rO (r0 (stp w slip kd num h)) 8)) (t + 1)))), (6, .int (bI (dlB (rO (r0 (stp w slip kd num h)) 8) t))), (0, .ref mq), (1, .int (nI V0))]) hx hb dX6_lasts_124 hl (k := 4) rfl (n_inc _ 1) (by decide) rfl (fun ls hl => ?_)
            refine lv_goto (tgt := 29) hx hb dX6_lasts_127 (by decide) ?_
            exact ih29 (t + 1) _ _ _ (by omega) (by omega) hP hD hS (lv_sub hl [0, 1, 2, 3, 5, 6] rfl)
          refine lv_iconst (v := nI (1)) hx hb dX6_lasts_113 (by decide) ?_
          refine lv_iload hx hb dX6_lasts_114 (lv_at hl 3 rfl) ?_
          refine r_ishl (a := 1) (b := t) hx hb dX6_lasts_116 (by omega) (sh1 t c33) ?_
          refine lv_goto (tgt := 121) hx hb dX6_lasts_117 (by decide) ?_
          refine r_ior (a := kpO (stp w slip kd num h) (wh w h 1) t) (b := 1 <<< t) hx hb dX6_lasts_121  ?_
          refine lv_istore (lv' := [(4, .int (nI ((kpO (stp w slip kd num h) (wh w h 1) t) ||| (1 <<< t)))), (3, .int (nI (pcN (dlB (rO (r0 (stp w slip kd num h)) 8)) (rO (r0 (stp w slip kd num h)) 8) (t + 1)))), (2, .int (nI (lbN (dlB (rO (r0 (stp w slip kd num h)) 8)) (t + 1)))), (6, .int (bI (dlB (rO (r0 (stp w slip kd num h)) 8) t))), (5, .int (nI t)), (0, .ref mq), (1, .int (nI V0))]) hx hb dX6_lasts_122 hl (by decide) rfl (fun ls hl => ?_)
          have hl := lv_ch hl 0 (v2 := .int (nI (kpO (stp w slip kd num h) (wh w h 1) (t + 1)))) (l2 := [(4, .int (nI (kpO (stp w slip kd num h) (wh w h 1) (t + 1)))), (3, .int (nI (pcN (dlB (rO (r0 (stp w slip kd num h)) 8)) (rO (r0 (stp w slip kd num h)) 8) (t + 1)))), (2, .int (nI (lbN (dlB (rO (r0 (stp w slip kd num h)) 8)) (t + 1)))), (6, .int (bI (dlB (rO (r0 (stp w slip kd num h)) 8) t))), (5, .int (nI t)), (0, .ref mq), (1, .int (nI V0))]) rfl (congrArg Value.int (congrArg nI (by first | exact kp_y ((pk_lEQ (hob _ (by omega)) hwb).mp c109) | exact kp_n (fun q => c109 (by rw [q]))))) rfl
          refine lv_iinc (v := nI (t + 1)) (lv' := [(5, .int (nI (t + 1))), (4, .int (nI (kpO (stp w slip kd num h) (wh w h 1) (t + 1)))), (3, .int (nI (pcN (dlB (rO (r0 (stp w slip kd num h)) 8)) (rO (r0 (stp w slip kd num h)) 8) (t + 1)))), (2, .int (nI (lbN (dlB (rO (r0 (stp w slip kd num h)) 8)) (t + 1)))), (6, .int (bI (dlB (rO (r0 (stp w slip kd num h)) 8) t))), (0, .ref mq), (1, .int (nI V0))]) hx hb dX6_lasts_124 hl (k := 4) rfl (n_inc _ 1) (by decide) rfl (fun ls hl => ?_)
          refine lv_goto (tgt := 29) hx hb dX6_lasts_127 (by decide) ?_
          exact ih29 (t + 1) _ _ _ (by omega) (by omega) hP hD hS (lv_sub hl [0, 1, 2, 3, 5, 6] rfl)
        refine lv_aload_n hx hb dX6_lasts_66 rfl (lv_at hl 5 rfl) ?_
        refine va_get (D := D) (ci := 6) (v := .ref mld) (C := RX6) (T := TX6) (N := 20) hx hb hts hiX6 hown hKB.1 hP 0 rfl rfl 17 (by decide) fl35 (fun _ h9 => h9) rfl dX6_lasts_67 ?_
        refine lv_iload hx hb dX6_lasts_70 (lv_at hl 2 rfl) ?_
        refine r_iald (i := t) (v := nI ((rO (r0 (stp w slip kd num h)) 8) t)) hx hb hKB.1 hP 5 0 rfl rfl (by omega) (by decide) (rfl) dX6_lasts_72 ?_
        refine lv_iconst (v := nI (1)) hx hb dX6_lasts_73 (by decide) ?_
        refine lv_iload hx hb dX6_lasts_74 (lv_at hl 2 rfl) ?_
        refine r_ishl (a := 1) (b := t) hx hb dX6_lasts_76 (by omega) (sh1 t c33) ?_
        refine lv_iconst (v := nI (1)) hx hb dX6_lasts_77 (by decide) ?_
        refine r_isub (a := 1 <<< t) (b := 1) hx hb dX6_lasts_78 (sh_pos t c33) ?_
        refine r_iand (a := (rO (r0 (stp w slip kd num h)) 8) t) (b := (1 <<< t) - 1) hx hb dX6_lasts_79  ?_
        refine r_if_ne (a := ((rO (r0 (stp w slip kd num h)) 8) t) &&& ((1 <<< t) - 1)) (tgt := 87) hx hb dX6_lasts_80 (by decide) (Nat.lt_of_le_of_lt Nat.and_le_left (Nat.lt_trans (hre t c33) (by decide))) (fun c80 => ?_) (fun c80 => ?_)
        · skip
          refine lv_iconst (v := nI (0)) hx hb dX6_lasts_87 (by decide) ?_
          refine r_iadd (a := pcN (dlB (rO (r0 (stp w slip kd num h)) 8)) (rO (r0 (stp w slip kd num h)) 8) t) (b := 0) hx hb dX6_lasts_88  ?_
          refine lv_istore_n (lv' := [(3, .int (nI ((pcN (dlB (rO (r0 (stp w slip kd num h)) 8)) (rO (r0 (stp w slip kd num h)) 8) t) + 0))), (2, .int (nI (lbN (dlB (rO (r0 (stp w slip kd num h)) 8)) (t + 1)))), (6, .int (bI (dlB (rO (r0 (stp w slip kd num h)) 8) t))), (5, .int (nI t)), (4, .int (nI (kpO (stp w slip kd num h) (wh w h 1) t))), (0, .ref mq), (1, .int (nI V0))]) hx hb dX6_lasts_89 rfl hl (by decide) rfl (fun ls hl => ?_)
          have hl := lv_ch hl 0 (v2 := .int (nI (pcN (dlB (rO (r0 (stp w slip kd num h)) 8)) (rO (r0 (stp w slip kd num h)) 8) (t + 1)))) (l2 := [(3, .int (nI (pcN (dlB (rO (r0 (stp w slip kd num h)) 8)) (rO (r0 (stp w slip kd num h)) 8) (t + 1)))), (2, .int (nI (lbN (dlB (rO (r0 (stp w slip kd num h)) 8)) (t + 1)))), (6, .int (bI (dlB (rO (r0 (stp w slip kd num h)) 8) t))), (5, .int (nI t)), (4, .int (nI (kpO (stp w slip kd num h) (wh w h 1) t))), (0, .ref mq), (1, .int (nI V0))]) rfl (congrArg Value.int (congrArg nI (by first | (rw [pcN, c63, decide_eq_false c80]; rfl) | (rw [pcN, c63, decide_eq_true c80]; rfl) | (rw [pcN, c63]; rfl)))) rfl
          refine lv_iload hx hb dX6_lasts_90 (lv_at hl 4 rfl) ?_
          refine lv_aload_n hx hb dX6_lasts_92 rfl (lv_at hl 5 rfl) ?_
          refine va_get (D := D) (ci := 6) (v := .ref mst) (C := RX6) (T := TX6) (N := 20) hx hb hts hiX6 hown hKB.1 hP 0 rfl rfl 12 (by decide) fl25 (fun _ h9 => h9) rfl dX6_lasts_93 ?_
          refine lv_bipush (v := nI (8)) hx hb dX6_lasts_96 (by decide) ?_
          refine lv_iload hx hb dX6_lasts_98 (lv_at hl 3 rfl) ?_
          refine r_imul (a := 8) (b := t) hx hb dX6_lasts_100  ?_
          refine lv_iload hx hb dX6_lasts_101 (lv_at hl 3 rfl) ?_
          refine r_iadd (a := 8 * t) (b := t) hx hb dX6_lasts_103  ?_
          refine r_lald (i := (8 * t) + t) (v := lN ((stp w slip kd num h) ((8 * t) + t))) hx hb hKB.1 hP 4 1 rfl rfl (by omega) (by decide) (rfl) dX6_lasts_104 ?_
          refine lv_aload_n hx hb dX6_lasts_105 rfl (lv_at hl 5 rfl) ?_
          refine va_get (D := D) (ci := 6) (v := .long (lN (lowN w h))) (C := RX6) (T := TX6) (N := 20) hx hb hts hiX6 hown hKB.1 hP 0 rfl rfl 13 (by decide) fl143 (fun _ h9 => h9) rfl dX6_lasts_106 ?_
          refine r_lcmp_ne (x := lN ((stp w slip kd num h) ((8 * t) + t))) (y := lN (lowN w h)) (tgt := 120) hx hb dX6_lasts_109 dX6_lasts_110 (by decide) (fun c109 => ?_) (fun c109 => ?_)
          · skip
            refine lv_iconst (v := nI (0)) hx hb dX6_lasts_120 (by decide) ?_
            refine r_ior (a := kpO (stp w slip kd num h) (wh w h 1) t) (b := 0) hx hb dX6_lasts_121  ?_
            refine lv_istore (lv' := [(4, .int (nI ((kpO (stp w slip kd num h) (wh w h 1) t) ||| 0))), (3, .int (nI (pcN (dlB (rO (r0 (stp w slip kd num h)) 8)) (rO (r0 (stp w slip kd num h)) 8) (t + 1)))), (2, .int (nI (lbN (dlB (rO (r0 (stp w slip kd num h)) 8)) (t + 1)))), (6, .int (bI (dlB (rO (r0 (stp w slip kd num h)) 8) t))), (5, .int (nI t)), (0, .ref mq), (1, .int (nI V0))]) hx hb dX6_lasts_122 hl (by decide) rfl (fun ls hl => ?_)
            have hl := lv_ch hl 0 (v2 := .int (nI (kpO (stp w slip kd num h) (wh w h 1) (t + 1)))) (l2 := [(4, .int (nI (kpO (stp w slip kd num h) (wh w h 1) (t + 1)))), (3, .int (nI (pcN (dlB (rO (r0 (stp w slip kd num h)) 8)) (rO (r0 (stp w slip kd num h)) 8) (t + 1)))), (2, .int (nI (lbN (dlB (rO (r0 (stp w slip kd num h)) 8)) (t + 1)))), (6, .int (bI (dlB (rO (r0 (stp w slip kd num h)) 8) t))), (5, .int (nI t)), (0, .ref mq), (1, .int (nI V0))]) rfl (congrArg Value.int (congrArg nI (by first | exact kp_y ((pk_lEQ (hob _ (by omega)) hwb).mp c109) | exact kp_n (fun q => c109 (by rw [q]))))) rfl
            refine lv_iinc (v := nI (t + 1)) (lv' := [(5, .int (nI (t + 1))), (4, .int (nI (kpO (stp w slip kd num h) (wh w h 1) (t + 1)))), (3, .int (nI (pcN (dlB (rO (r0 (stp w slip kd num h)) 8)) (rO (r0 (stp w slip kd num h)) 8) (t + 1)))), (2, .int (nI (lbN (dlB (rO (r0 (stp w slip kd num h)) 8)) (t + 1)))), (6, .int (bI (dlB (rO (r0 (stp w slip kd num h)) 8) t))), (0, .ref mq), (1, .int (nI V0))]) hx hb dX6_lasts_124 hl (k := 4) rfl (n_inc _ 1) (by decide) rfl (fun ls hl => ?_)
            refine lv_goto (tgt := 29) hx hb dX6_lasts_127 (by decide) ?_
            exact ih29 (t + 1) _ _ _ (by omega) (by omega) hP hD hS (lv_sub hl [0, 1, 2, 3, 5, 6] rfl)
          refine lv_iconst (v := nI (1)) hx hb dX6_lasts_113 (by decide) ?_
          refine lv_iload hx hb dX6_lasts_114 (lv_at hl 3 rfl) ?_
          refine r_ishl (a := 1) (b := t) hx hb dX6_lasts_116 (by omega) (sh1 t c33) ?_
          refine lv_goto (tgt := 121) hx hb dX6_lasts_117 (by decide) ?_
          refine r_ior (a := kpO (stp w slip kd num h) (wh w h 1) t) (b := 1 <<< t) hx hb dX6_lasts_121  ?_
          refine lv_istore (lv' := [(4, .int (nI ((kpO (stp w slip kd num h) (wh w h 1) t) ||| (1 <<< t)))), (3, .int (nI (pcN (dlB (rO (r0 (stp w slip kd num h)) 8)) (rO (r0 (stp w slip kd num h)) 8) (t + 1)))), (2, .int (nI (lbN (dlB (rO (r0 (stp w slip kd num h)) 8)) (t + 1)))), (6, .int (bI (dlB (rO (r0 (stp w slip kd num h)) 8) t))), (5, .int (nI t)), (0, .ref mq), (1, .int (nI V0))]) hx hb dX6_lasts_122 hl (by decide) rfl (fun ls hl => ?_)
          have hl := lv_ch hl 0 (v2 := .int (nI (kpO (stp w slip kd num h) (wh w h 1) (t + 1)))) (l2 := [(4, .int (nI (kpO (stp w slip kd num h) (wh w h 1) (t + 1)))), (3, .int (nI (pcN (dlB (rO (r0 (stp w slip kd num h)) 8)) (rO (r0 (stp w slip kd num h)) 8) (t + 1)))), (2, .int (nI (lbN (dlB (rO (r0 (stp w slip kd num h)) 8)) (t + 1)))), (6, .int (bI (dlB (rO (r0 (stp w slip kd num h)) 8) t))), (5, .int (nI t)), (0, .ref mq), (1, .int (nI V0))]) rfl (congrArg Value.int (congrArg nI (by first | exact kp_y ((pk_lEQ (hob _ (by omega)) hwb).mp c109) | exact kp_n (fun q => c109 (by rw [q]))))) rfl
          refine lv_iinc (v := nI (t + 1)) (lv' := [(5, .int (nI (t + 1))), (4, .int (nI (kpO (stp w slip kd num h) (wh w h 1) (t + 1)))), (3, .int (nI (pcN (dlB (rO (r0 (stp w slip kd num h)) 8)) (rO (r0 (stp w slip kd num h)) 8) (t + 1)))), (2, .int (nI (lbN (dlB (rO (r0 (stp w slip kd num h)) 8)) (t + 1)))), (6, .int (bI (dlB (rO (r0 (stp w slip kd num h)) 8) t))), (0, .ref mq), (1, .int (nI V0))]) hx hb dX6_lasts_124 hl (k := 4) rfl (n_inc _ 1) (by decide) rfl (fun ls hl => ?_)
          refine lv_goto (tgt := 29) hx hb dX6_lasts_127 (by decide) ?_
          exact ih29 (t + 1) _ _ _ (by omega) (by omega) hP hD hS (lv_sub hl [0, 1, 2, 3, 5, 6] rfl)
        refine lv_iconst (v := nI (1)) hx hb dX6_lasts_83 (by decide) ?_
        refine lv_goto (tgt := 88) hx hb dX6_lasts_84 (by decide) ?_
        refine r_iadd (a := pcN (dlB (rO (r0 (stp w slip kd num h)) 8)) (rO (r0 (stp w slip kd num h)) 8) t) (b := 1) hx hb dX6_lasts_88  ?_
        refine lv_istore_n (lv' := [(3, .int (nI ((pcN (dlB (rO (r0 (stp w slip kd num h)) 8)) (rO (r0 (stp w slip kd num h)) 8) t) + 1))), (2, .int (nI (lbN (dlB (rO (r0 (stp w slip kd num h)) 8)) (t + 1)))), (6, .int (bI (dlB (rO (r0 (stp w slip kd num h)) 8) t))), (5, .int (nI t)), (4, .int (nI (kpO (stp w slip kd num h) (wh w h 1) t))), (0, .ref mq), (1, .int (nI V0))]) hx hb dX6_lasts_89 rfl hl (by decide) rfl (fun ls hl => ?_)
        have hl := lv_ch hl 0 (v2 := .int (nI (pcN (dlB (rO (r0 (stp w slip kd num h)) 8)) (rO (r0 (stp w slip kd num h)) 8) (t + 1)))) (l2 := [(3, .int (nI (pcN (dlB (rO (r0 (stp w slip kd num h)) 8)) (rO (r0 (stp w slip kd num h)) 8) (t + 1)))), (2, .int (nI (lbN (dlB (rO (r0 (stp w slip kd num h)) 8)) (t + 1)))), (6, .int (bI (dlB (rO (r0 (stp w slip kd num h)) 8) t))), (5, .int (nI t)), (4, .int (nI (kpO (stp w slip kd num h) (wh w h 1) t))), (0, .ref mq), (1, .int (nI V0))]) rfl (congrArg Value.int (congrArg nI (by first | (rw [pcN, c63, decide_eq_false c80]; rfl) | (rw [pcN, c63, decide_eq_true c80]; rfl) | (rw [pcN, c63]; rfl)))) rfl
        refine lv_iload hx hb dX6_lasts_90 (lv_at hl 4 rfl) ?_
        refine lv_aload_n hx hb dX6_lasts_92 rfl (lv_at hl 5 rfl) ?_
        refine va_get (D := D) (ci := 6) (v := .ref mst) (C := RX6) (T := TX6) (N := 20) hx hb hts hiX6 hown hKB.1 hP 0 rfl rfl 12 (by decide) fl25 (fun _ h9 => h9) rfl dX6_lasts_93 ?_
        refine lv_bipush (v := nI (8)) hx hb dX6_lasts_96 (by decide) ?_
        refine lv_iload hx hb dX6_lasts_98 (lv_at hl 3 rfl) ?_
        refine r_imul (a := 8) (b := t) hx hb dX6_lasts_100  ?_
        refine lv_iload hx hb dX6_lasts_101 (lv_at hl 3 rfl) ?_
        refine r_iadd (a := 8 * t) (b := t) hx hb dX6_lasts_103  ?_
        refine r_lald (i := (8 * t) + t) (v := lN ((stp w slip kd num h) ((8 * t) + t))) hx hb hKB.1 hP 4 1 rfl rfl (by omega) (by decide) (rfl) dX6_lasts_104 ?_
        refine lv_aload_n hx hb dX6_lasts_105 rfl (lv_at hl 5 rfl) ?_
        refine va_get (D := D) (ci := 6) (v := .long (lN (lowN w h))) (C := RX6) (T := TX6) (N := 20) hx hb hts hiX6 hown hKB.1 hP 0 rfl rfl 13 (by decide) fl143 (fun _ h9 => h9) rfl dX6_lasts_106 ?_
        refine r_lcmp_ne (x := lN ((stp w slip kd num h) ((8 * t) + t))) (y := lN (lowN w h)) (tgt := 120) hx hb dX6_lasts_109 dX6_lasts_110 (by decide) (fun c109 => ?_) (fun c109 => ?_)
        · skip
          refine lv_iconst (v := nI (0)) hx hb dX6_lasts_120 (by decide) ?_
          refine r_ior (a := kpO (stp w slip kd num h) (wh w h 1) t) (b := 0) hx hb dX6_lasts_121  ?_
          refine lv_istore (lv' := [(4, .int (nI ((kpO (stp w slip kd num h) (wh w h 1) t) ||| 0))), (3, .int (nI (pcN (dlB (rO (r0 (stp w slip kd num h)) 8)) (rO (r0 (stp w slip kd num h)) 8) (t + 1)))), (2, .int (nI (lbN (dlB (rO (r0 (stp w slip kd num h)) 8)) (t + 1)))), (6, .int (bI (dlB (rO (r0 (stp w slip kd num h)) 8) t))), (5, .int (nI t)), (0, .ref mq), (1, .int (nI V0))]) hx hb dX6_lasts_122 hl (by decide) rfl (fun ls hl => ?_)
          have hl := lv_ch hl 0 (v2 := .int (nI (kpO (stp w slip kd num h) (wh w h 1) (t + 1)))) (l2 := [(4, .int (nI (kpO (stp w slip kd num h) (wh w h 1) (t + 1)))), (3, .int (nI (pcN (dlB (rO (r0 (stp w slip kd num h)) 8)) (rO (r0 (stp w slip kd num h)) 8) (t + 1)))), (2, .int (nI (lbN (dlB (rO (r0 (stp w slip kd num h)) 8)) (t + 1)))), (6, .int (bI (dlB (rO (r0 (stp w slip kd num h)) 8) t))), (5, .int (nI t)), (0, .ref mq), (1, .int (nI V0))]) rfl (congrArg Value.int (congrArg nI (by first | exact kp_y ((pk_lEQ (hob _ (by omega)) hwb).mp c109) | exact kp_n (fun q => c109 (by rw [q]))))) rfl
          refine lv_iinc (v := nI (t + 1)) (lv' := [(5, .int (nI (t + 1))), (4, .int (nI (kpO (stp w slip kd num h) (wh w h 1) (t + 1)))), (3, .int (nI (pcN (dlB (rO (r0 (stp w slip kd num h)) 8)) (rO (r0 (stp w slip kd num h)) 8) (t + 1)))), (2, .int (nI (lbN (dlB (rO (r0 (stp w slip kd num h)) 8)) (t + 1)))), (6, .int (bI (dlB (rO (r0 (stp w slip kd num h)) 8) t))), (0, .ref mq), (1, .int (nI V0))]) hx hb dX6_lasts_124 hl (k := 4) rfl (n_inc _ 1) (by decide) rfl (fun ls hl => ?_)
          refine lv_goto (tgt := 29) hx hb dX6_lasts_127 (by decide) ?_
          exact ih29 (t + 1) _ _ _ (by omega) (by omega) hP hD hS (lv_sub hl [0, 1, 2, 3, 5, 6] rfl)
        refine lv_iconst (v := nI (1)) hx hb dX6_lasts_113 (by decide) ?_
        refine lv_iload hx hb dX6_lasts_114 (lv_at hl 3 rfl) ?_
        refine r_ishl (a := 1) (b := t) hx hb dX6_lasts_116 (by omega) (sh1 t c33) ?_
        refine lv_goto (tgt := 121) hx hb dX6_lasts_117 (by decide) ?_
        refine r_ior (a := kpO (stp w slip kd num h) (wh w h 1) t) (b := 1 <<< t) hx hb dX6_lasts_121  ?_
        refine lv_istore (lv' := [(4, .int (nI ((kpO (stp w slip kd num h) (wh w h 1) t) ||| (1 <<< t)))), (3, .int (nI (pcN (dlB (rO (r0 (stp w slip kd num h)) 8)) (rO (r0 (stp w slip kd num h)) 8) (t + 1)))), (2, .int (nI (lbN (dlB (rO (r0 (stp w slip kd num h)) 8)) (t + 1)))), (6, .int (bI (dlB (rO (r0 (stp w slip kd num h)) 8) t))), (5, .int (nI t)), (0, .ref mq), (1, .int (nI V0))]) hx hb dX6_lasts_122 hl (by decide) rfl (fun ls hl => ?_)
        have hl := lv_ch hl 0 (v2 := .int (nI (kpO (stp w slip kd num h) (wh w h 1) (t + 1)))) (l2 := [(4, .int (nI (kpO (stp w slip kd num h) (wh w h 1) (t + 1)))), (3, .int (nI (pcN (dlB (rO (r0 (stp w slip kd num h)) 8)) (rO (r0 (stp w slip kd num h)) 8) (t + 1)))), (2, .int (nI (lbN (dlB (rO (r0 (stp w slip kd num h)) 8)) (t + 1)))), (6, .int (bI (dlB (rO (r0 (stp w slip kd num h)) 8) t))), (5, .int (nI t)), (0, .ref mq), (1, .int (nI V0))]) rfl (congrArg Value.int (congrArg nI (by first | exact kp_y ((pk_lEQ (hob _ (by omega)) hwb).mp c109) | exact kp_n (fun q => c109 (by rw [q]))))) rfl
        refine lv_iinc (v := nI (t + 1)) (lv' := [(5, .int (nI (t + 1))), (4, .int (nI (kpO (stp w slip kd num h) (wh w h 1) (t + 1)))), (3, .int (nI (pcN (dlB (rO (r0 (stp w slip kd num h)) 8)) (rO (r0 (stp w slip kd num h)) 8) (t + 1)))), (2, .int (nI (lbN (dlB (rO (r0 (stp w slip kd num h)) 8)) (t + 1)))), (6, .int (bI (dlB (rO (r0 (stp w slip kd num h)) 8) t))), (0, .ref mq), (1, .int (nI V0))]) hx hb dX6_lasts_124 hl (k := 4) rfl (n_inc _ 1) (by decide) rfl (fun ls hl => ?_)
        refine lv_goto (tgt := 29) hx hb dX6_lasts_127 (by decide) ?_
        exact ih29 (t + 1) _ _ _ (by omega) (by omega) hP hD hS (lv_sub hl [0, 1, 2, 3, 5, 6] rfl)
    exact L29 (8 - 0 + 1) 0 _ _ _ (Nat.lt_succ_self _) (by omega) hP hD hS hl
  refine lv_bipush (v := (-2)) hx hb dX6_lasts_12 (by decide) ?_
  exact w_iret hx hb hr hlk hQ hAe (rw1, rm, lo, st0, ld0) hP hD hS (by refine ⟨?_, hr6⟩; rw [aLa, c9]; rfl) dX6_lasts_14


set_option maxHeartbeats 1000000 in
set_option maxRecDepth 100000 in
theorem m_X6_often (l : Launch) (D : va_G) (cI cJ : ClassId) (sz : Nat) (mq : Nat) (mw : Nat) (slip : Nat) (h : Nat) (kd : Nat) (ms : Nat) (cnt : Nat) (ml : Nat) (nl : Nat) (mh : Nat) (hn : Nat) (mr : Nat) (rm : Nat) (mst : Nat) (lo : Nat) (mn : Nat) (mth : Nat) (lon : Nat) (mld : Nat) (mpk : Nat) (mcm : Nat) (w : Nat → Nat) (lg : Nat → Nat) (num : Nat → Nat) (rw1 : Nat → Nat) (st0 : Nat → Nat) (p0 : Int32) (p1 : Int32) (p2 : Int32) (hh : 1 ≤ h ∧ h ≤ 4) (hw : ∀ j, j < 3 → w j ≤ 4) (hnl7 : nl ≤ 7) (hlg : okL lg nl) (hbf : ∀ t, t < 8 → bfM lg t nl 0 = num t) (hsl : slip ≤ 12) (hnum : ∀ j, j < 8 → num j < 10) (hr6 : ∀ j, j < 6 → rw1 j < 6) (hkd : kd < 3) : Met l yX6_often wsX6_often ({ frames := 4, cells := 0, slots := 0, locals := 105 }) (PX D cI cJ [(mq, .inr (6, [.ref mw, .int (nI slip), .int (nI h), .int (nI kd), .ref ms, .int (nI cnt), .ref ml, .int (nI nl), .ref mh, .int (nI hn), .ref mr, .int (nI rm), .ref mst, .long (lN lo), .ref mn, .ref mth, .long (lN lon), .ref mld, .ref mpk, .ref mcm])), (mw, .inl (cI, 3, .inl (nF w))), (ml, .inl (cI, 28, .inl (nF lg))), (mr, .inl (cI, 6, .inl (nF rw1))), (mst, .inl (cJ, 64, .inr (.inl (lF st0))))] sz [.ref mq, .int p0, .int p1, .int p2]) (QWi D (S := (Nat → Nat) × Nat × Nat × (Nat → Nat)) [(mq, .inr (6, [.ref mw, .int (nI slip), .int (nI h), .int (nI kd), .ref ms, .int (nI cnt), .ref ml, .int (nI nl), .ref mh, .int (nI hn), .ref mr, .int (nI rm), .ref mst, .long (lN lo), .ref mn, .ref mth, .long (lN lon), .ref mld, .ref mpk, .ref mcm])), (mw, .inl (cI, 3, .inl (nF w))), (ml, .inl (cI, 28, .inl (nF lg))), (mr, .inl (cI, 6, .inl (nF rw1))), (mst, .inl (cJ, 64, .inr (.inl (lF st0))))] sz (fun r u => r = aOf w slip kd num h p0 p1 p2 ∧ (∀ j, j < 6 → u.1 j < 6)) (fun u => [(mq, .inr (6, [.ref mw, .int (nI slip), .int (nI h), .int (nI kd), .ref ms, .int (nI cnt), .ref ml, .int (nI nl), .ref mh, .int (nI hn), .ref mr, .int (nI (u.2.1)), .ref mst, .long (lN (u.2.2.1)), .ref mn, .ref mth, .long (lN lon), .ref mld, .ref mpk, .ref mcm])), (mw, .inl (cI, 3, .inl (nF w))), (ml, .inl (cI, 28, .inl (nF lg))), (mr, .inl (cI, 6, .inl (nF u.1))), (mst, .inl (cJ, 64, .inr (.inl (lF u.2.2.2))))])) 0 0 (va_A [(mq, .inr (6, [.ref mw, .int (nI slip), .int (nI h), .int (nI kd), .ref ms, .int (nI cnt), .ref ml, .int (nI nl), .ref mh, .int (nI hn), .ref mr, .int (nI rm), .ref mst, .long (lN lo), .ref mn, .ref mth, .long (lN lon), .ref mld, .ref mpk, .ref mcm])), (mw, .inl (cI, 3, .inl (nF w))), (ml, .inl (cI, 28, .inl (nF lg))), (mr, .inl (cI, 6, .inl (nF rw1))), (mst, .inl (cJ, 64, .inr (.inl (lF st0))))] sz) := by
  refine met_X (cc := cX6_often) (maxL := 10) (ret := (some .int)) (by decide) rfl (Nat.le_of_ble_eq_true rfl) ?_
  intro p e s m args below meth c Q ls A hQ hAe hAt hKB hP hD hA hl
  obtain ⟨hx, hb, hr, hml, hlk, hts, hown, hnm⟩ := hAt
  have hown : s.vm.findClass RX6 = some m.cls := hown
  have hS : va_S A s.heap s.heap [] := va_S.rf
  have hl : lv_has ls 10 [(0, .ref mq), (1, .int p0), (2, .int p1), (3, .int p2)] := hl
  have kl137 := hts (.constantLong RX6 137 (lN (12))) (by decide +kernel)
  have hiX6 : ∀ w ∈ u_ws RX6 TX6 20, w ∈ wsX6_often := by decide +kernel
  have fl7 := hts (.fieldLink RX6 7 "TaughtTonguesModel" "weights" "[I") (by decide +kernel)
  have fl143 := hts (.fieldLink RX6 143 "TaughtTonguesModel" "lower" "J") (by decide +kernel)
  have fl25 := hts (.fieldLink RX6 25 "TaughtTonguesModel" "steps" "[J") (by decide +kernel)
  refine lv_iload_n hx hb dX6_often_0 rfl (lv_at hl 1 rfl) ?_
  have hPc := hP.sub (ws' := []) [] rfl
  refine r_calli hP hS (va_runS (As := [.int p0]) (rest := []) ⟨hx, hb, hml, hown, hts⟩ (m_X6_isTongue l D cI cJ p0) (va_cwS 1 hts gX6_often_X6_isTongue rfl rfl rfl (by decide +kernel) ⟨Nat.le_of_ble_eq_true rfl, Nat.le_of_ble_eq_true rfl⟩) ⟨PR.blind, fun U hU hW => ⟨rfl, hKB.warm hW, by rw [hU]; exact hPc⟩⟩ rfl rfl hl.1 rfl (lv_room (Nat.le_of_ble_eq_true rfl)) dX6_often_1 ⟨Nat.le_of_ble_eq_true rfl, Nat.le_of_ble_eq_true rfl⟩) (fun r1 H locs hw1 hP hS => ?_)
  have hw1 : r1 = bI (inR p0 0 7) := hw1
  subst hw1
  refine r_bif_eq (b := inR p0 0 7) (tgt := 14) hx hb dX6_often_4 (by decide) (fun c4 => ?_) (fun c4 => ?_)
  · skip
    refine lv_iconst (v := (-1)) hx hb dX6_often_14 (by decide) ?_
    exact w_iret hx hb hr hlk hQ hAe (rw1, rm, lo, st0) hP hD hS (by refine ⟨?_, hr6⟩; first | exact if_rf1 (by rw [c4]; rfl) | exact if_rf1 (by rw [c4, c11]; rfl)) dX6_often_15
  refine lv_iload_n hx hb dX6_often_7 rfl (lv_at hl 2 rfl) ?_
  have hPc := hP.sub (ws' := []) [] rfl
  refine r_calli hP hS (va_runS (As := [.int p1]) (rest := []) ⟨hx, hb, hml, hown, hts⟩ (m_X6_isMeaning l D cI cJ p1) (va_cwS 1 hts gX6_often_X6_isMeaning rfl rfl rfl (by decide +kernel) ⟨Nat.le_of_ble_eq_true rfl, Nat.le_of_ble_eq_true rfl⟩) ⟨PR.blind, fun U hU hW => ⟨rfl, hKB.warm hW, by rw [hU]; exact hPc⟩⟩ rfl rfl hl.1 rfl (lv_room (Nat.le_of_ble_eq_true rfl)) dX6_often_8 ⟨Nat.le_of_ble_eq_true rfl, Nat.le_of_ble_eq_true rfl⟩) (fun r2 H locs hw8 hP hS => ?_)
  have hw8 : r2 = bI (inR p1 0 2) := hw8
  subst hw8
  refine r_bif_ne (b := inR p1 0 2) (tgt := 16) hx hb dX6_often_11 (by decide) (fun c11 => ?_) (fun c11 => ?_)
  · skip
    refine lv_iload_n hx hb dX6_often_16 rfl (lv_at hl 3 rfl) ?_
    refine lv_i2l (v := p2.toInt64) hx hb dX6_often_17 rfl ?_
    refine lv_lconst (v := lN (0)) hx hb dX6_often_18 (by decide) ?_
    refine lv_ldc2 hx hb hown kl137 dX6_often_19 ?_
    have hPc := hP.sub (ws' := []) [] rfl
    refine r_calli hP hS (va_runS (As := [.long (p2.toInt64), .long (lN 0), .long (lN 12)]) (rest := []) ⟨hx, hb, hml, hown, hts⟩ (m_X6_in l D cI cJ (p2.toInt64) (lN (0)) (lN (12))) (va_cwS 3 hts gX6_often_X6_in rfl rfl rfl (by decide +kernel) ⟨Nat.le_of_ble_eq_true rfl, Nat.le_of_ble_eq_true rfl⟩) ⟨PR.blind, fun U hU hW => ⟨rfl, hKB.warm hW, by rw [hU]; exact hPc⟩⟩ rfl rfl hl.1 rfl (lv_room (Nat.le_of_ble_eq_true rfl)) dX6_often_22 ⟨Nat.le_of_ble_eq_true rfl, Nat.le_of_ble_eq_true rfl⟩) (fun r3 H locs hw22 hP hS => ?_)
    have hw22 : r3 = bI (inL (p2.toInt64) (lN (0)) (lN (12))) := hw22
    subst hw22
    refine lv_topi (fun z4 ez4 => ?_)
    obtain rfl : z4 = bI (inR p2 0 12) := ez4.trans (congrArg bI (inL_R (by decide) (by decide)))
    refine r_bif_ne (b := inR p2 0 12) (tgt := 31) hx hb dX6_often_25 (by decide) (fun c25 => ?_) (fun c25 => ?_)
    · skip
      obtain ⟨V0, -, hV0, rfl⟩ := inR_t (by decide) (by decide) (c4)
      obtain ⟨V1, -, hV1, rfl⟩ := inR_t (by decide) (by decide) (c11)
      obtain ⟨V2, -, hV2, rfl⟩ := inR_t (by decide) (by decide) (c25)
      have hwM := hw V1 (by omega)
      refine lv_aload_n hx hb dX6_often_31 rfl (lv_at hl 0 rfl) ?_
      refine va_get (D := D) (ci := 6) (v := .ref mw) (C := RX6) (T := TX6) (N := 20) hx hb hts hiX6 hown hKB.1 hP 0 rfl rfl 0 (by decide) fl7 (fun _ h9 => h9) rfl dX6_often_32 ?_
      refine lv_iload_n hx hb dX6_often_35 rfl (lv_at hl 2 rfl) ?_
      refine r_iald (i := V1) (v := nI (w V1)) hx hb hKB.1 hP 1 0 rfl rfl (by omega) (by decide) (rfl) dX6_often_36 ?_
      refine lv_istore (lv' := [(4, .int (nI (w V1))), (0, .ref mq), (1, .int (nI V0)), (2, .int (nI V1)), (3, .int (nI V2))]) hx hb dX6_often_37 hl (by decide) rfl (fun ls hl => ?_)
      refine lv_bipush (v := (-6)) hx hb dX6_often_39 (by decide) ?_
      refine lv_istore (lv' := [(5, .int ((-6))), (4, .int (nI (w V1))), (0, .ref mq), (1, .int (nI V0)), (2, .int (nI V1)), (3, .int (nI V2))]) hx hb dX6_often_41 hl (by decide) rfl (fun ls hl => ?_)
      refine lv_iconst (v := nI (1)) hx hb dX6_often_43 (by decide) ?_
      refine lv_istore (lv' := [(6, .int (nI 1)), (5, .int ((-6))), (4, .int (nI (w V1))), (0, .ref mq), (1, .int (nI V0)), (2, .int (nI V1)), (3, .int (nI V2))]) hx hb dX6_often_44 hl (by decide) rfl (fun ls hl => ?_)
      have L46 : ∀ (n : Nat) (k : Nat) (lst : Int32) (w1 : Nat → Nat) (rm3 : Nat) (lo3 : Nat) (rw3 : Nat → Nat) (st3 : Nat → Nat) (H : Heap) (locs : List Loc) (ls : Array Slot), 5 - k < n → (1 ≤ k ∧ k ≤ 5) → (ofS (ofL w slip kd num h V0 V1 V2) k (okO w slip kd num h V0 V1 V2) lst) → (∀ j, j ≠ V1 → w1 j = w j) → (∀ j, j < 6 → rw3 j < 6) → va_P D vwCl [(mq, .inr (6, [.ref mw, .int (nI slip), .int (nI h), .int (nI kd), .ref ms, .int (nI cnt), .ref ml, .int (nI nl), .ref mh, .int (nI hn), .ref mr, .int (nI rm3), .ref mst, .long (lN lo3), .ref mn, .ref mth, .long (lN lon), .ref mld, .ref mpk, .ref mcm])), (mw, .inl (cI, 3, .inl (nF w1))), (ml, .inl (cI, 28, .inl (nF lg))), (mr, .inl (cI, 6, .inl (nF rw3))), (mst, .inl (cJ, 64, .inr (.inl (lF st3))))] H → va_D A [(mq, .inr (6, [.ref mw, .int (nI slip), .int (nI h), .int (nI kd), .ref ms, .int (nI cnt), .ref ml, .int (nI nl), .ref mh, .int (nI hn), .ref mr, .int (nI rm3), .ref mst, .long (lN lo3), .ref mn, .ref mth, .long (lN lon), .ref mld, .ref mpk, .ref mcm])), (mw, .inl (cI, 3, .inl (nF w1))), (ml, .inl (cI, 28, .inl (nF lg))), (mr, .inl (cI, 6, .inl (nF rw3))), (mst, .inl (cJ, 64, .inr (.inl (lF st3))))] → va_S A s.heap H locs → lv_has ls 10 [(6, .int (nI k)), (5, .int lst), (4, .int (nI (w V1))), (0, .ref mq), (1, .int (nI V0)), (2, .int (nI V1)), (3, .int (nI V2))] → W p l e ({ frames := 4, cells := 0, slots := 0, locals := 105 }) s m args below meth c H locs 0 0 Q (F0 m 46 ls []) := by
        intro n
        induction n with
        | zero => intro k lst w1 rm3 lo3 rw3 st3 H locs ls hm; exact absurd hm (Nat.not_lt_zero _)
        | succ n ih46 =>
          intro k lst w1 rm3 lo3 rw3 st3 H locs ls hm hk hst hw1 hr3 hP hD hS hl
          refine lv_iload hx hb dX6_often_46 (lv_at hl 0 rfl) ?_
          refine lv_iconst (v := nI (4)) hx hb dX6_often_48 (by decide) ?_
          refine r_icmp_gt (a := k) (b := 4) (tgt := 154) hx hb dX6_often_49 (by decide) (by omega) (by omega)  (fun c49 => ?_) (fun c49 => ?_)
          · skip
            refine lv_aload_n hx hb dX6_often_154 rfl (lv_at hl 3 rfl) ?_
            refine va_get (D := D) (ci := 6) (v := .ref mw) (C := RX6) (T := TX6) (N := 20) hx hb hts hiX6 hown hKB.1 hP 0 rfl rfl 0 (by decide) fl7 (fun _ h9 => h9) rfl dX6_often_155 ?_
            refine lv_iload_n hx hb dX6_often_158 rfl (lv_at hl 5 rfl) ?_
            refine lv_iload hx hb dX6_often_159 (lv_at hl 2 rfl) ?_
            refine r_iastN (i := V1) hx hb hKB.1 hP hD hS 1 0 rfl rfl (by omega) (by decide) dX6_often_161 (fun H locs hP hD hS => ?_)
            have hP : va_P D vwCl [(mq, .inr (6, [.ref mw, .int (nI slip), .int (nI h), .int (nI kd), .ref ms, .int (nI cnt), .ref ml, .int (nI nl), .ref mh, .int (nI hn), .ref mr, .int (nI rm3), .ref mst, .long (lN lo3), .ref mn, .ref mth, .long (lN lon), .ref mld, .ref mpk, .ref mcm])), (mw, .inl (cI, 3, .inl (nF (nu w1 V1 (w V1))))), (ml, .inl (cI, 28, .inl (nF lg))), (mr, .inl (cI, 6, .inl (nF rw3))), (mst, .inl (cJ, 64, .inr (.inl (lF st3))))] _ := hP
            have hD : va_D A [(mq, .inr (6, [.ref mw, .int (nI slip), .int (nI h), .int (nI kd), .ref ms, .int (nI cnt), .ref ml, .int (nI nl), .ref mh, .int (nI hn), .ref mr, .int (nI rm3), .ref mst, .long (lN lo3), .ref mn, .ref mth, .long (lN lon), .ref mld, .ref mpk, .ref mcm])), (mw, .inl (cI, 3, .inl (nF (nu w1 V1 (w V1))))), (ml, .inl (cI, 28, .inl (nF lg))), (mr, .inl (cI, 6, .inl (nF rw3))), (mst, .inl (cJ, 64, .inr (.inl (lF st3))))] := hD
            have hw5 : nF (nu w1 V1 (w V1)) = nF w := congrArg nF (nu_back hw1)
            rw [hw5] at hP hD
            refine lv_iload hx hb dX6_often_162 (lv_at hl 1 rfl) ?_
            exact w_iret hx hb hr hlk hQ hAe (rw3, rm3, lo3, st3) hP hD hS (by refine ⟨?_, hr3⟩; rw [aOf, if_rf0 (by rw [c4, c11]; rfl) c25, tN_n (show V0 < 2 ^ 31 by omega), tN_n (show V1 < 2 ^ 31 by omega), tN_n (show V2 < 2 ^ 31 by omega)]; first | exact ofS_e1 hst c49 hk.2 | exact ofS_e3 hst (Int32.not_lt.mpr c54)) dX6_often_164
          refine lv_iload hx hb dX6_often_52 (lv_at hl 1 rfl) ?_
          refine lv_if_ge (tgt := 154) hx hb dX6_often_54 (by decide) (fun c54 => ?_) (fun c54 => ?_)
          · skip
            refine lv_aload_n hx hb dX6_often_154 rfl (lv_at hl 3 rfl) ?_
            refine va_get (D := D) (ci := 6) (v := .ref mw) (C := RX6) (T := TX6) (N := 20) hx hb hts hiX6 hown hKB.1 hP 0 rfl rfl 0 (by decide) fl7 (fun _ h9 => h9) rfl dX6_often_155 ?_
            refine lv_iload_n hx hb dX6_often_158 rfl (lv_at hl 5 rfl) ?_
            refine lv_iload hx hb dX6_often_159 (lv_at hl 2 rfl) ?_
            refine r_iastN (i := V1) hx hb hKB.1 hP hD hS 1 0 rfl rfl (by omega) (by decide) dX6_often_161 (fun H locs hP hD hS => ?_)
            have hP : va_P D vwCl [(mq, .inr (6, [.ref mw, .int (nI slip), .int (nI h), .int (nI kd), .ref ms, .int (nI cnt), .ref ml, .int (nI nl), .ref mh, .int (nI hn), .ref mr, .int (nI rm3), .ref mst, .long (lN lo3), .ref mn, .ref mth, .long (lN lon), .ref mld, .ref mpk, .ref mcm])), (mw, .inl (cI, 3, .inl (nF (nu w1 V1 (w V1))))), (ml, .inl (cI, 28, .inl (nF lg))), (mr, .inl (cI, 6, .inl (nF rw3))), (mst, .inl (cJ, 64, .inr (.inl (lF st3))))] _ := hP
            have hD : va_D A [(mq, .inr (6, [.ref mw, .int (nI slip), .int (nI h), .int (nI kd), .ref ms, .int (nI cnt), .ref ml, .int (nI nl), .ref mh, .int (nI hn), .ref mr, .int (nI rm3), .ref mst, .long (lN lo3), .ref mn, .ref mth, .long (lN lon), .ref mld, .ref mpk, .ref mcm])), (mw, .inl (cI, 3, .inl (nF (nu w1 V1 (w V1))))), (ml, .inl (cI, 28, .inl (nF lg))), (mr, .inl (cI, 6, .inl (nF rw3))), (mst, .inl (cJ, 64, .inr (.inl (lF st3))))] := hD
            have hw6 : nF (nu w1 V1 (w V1)) = nF w := congrArg nF (nu_back hw1)
            rw [hw6] at hP hD
            refine lv_iload hx hb dX6_often_162 (lv_at hl 1 rfl) ?_
            exact w_iret hx hb hr hlk hQ hAe (rw3, rm3, lo3, st3) hP hD hS (by refine ⟨?_, hr3⟩; rw [aOf, if_rf0 (by rw [c4, c11]; rfl) c25, tN_n (show V0 < 2 ^ 31 by omega), tN_n (show V1 < 2 ^ 31 by omega), tN_n (show V2 < 2 ^ 31 by omega)]; first | exact ofS_e1 hst c49 hk.2 | exact ofS_e3 hst (Int32.not_lt.mpr c54)) dX6_often_164
          have hwn : ∀ j, j < 3 → nu w V1 k j ≤ 4 := fun j hj => by by_cases e : j = V1 <;> simp [nu, e] <;> first | omega | exact hw j hj
          refine lv_aload_n hx hb dX6_often_57 rfl (lv_at hl 3 rfl) ?_
          refine va_get (D := D) (ci := 6) (v := .ref mw) (C := RX6) (T := TX6) (N := 20) hx hb hts hiX6 hown hKB.1 hP 0 rfl rfl 0 (by decide) fl7 (fun _ h9 => h9) rfl dX6_often_58 ?_
          refine lv_iload_n hx hb dX6_often_61 rfl (lv_at hl 5 rfl) ?_
          refine lv_iload hx hb dX6_often_62 (lv_at hl 0 rfl) ?_
          refine r_iastN (i := V1) hx hb hKB.1 hP hD hS 1 0 rfl rfl (by omega) (by decide) dX6_often_64 (fun H locs hP hD hS => ?_)
          have hP : va_P D vwCl [(mq, .inr (6, [.ref mw, .int (nI slip), .int (nI h), .int (nI kd), .ref ms, .int (nI cnt), .ref ml, .int (nI nl), .ref mh, .int (nI hn), .ref mr, .int (nI rm3), .ref mst, .long (lN lo3), .ref mn, .ref mth, .long (lN lon), .ref mld, .ref mpk, .ref mcm])), (mw, .inl (cI, 3, .inl (nF (nu w1 V1 k)))), (ml, .inl (cI, 28, .inl (nF lg))), (mr, .inl (cI, 6, .inl (nF rw3))), (mst, .inl (cJ, 64, .inr (.inl (lF st3))))] _ := hP
          have hD : va_D A [(mq, .inr (6, [.ref mw, .int (nI slip), .int (nI h), .int (nI kd), .ref ms, .int (nI cnt), .ref ml, .int (nI nl), .ref mh, .int (nI hn), .ref mr, .int (nI rm3), .ref mst, .long (lN lo3), .ref mn, .ref mth, .long (lN lon), .ref mld, .ref mpk, .ref mcm])), (mw, .inl (cI, 3, .inl (nF (nu w1 V1 k)))), (ml, .inl (cI, 28, .inl (nF lg))), (mr, .inl (cI, 6, .inl (nF rw3))), (mst, .inl (cJ, 64, .inr (.inl (lF st3))))] := hD
          have hw7 : nF (nu w1 V1 k) = nF (nu w V1 k) := congrArg nF (nu_re hw1)
          rw [hw7] at hP hD
          refine lv_aload_n hx hb dX6_often_65 rfl (lv_at hl 3 rfl) ?_
          refine lv_iconst (v := nI (0)) hx hb dX6_often_66 (by decide) ?_
          refine lv_iconst (v := nI (0)) hx hb dX6_often_67 (by decide) ?_
          have hPc := hP.sub (ws' := [(mq, .inr (6, [.ref mw, .int (nI slip), .int (nI h), .int (nI kd), .ref ms, .int (nI cnt), .ref ml, .int (nI nl), .ref mh, .int (nI hn), .ref mr, .int (nI rm3), .ref mst, .long (lN lo3), .ref mn, .ref mth, .long (lN lon), .ref mld, .ref mpk, .ref mcm])), (mw, .inl (cI, 3, .inl (nF (nu w V1 k)))), (ml, .inl (cI, 28, .inl (nF lg))), (mr, .inl (cI, 6, .inl (nF rw3))), (mst, .inl (cJ, 64, .inr (.inl (lF st3))))]) [0, 1, 2, 3, 4] rfl
          have hDc := hD.sub (ws' := [(mq, .inr (6, [.ref mw, .int (nI slip), .int (nI h), .int (nI kd), .ref ms, .int (nI cnt), .ref ml, .int (nI nl), .ref mh, .int (nI hn), .ref mr, .int (nI rm3), .ref mst, .long (lN lo3), .ref mn, .ref mth, .long (lN lon), .ref mld, .ref mpk, .ref mcm])), (mw, .inl (cI, 3, .inl (nF (nu w V1 k)))), (ml, .inl (cI, 28, .inl (nF lg))), (mr, .inl (cI, 6, .inl (nF rw3))), (mst, .inl (cJ, 64, .inr (.inl (lF st3))))]) [0, 1, 2, 3, 4] (by decide) rfl
          have hFc := va_free (wc := [(mq, .inr (6, [.ref mw, .int (nI slip), .int (nI h), .int (nI kd), .ref ms, .int (nI cnt), .ref ml, .int (nI nl), .ref mh, .int (nI hn), .ref mr, .int (nI rm3), .ref mst, .long (lN lo3), .ref mn, .ref mth, .long (lN lon), .ref mld, .ref mpk, .ref mcm])), (mw, .inl (cI, 3, .inl (nF (nu w V1 k)))), (ml, .inl (cI, 28, .inl (nF lg))), (mr, .inl (cI, 6, .inl (nF rw3))), (mst, .inl (cJ, 64, .inr (.inl (lF st3))))]) hD hS hA [0, 1, 2, 3, 4] rfl
          refine w_callv (wc := [(mq, .inr (6, [.ref mw, .int (nI slip), .int (nI h), .int (nI kd), .ref ms, .int (nI cnt), .ref ml, .int (nI nl), .ref mh, .int (nI hn), .ref mr, .int (nI rm3), .ref mst, .long (lN lo3), .ref mn, .ref mth, .long (lN lon), .ref mld, .ref mpk, .ref mcm])), (mw, .inl (cI, 3, .inl (nF (nu w V1 k)))), (ml, .inl (cI, 28, .inl (nF lg))), (mr, .inl (cI, 6, .inl (nF rw3))), (mst, .inl (cJ, 64, .inr (.inl (lF st3))))]) (wr := []) hP hD hS [0, 1, 2, 3, 4] [] rfl rfl (by decide) (by decide) hFc (va_runV (As := [.int (nI 0), .int (nI 0)]) (rest := []) ⟨hx, hb, hml, hown, hts⟩ (m_X6_findSteps l D cI cJ _ mq mw slip h kd ms cnt ml nl mh hn mr rm3 mst lo3 mn mth lon mld mpk mcm (nu w V1 k) lg num rw3 st3 0 0 (by omega) (by omega) (by assumption) (hwn) (by assumption) (by assumption) (by assumption) (by assumption) (by assumption) (hr3) (by assumption)) (cwV 2 hts gX6_often_X6_findSteps rfl rfl rfl (by decide +kernel) ⟨Nat.le_of_ble_eq_true rfl, Nat.le_of_ble_eq_true rfl⟩) ⟨PX.blind, va_recv hKB.1 hP (ci := 6) (q0 := 0) rfl rfl, fun U hU hW => ⟨rfl, by rw [hU], hKB.warm hW, by rw [hU]; exact hPc, hDc.weaken (fun _ _ _ _ => trivial)⟩⟩ rfl rfl hl.1 rfl (lv_room (Nat.le_of_ble_eq_true rfl)) dX6_often_68 ⟨Nat.le_of_ble_eq_true rfl, Nat.le_of_ble_eq_true rfl⟩) (fun u68 H locs hw68 hP hD hS => ?_)
          have hP : va_P D vwCl [(mq, .inr (6, [.ref mw, .int (nI slip), .int (nI h), .int (nI kd), .ref ms, .int (nI cnt), .ref ml, .int (nI nl), .ref mh, .int (nI hn), .ref mr, .int (nI h), .ref mst, .long (lN (lowN (nu w V1 k) h)), .ref mn, .ref mth, .long (lN lon), .ref mld, .ref mpk, .ref mcm])), (mw, .inl (cI, 3, .inl (nF (nu w V1 k)))), (ml, .inl (cI, 28, .inl (nF lg))), (mr, .inl (cI, 6, .inl (nF u68))), (mst, .inl (cJ, 64, .inr (.inl (lF (fun i => rwF (nu w V1 k) slip kd num h 0 (i / 8) 0 (i % 8))))))] _ := hP
          have hD : va_D A [(mq, .inr (6, [.ref mw, .int (nI slip), .int (nI h), .int (nI kd), .ref ms, .int (nI cnt), .ref ml, .int (nI nl), .ref mh, .int (nI hn), .ref mr, .int (nI h), .ref mst, .long (lN (lowN (nu w V1 k) h)), .ref mn, .ref mth, .long (lN lon), .ref mld, .ref mpk, .ref mcm])), (mw, .inl (cI, 3, .inl (nF (nu w V1 k)))), (ml, .inl (cI, 28, .inl (nF lg))), (mr, .inl (cI, 6, .inl (nF u68))), (mst, .inl (cJ, 64, .inr (.inl (lF (fun i => rwF (nu w V1 k) slip kd num h 0 (i / 8) 0 (i % 8))))))] := hD
          have hw68 : (∀ j, j < 6 → u68 j < 6) := hw68
          have hE68 := hw68
          have hP : va_P D vwCl [(mq, .inr (6, [.ref mw, .int (nI slip), .int (nI h), .int (nI kd), .ref ms, .int (nI cnt), .ref ml, .int (nI nl), .ref mh, .int (nI hn), .ref mr, .int (nI h), .ref mst, .long (lN (lowN (nu w V1 k) h)), .ref mn, .ref mth, .long (lN lon), .ref mld, .ref mpk, .ref mcm])), (mw, .inl (cI, 3, .inl (nF (nu w V1 k)))), (ml, .inl (cI, 28, .inl (nF lg))), (mr, .inl (cI, 6, .inl (nF u68))), (mst, .inl (cJ, 64, .inr (.inl (lF (fun i => rwF (nu w V1 k) slip kd num h 0 (i / 8) 0 (i % 8))))))] _ := hP
          have hD : va_D A [(mq, .inr (6, [.ref mw, .int (nI slip), .int (nI h), .int (nI kd), .ref ms, .int (nI cnt), .ref ml, .int (nI nl), .ref mh, .int (nI hn), .ref mr, .int (nI h), .ref mst, .long (lN (lowN (nu w V1 k) h)), .ref mn, .ref mth, .long (lN lon), .ref mld, .ref mpk, .ref mcm])), (mw, .inl (cI, 3, .inl (nF (nu w V1 k)))), (ml, .inl (cI, 28, .inl (nF lg))), (mr, .inl (cI, 6, .inl (nF u68))), (mst, .inl (cJ, 64, .inr (.inl (lF (fun i => rwF (nu w V1 k) slip kd num h 0 (i / 8) 0 (i % 8))))))] := hD
          have hr4 := hE68
          refine lv_lconst (v := lN (0)) hx hb dX6_often_71 (by decide) ?_
          refine lv_lstore (lv' := [(7, .long (lN 0)), (6, .int (nI k)), (5, .int lst), (4, .int (nI (w V1))), (0, .ref mq), (1, .int (nI V0)), (2, .int (nI V1)), (3, .int (nI V2))]) hx hb dX6_often_72 hl (by decide) rfl (fun ls hl => ?_)
          refine lv_iconst (v := nI (0)) hx hb dX6_often_74 (by decide) ?_
          refine lv_istore (lv' := [(9, .int (nI 0)), (7, .long (lN 0)), (6, .int (nI k)), (5, .int lst), (4, .int (nI (w V1))), (0, .ref mq), (1, .int (nI V0)), (2, .int (nI V1)), (3, .int (nI V2))]) hx hb dX6_often_75 hl (by decide) rfl (fun ls hl => ?_)
          have L77 : ∀ (n : Nat) (t : Nat) (H : Heap) (locs : List Loc) (ls : Array Slot), 8 - t < n → (t ≤ 8) → va_P D vwCl [(mq, .inr (6, [.ref mw, .int (nI slip), .int (nI h), .int (nI kd), .ref ms, .int (nI cnt), .ref ml, .int (nI nl), .ref mh, .int (nI hn), .ref mr, .int (nI h), .ref mst, .long (lN (lowN (nu w V1 k) h)), .ref mn, .ref mth, .long (lN lon), .ref mld, .ref mpk, .ref mcm])), (mw, .inl (cI, 3, .inl (nF (nu w V1 k)))), (ml, .inl (cI, 28, .inl (nF lg))), (mr, .inl (cI, 6, .inl (nF u68))), (mst, .inl (cJ, 64, .inr (.inl (lF (fun i => rwF (nu w V1 k) slip kd num h 0 (i / 8) 0 (i % 8))))))] H → va_D A [(mq, .inr (6, [.ref mw, .int (nI slip), .int (nI h), .int (nI kd), .ref ms, .int (nI cnt), .ref ml, .int (nI nl), .ref mh, .int (nI hn), .ref mr, .int (nI h), .ref mst, .long (lN (lowN (nu w V1 k) h)), .ref mn, .ref mth, .long (lN lon), .ref mld, .ref mpk, .ref mcm])), (mw, .inl (cI, 3, .inl (nF (nu w V1 k)))), (ml, .inl (cI, 28, .inl (nF lg))), (mr, .inl (cI, 6, .inl (nF u68))), (mst, .inl (cJ, 64, .inr (.inl (lF (fun i => rwF (nu w V1 k) slip kd num h 0 (i / 8) 0 (i % 8))))))] → va_S A s.heap H locs → lv_has ls 10 [(9, .int (nI t)), (7, .long (lN (oF (rwF (nu w V1 k) slip kd num h V0 V0 0) V1 (fo V0 V1) t))), (6, .int (nI k)), (5, .int lst), (4, .int (nI (w V1))), (0, .ref mq), (1, .int (nI V0)), (2, .int (nI V1)), (3, .int (nI V2))] → W p l e ({ frames := 4, cells := 0, slots := 0, locals := 105 }) s m args below meth c H locs 0 0 Q (F0 m 77 ls []) := by
            intro n
            induction n with
            | zero => intro t H locs ls hm; exact absurd hm (Nat.not_lt_zero _)
            | succ n ih77 =>
              intro t H locs ls hm ht hP hD hS hl
              refine lv_iload hx hb dX6_often_77 (lv_at hl 0 rfl) ?_
              refine lv_bipush (v := nI (8)) hx hb dX6_often_79 (by decide) ?_
              refine r_icmp_ge (a := t) (b := 8) (tgt := 122) hx hb dX6_often_81 (by decide) (by omega) (by omega)  (fun c81 => ?_) (fun c81 => ?_)
              · skip
                obtain rfl : 8 = t := by omega
                have hb1 := Nat.le_trans (oF_le (g := rwF (nu w V1 k) slip kd num h V0 V0 0) (m := V1) (f := fo V0 V1) 8) (Nat.le_of_eq (rwF_tot hh.2 hsl))
                have hb2 := wh_lt hwn (show h * 1 ≤ 8 by omega)
                have hb3 : V2 * wh (nu w V1 k) h 1 ≤ 12 * 184884258895036416 := Nat.mul_le_mul hV2 hb2
                refine lv_lload hx hb dX6_often_122 (lv_at hl 1 rfl) ?_
                refine lv_ldc2 hx hb hown kl137 dX6_often_124 ?_
                refine r_lmul (a := oF (rwF (nu w V1 k) slip kd num h V0 V0 0) V1 (fo V0 V1) 8) (b := 12) hx hb dX6_often_127  ?_
                refine lv_iload_n hx hb dX6_often_128 rfl (lv_at hl 8 rfl) ?_
                refine r_i2l (a := V2) hx hb dX6_often_129 (by omega) ?_
                refine lv_aload_n hx hb dX6_often_130 rfl (lv_at hl 5 rfl) ?_
                refine va_get (D := D) (ci := 6) (v := .long (lN (lowN (nu w V1 k) h))) (C := RX6) (T := TX6) (N := 20) hx hb hts hiX6 hown hKB.1 hP 0 rfl rfl 13 (by decide) fl143 (fun _ h9 => h9) rfl dX6_often_131 ?_
                refine lv_topl (fun z9 ez9 => ?_)
                obtain rfl : z9 = lN (wh (nu w V1 k) h 1) := ez9.trans (congrArg lN (lowN_wh _ _))
                refine r_lmul (a := V2) (b := wh (nu w V1 k) h 1) hx hb dX6_often_134  ?_
                refine r_lcmp_lt (x := lN ((oF (rwF (nu w V1 k) slip kd num h V0 V0 0) V1 (fo V0 V1) 8) * 12)) (y := lN (V2 * (wh (nu w V1 k) h 1))) (tgt := 144) hx hb dX6_often_135 dX6_often_136 (by decide) (fun c135 => ?_) (fun c135 => ?_)
                · skip
                  refine lv_bipush (v := (-6)) hx hb dX6_often_144 (by decide) ?_
                  refine lv_istore (lv' := [(5, .int ((-6))), (9, .int (nI 8)), (7, .long (lN (oF (rwF (nu w V1 k) slip kd num h V0 V0 0) V1 (fo V0 V1) 8))), (6, .int (nI k)), (4, .int (nI (w V1))), (0, .ref mq), (1, .int (nI V0)), (2, .int (nI V1)), (3, .int (nI V2))]) hx hb dX6_often_146 hl (by decide) rfl (fun ls hl => ?_)
                  refine lv_iinc (v := nI (k + 1)) (lv' := [(6, .int (nI (k + 1))), (5, .int ((-6))), (9, .int (nI 8)), (7, .long (lN (oF (rwF (nu w V1 k) slip kd num h V0 V0 0) V1 (fo V0 V1) 8))), (4, .int (nI (w V1))), (0, .ref mq), (1, .int (nI V0)), (2, .int (nI V1)), (3, .int (nI V2))]) hx hb dX6_often_148 hl (k := 3) rfl (n_inc _ 1) (by decide) rfl (fun ls hl => ?_)
                  refine lv_goto (tgt := 46) hx hb dX6_often_151 (by decide) ?_
                  exact ih46 (k + 1) ((-6)) (nu w V1 k) h (lowN (nu w V1 k) h) u68 (fun i => rwF (nu w V1 k) slip kd num h 0 (i / 8) 0 (i % 8)) _ _ _ (by omega) (by omega) (by first | exact ofS_n2 hst (Int32.not_le.mp c54) c49 (of_n hb1 hb2 hb3 c135) | exact ofS_y2 hst (Int32.not_le.mp c54) c49 (of_y hb1 hb2 hb3 c135)) (fun j hj => nu_n hj) (hr4) hP hD hS (lv_sub hl [0, 1, 4, 5, 6, 7, 8] rfl)
                refine lv_iload hx hb dX6_often_139 (lv_at hl 2 rfl) ?_
                refine lv_goto (tgt := 146) hx hb dX6_often_141 (by decide) ?_
                refine lv_istore (lv' := [(5, .int (nI k)), (9, .int (nI 8)), (7, .long (lN (oF (rwF (nu w V1 k) slip kd num h V0 V0 0) V1 (fo V0 V1) 8))), (6, .int (nI k)), (4, .int (nI (w V1))), (0, .ref mq), (1, .int (nI V0)), (2, .int (nI V1)), (3, .int (nI V2))]) hx hb dX6_often_146 hl (by decide) rfl (fun ls hl => ?_)
                refine lv_iinc (v := nI (k + 1)) (lv' := [(6, .int (nI (k + 1))), (5, .int (nI k)), (9, .int (nI 8)), (7, .long (lN (oF (rwF (nu w V1 k) slip kd num h V0 V0 0) V1 (fo V0 V1) 8))), (4, .int (nI (w V1))), (0, .ref mq), (1, .int (nI V0)), (2, .int (nI V1)), (3, .int (nI V2))]) hx hb dX6_often_148 hl (k := 3) rfl (n_inc _ 1) (by decide) rfl (fun ls hl => ?_)
                refine lv_goto (tgt := 46) hx hb dX6_often_151 (by decide) ?_
                exact ih46 (k + 1) (nI (k)) (nu w V1 k) h (lowN (nu w V1 k) h) u68 (fun i => rwF (nu w V1 k) slip kd num h 0 (i / 8) 0 (i % 8)) _ _ _ (by omega) (by omega) (by first | exact ofS_n2 hst (Int32.not_le.mp c54) c49 (of_n hb1 hb2 hb3 c135) | exact ofS_y2 hst (Int32.not_le.mp c54) c49 (of_y hb1 hb2 hb3 c135)) (fun j hj => nu_n hj) (hr4) hP hD hS (lv_sub hl [0, 1, 4, 5, 6, 7, 8] rfl)
              refine lv_lload hx hb dX6_often_84 (lv_at hl 1 rfl) ?_
              refine lv_iload hx hb dX6_often_86 (lv_at hl 0 rfl) ?_
              refine lv_iload_n hx hb dX6_often_88 rfl (lv_at hl 6 rfl) ?_
              refine r_ixor (a := t) (b := V0) hx hb dX6_often_89  ?_
              refine lv_iload_n hx hb dX6_often_90 rfl (lv_at hl 7 rfl) ?_
              refine r_ishr (a := t ^^^ V0) (b := V1) hx hb dX6_often_91 (Nat.lt_trans (Nat.xor_lt_two_pow (n := 3) (show t < 2 ^ 3 by omega) (show V0 < 2 ^ 3 by omega)) (by decide)) (by omega) ?_
              refine lv_iconst (v := nI (1)) hx hb dX6_often_92 (by decide) ?_
              refine r_iand (a := (t ^^^ V0) >>> V1) (b := 1) hx hb dX6_often_93  ?_
              refine r_if_ne (a := ((t ^^^ V0) >>> V1) &&& 1) (tgt := 112) hx hb dX6_often_94 (by decide) (Nat.lt_of_le_of_lt Nat.and_le_right (by decide)) (fun c94 => ?_) (fun c94 => ?_)
              · skip
                refine lv_lconst (v := lN (0)) hx hb dX6_often_112 (by decide) ?_
                refine r_ladd (a := oF (rwF (nu w V1 k) slip kd num h V0 V0 0) V1 (fo V0 V1) t) (b := 0) hx hb dX6_often_113  ?_
                refine lv_lstore (lv' := [(7, .long (lN ((oF (rwF (nu w V1 k) slip kd num h V0 V0 0) V1 (fo V0 V1) t) + 0))), (9, .int (nI t)), (6, .int (nI k)), (5, .int lst), (4, .int (nI (w V1))), (0, .ref mq), (1, .int (nI V0)), (2, .int (nI V1)), (3, .int (nI V2))]) hx hb dX6_often_114 hl (by decide) rfl (fun ls hl => ?_)
                have hl := lv_ch hl 0 (v2 := .long (lN (oF (rwF (nu w V1 k) slip kd num h V0 V0 0) V1 (fo V0 V1) (t + 1)))) (l2 := [(7, .long (lN (oF (rwF (nu w V1 k) slip kd num h V0 V0 0) V1 (fo V0 V1) (t + 1)))), (9, .int (nI t)), (6, .int (nI k)), (5, .int lst), (4, .int (nI (w V1))), (0, .ref mq), (1, .int (nI V0)), (2, .int (nI V1)), (3, .int (nI V2))]) rfl (congrArg Value.long (congrArg lN (oF_n (fun q => c94 ((xr_fo t c81 V0 (by omega) V1 (by omega)).mpr q))))) rfl
                refine lv_iinc (v := nI (t + 1)) (lv' := [(9, .int (nI (t + 1))), (7, .long (lN (oF (rwF (nu w V1 k) slip kd num h V0 V0 0) V1 (fo V0 V1) (t + 1)))), (6, .int (nI k)), (5, .int lst), (4, .int (nI (w V1))), (0, .ref mq), (1, .int (nI V0)), (2, .int (nI V1)), (3, .int (nI V2))]) hx hb dX6_often_116 hl (k := 1) rfl (n_inc _ 1) (by decide) rfl (fun ls hl => ?_)
                refine lv_goto (tgt := 77) hx hb dX6_often_119 (by decide) ?_
                exact ih77 (t + 1) _ _ _ (by omega) (by omega) hP hD hS hl
              refine lv_aload_n hx hb dX6_often_97 rfl (lv_at hl 5 rfl) ?_
              refine va_get (D := D) (ci := 6) (v := .ref mst) (C := RX6) (T := TX6) (N := 20) hx hb hts hiX6 hown hKB.1 hP 0 rfl rfl 12 (by decide) fl25 (fun _ h9 => h9) rfl dX6_often_98 ?_
              refine lv_bipush (v := nI (8)) hx hb dX6_often_101 (by decide) ?_
              refine lv_iload_n hx hb dX6_often_103 rfl (lv_at hl 6 rfl) ?_
              refine r_imul (a := 8) (b := V0) hx hb dX6_often_104  ?_
              refine lv_iload hx hb dX6_often_105 (lv_at hl 0 rfl) ?_
              refine r_iadd (a := 8 * V0) (b := t) hx hb dX6_often_107  ?_
              refine r_lald (i := (8 * V0) + t) (v := lN ((fun i => rwF (nu w V1 k) slip kd num h 0 (i / 8) 0 (i % 8)) ((8 * V0) + t))) hx hb hKB.1 hP 4 1 rfl rfl (by omega) (by decide) (rfl) dX6_often_108 ?_
              refine lv_topl (fun z10 ez10 => ?_)
              obtain rfl : z10 = lN (rwF (nu w V1 k) slip kd num h V0 V0 0 t) := ez10.trans (congrArg lN ((at8 (g := fun u t => rwF (nu w V1 k) slip kd num h 0 u 0 t) (u := V0) c81).trans (rwF_b0 hh.2)))
              refine lv_goto (tgt := 113) hx hb dX6_often_109 (by decide) ?_
              refine r_ladd (a := oF (rwF (nu w V1 k) slip kd num h V0 V0 0) V1 (fo V0 V1) t) (b := rwF (nu w V1 k) slip kd num h V0 V0 0 t) hx hb dX6_often_113  ?_
              refine lv_lstore (lv' := [(7, .long (lN ((oF (rwF (nu w V1 k) slip kd num h V0 V0 0) V1 (fo V0 V1) t) + (rwF (nu w V1 k) slip kd num h V0 V0 0 t)))), (9, .int (nI t)), (6, .int (nI k)), (5, .int lst), (4, .int (nI (w V1))), (0, .ref mq), (1, .int (nI V0)), (2, .int (nI V1)), (3, .int (nI V2))]) hx hb dX6_often_114 hl (by decide) rfl (fun ls hl => ?_)
              have hl := lv_ch hl 0 (v2 := .long (lN (oF (rwF (nu w V1 k) slip kd num h V0 V0 0) V1 (fo V0 V1) (t + 1)))) (l2 := [(7, .long (lN (oF (rwF (nu w V1 k) slip kd num h V0 V0 0) V1 (fo V0 V1) (t + 1)))), (9, .int (nI t)), (6, .int (nI k)), (5, .int lst), (4, .int (nI (w V1))), (0, .ref mq), (1, .int (nI V0)), (2, .int (nI V1)), (3, .int (nI V2))]) rfl (congrArg Value.long (congrArg lN (oF_y ((xr_fo t c81 V0 (by omega) V1 (by omega)).mp c94)))) rfl
              refine lv_iinc (v := nI (t + 1)) (lv' := [(9, .int (nI (t + 1))), (7, .long (lN (oF (rwF (nu w V1 k) slip kd num h V0 V0 0) V1 (fo V0 V1) (t + 1)))), (6, .int (nI k)), (5, .int lst), (4, .int (nI (w V1))), (0, .ref mq), (1, .int (nI V0)), (2, .int (nI V1)), (3, .int (nI V2))]) hx hb dX6_often_116 hl (k := 1) rfl (n_inc _ 1) (by decide) rfl (fun ls hl => ?_)
              refine lv_goto (tgt := 77) hx hb dX6_often_119 (by decide) ?_
              exact ih77 (t + 1) _ _ _ (by omega) (by omega) hP hD hS hl
          exact L77 (8 - 0 + 1) 0 _ _ _ (Nat.lt_succ_self _) (by omega) hP hD hS hl
      exact L46 (5 - 1 + 1) 1 ((-6)) w rm lo rw1 st0 _ _ _ (Nat.lt_succ_self _) (by omega) (Or.inl ⟨rfl, rfl⟩) (fun _ _ => rfl) (hr6) hP hD hS hl
    refine lv_bipush (v := (-2)) hx hb dX6_often_28 (by decide) ?_
    exact w_iret hx hb hr hlk hQ hAe (rw1, rm, lo, st0) hP hD hS (by refine ⟨?_, hr6⟩; exact if_rf2 (by rw [c4, c11]; rfl) c25) dX6_often_30
  refine lv_iconst (v := (-1)) hx hb dX6_often_14 (by decide) ?_
  exact w_iret hx hb hr hlk hQ hAe (rw1, rm, lo, st0) hP hD hS (by refine ⟨?_, hr6⟩; first | exact if_rf1 (by rw [c4]; rfl) | exact if_rf1 (by rw [c4, c11]; rfl)) dX6_often_15


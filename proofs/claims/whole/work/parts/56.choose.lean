set_option maxHeartbeats 1000000 in
set_option maxRecDepth 100000 in
theorem m_X6_choose (l : Launch) (D : va_G) (cI cJ : ClassId) (sz : Nat) (mq : Nat) (mw : Nat) (slip : Nat) (h : Nat) (kd : Nat) (ms : Nat) (cnt : Nat) (ml : Nat) (nl : Nat) (mh : Nat) (hn : Nat) (mr : Nat) (rm : Nat) (mst : Nat) (lo : Nat) (mn : Nat) (mth : Nat) (lon : Nat) (mld : Nat) (mpk : Nat) (mcm : Nat) (lg : Nat → Nat) (num : Nat → Nat) (rw1 : Nat → Nat) (pk0 : Nat → Nat) (tg : Nat) (mk : Nat) (htg : tg < 8) (hmk : 1 ≤ mk ∧ mk ≤ 4) (hnl7 : nl ≤ 7) (hlg : okL lg nl) (hbf : ∀ t, t < 8 → bfM lg t nl 0 = num t) (hsl : slip ≤ 12) (hnum : ∀ j, j < 8 → num j < 10) (hr6 : ∀ j, j < 6 → rw1 j < 6) (hkd : kd < 3) : Met l yX6_choose wsX6_choose ({ frames := 3, cells := 0, slots := 0, locals := 75 }) (PX D cI cJ [(mq, .inr (6, [.ref mw, .int (nI slip), .int (nI h), .int (nI kd), .ref ms, .int (nI cnt), .ref ml, .int (nI nl), .ref mh, .int (nI hn), .ref mr, .int (nI rm), .ref mst, .long (lN lo), .ref mn, .ref mth, .long (lN lon), .ref mld, .ref mpk, .ref mcm])), (ml, .inl (cI, 28, .inl (nF lg))), (mr, .inl (cI, 6, .inl (nF rw1))), (mpk, .inl (cI, 4, .inl (nF pk0)))] sz [.ref mq, .int (nI tg), .int (nI mk)]) (QWi D (S := (Nat → Nat) × (Nat → Nat)) [(mq, .inr (6, [.ref mw, .int (nI slip), .int (nI h), .int (nI kd), .ref ms, .int (nI cnt), .ref ml, .int (nI nl), .ref mh, .int (nI hn), .ref mr, .int (nI rm), .ref mst, .long (lN lo), .ref mn, .ref mth, .long (lN lon), .ref mld, .ref mpk, .ref mcm])), (ml, .inl (cI, 28, .inl (nF lg))), (mr, .inl (cI, 6, .inl (nF rw1))), (mpk, .inl (cI, 4, .inl (nF pk0)))] sz (fun r u => r = bI (decide (cqI num slip kd tg mk < fO (mk + 1))) ∧ ((∀ j, j < 6 → u.1 j < 6) ∧ (cqI num slip kd tg mk < fO (mk + 1) → ∀ x, x < mk → u.2 x = PK (cqI num slip kd tg mk) x))) (fun u => [(mq, .inr (6, [.ref mw, .int (nI slip), .int (nI h), .int (nI kd), .ref ms, .int (nI cnt), .ref ml, .int (nI nl), .ref mh, .int (nI hn), .ref mr, .int (nI mk), .ref mst, .long (lN lo), .ref mn, .ref mth, .long (lN lon), .ref mld, .ref mpk, .ref mcm])), (ml, .inl (cI, 28, .inl (nF lg))), (mr, .inl (cI, 6, .inl (nF u.1))), (mpk, .inl (cI, 4, .inl (nF u.2)))])) 0 0 (va_A [(mq, .inr (6, [.ref mw, .int (nI slip), .int (nI h), .int (nI kd), .ref ms, .int (nI cnt), .ref ml, .int (nI nl), .ref mh, .int (nI hn), .ref mr, .int (nI rm), .ref mst, .long (lN lo), .ref mn, .ref mth, .long (lN lon), .ref mld, .ref mpk, .ref mcm])), (ml, .inl (cI, 28, .inl (nF lg))), (mr, .inl (cI, 6, .inl (nF rw1))), (mpk, .inl (cI, 4, .inl (nF pk0)))] sz) := by
  refine met_X (cc := cX6_choose) (maxL := 7) (ret := (some .boolean)) (by decide) rfl (Nat.le_of_ble_eq_true rfl) ?_
  intro p e s m args below meth c Q ls A hQ hAe hAt hKB hP hD hA hl
  obtain ⟨hx, hb, hr, hml, hlk, hts, hown, hnm⟩ := hAt
  have hown : s.vm.findClass RX6 = some m.cls := hown
  have hS : va_S A s.heap s.heap [] := va_S.rf
  have hl : lv_has ls 7 [(0, .ref mq), (1, .int (nI tg)), (2, .int (nI mk))] := hl
  have hiX6 : ∀ w ∈ u_ws RX6 TX6 20, w ∈ wsX6_choose := by decide +kernel
  have fl101 := hts (.fieldLink RX6 101 "TaughtTonguesModel" "rowMany" "I") (by decide +kernel)
  have fl38 := hts (.fieldLink RX6 38 "TaughtTonguesModel" "picked" "[I") (by decide +kernel)
  have fl22 := hts (.fieldLink RX6 22 "TaughtTonguesModel" "row" "[I") (by decide +kernel)
  have h34 := fO_le (mk + 1) (by omega)
  have hmo := fO_mono mk (by omega) hmk.1
  refine lv_iconst (v := nI (0)) hx hb dX6_choose_0 (by decide) ?_
  refine lv_istore_n (lv' := [(3, .int (nI 0)), (0, .ref mq), (1, .int (nI tg)), (2, .int (nI mk))]) hx hb dX6_choose_1 rfl hl (by decide) rfl (fun ls hl => ?_)
  have L2 : ∀ (n : Nat) (k : Nat) (f1 : Nat → Nat) (H : Heap) (locs : List Loc) (ls : Array Slot), 4 - k < n → (k ≤ 4) → (∀ j, j < k → f1 j = 0) → va_P D vwCl [(mq, .inr (6, [.ref mw, .int (nI slip), .int (nI h), .int (nI kd), .ref ms, .int (nI cnt), .ref ml, .int (nI nl), .ref mh, .int (nI hn), .ref mr, .int (nI rm), .ref mst, .long (lN lo), .ref mn, .ref mth, .long (lN lon), .ref mld, .ref mpk, .ref mcm])), (ml, .inl (cI, 28, .inl (nF lg))), (mr, .inl (cI, 6, .inl (nF rw1))), (mpk, .inl (cI, 4, .inl (nF f1)))] H → va_D A [(mq, .inr (6, [.ref mw, .int (nI slip), .int (nI h), .int (nI kd), .ref ms, .int (nI cnt), .ref ml, .int (nI nl), .ref mh, .int (nI hn), .ref mr, .int (nI rm), .ref mst, .long (lN lo), .ref mn, .ref mth, .long (lN lon), .ref mld, .ref mpk, .ref mcm])), (ml, .inl (cI, 28, .inl (nF lg))), (mr, .inl (cI, 6, .inl (nF rw1))), (mpk, .inl (cI, 4, .inl (nF f1)))] → va_S A s.heap H locs → lv_has ls 7 [(3, .int (nI k)), (0, .ref mq), (1, .int (nI tg)), (2, .int (nI mk))] → W p l e ({ frames := 3, cells := 0, slots := 0, locals := 75 }) s m args below meth c H locs 0 0 Q (F0 m 2 ls []) := by
    intro n
    induction n with
    | zero => intro k f1 H locs ls hm; exact absurd hm (Nat.not_lt_zero _)
    | succ n ih2 =>
      intro k f1 H locs ls hm hk hf hP hD hS hl
      refine lv_iload_n hx hb dX6_choose_2 rfl (lv_at hl 0 rfl) ?_
      refine lv_iconst (v := nI (4)) hx hb dX6_choose_3 (by decide) ?_
      refine r_icmp_ge (a := k) (b := 4) (tgt := 20) hx hb dX6_choose_4 (by decide) (by omega) (by omega)  (fun c4 => ?_) (fun c4 => ?_)
      · skip
        refine lv_aload_n hx hb dX6_choose_20 rfl (lv_at hl 1 rfl) ?_
        refine lv_iload_n hx hb dX6_choose_21 rfl (lv_at hl 3 rfl) ?_
        refine va_put (D := D) (ci := 6) (v := .int (nI mk)) (ty := .int) (C := RX6) (T := TX6) (N := 20) hx hb hts hiX6 tyX6 tyX6_ok nmX6 hown hKB.1 hP hD hS 0 rfl rfl 11 (by decide) fl101 (fun _ h9 => h9) rfl (by decide +kernel) rfl rfl (Nat.le_of_ble_eq_true rfl) dX6_choose_22 (fun H locs hP hD hS => ?_)
        have hP : va_P D vwCl [(mq, .inr (6, [.ref mw, .int (nI slip), .int (nI h), .int (nI kd), .ref ms, .int (nI cnt), .ref ml, .int (nI nl), .ref mh, .int (nI hn), .ref mr, .int (nI mk), .ref mst, .long (lN lo), .ref mn, .ref mth, .long (lN lon), .ref mld, .ref mpk, .ref mcm])), (ml, .inl (cI, 28, .inl (nF lg))), (mr, .inl (cI, 6, .inl (nF rw1))), (mpk, .inl (cI, 4, .inl (nF f1)))] _ := hP
        have hD : va_D A [(mq, .inr (6, [.ref mw, .int (nI slip), .int (nI h), .int (nI kd), .ref ms, .int (nI cnt), .ref ml, .int (nI nl), .ref mh, .int (nI hn), .ref mr, .int (nI mk), .ref mst, .long (lN lo), .ref mn, .ref mth, .long (lN lon), .ref mld, .ref mpk, .ref mcm])), (ml, .inl (cI, 28, .inl (nF lg))), (mr, .inl (cI, 6, .inl (nF rw1))), (mpk, .inl (cI, 4, .inl (nF f1)))] := hD
        refine lv_iconst (v := nI (1)) hx hb dX6_choose_25 (by decide) ?_
        refine lv_istore_n (lv' := [(3, .int (nI 1)), (0, .ref mq), (1, .int (nI tg)), (2, .int (nI mk))]) hx hb dX6_choose_26 rfl hl (by decide) rfl (fun ls hl => ?_)
        have L27 : ∀ (n : Nat) (mo : Nat) (i : Nat) (pk1 : Nat → Nat) (rw3 : Nat → Nat) (H : Heap) (locs : List Loc) (ls : Array Slot), 35 - i < n → (fO mk ≤ i) → (cIv pk1 mk mo i) → (∀ j, fO mk ≤ j → j < i → ¬ chF num slip kd (LOT tg j) = tg) → (∀ j, j < 6 → rw3 j < 6) → va_P D vwCl [(mq, .inr (6, [.ref mw, .int (nI slip), .int (nI h), .int (nI kd), .ref ms, .int (nI cnt), .ref ml, .int (nI nl), .ref mh, .int (nI hn), .ref mr, .int (nI mk), .ref mst, .long (lN lo), .ref mn, .ref mth, .long (lN lon), .ref mld, .ref mpk, .ref mcm])), (ml, .inl (cI, 28, .inl (nF lg))), (mr, .inl (cI, 6, .inl (nF rw3))), (mpk, .inl (cI, 4, .inl (nF pk1)))] H → va_D A [(mq, .inr (6, [.ref mw, .int (nI slip), .int (nI h), .int (nI kd), .ref ms, .int (nI cnt), .ref ml, .int (nI nl), .ref mh, .int (nI hn), .ref mr, .int (nI mk), .ref mst, .long (lN lo), .ref mn, .ref mth, .long (lN lon), .ref mld, .ref mpk, .ref mcm])), (ml, .inl (cI, 28, .inl (nF lg))), (mr, .inl (cI, 6, .inl (nF rw3))), (mpk, .inl (cI, 4, .inl (nF pk1)))] → va_S A s.heap H locs → lv_has ls 7 [(3, .int (nI mo)), (0, .ref mq), (1, .int (nI tg)), (2, .int (nI mk))] → W p l e ({ frames := 3, cells := 0, slots := 0, locals := 75 }) s m args below meth c H locs 0 0 Q (F0 m 27 ls []) := by
          intro n
          induction n with
          | zero => intro mo i pk1 rw3 H locs ls hm; exact absurd hm (Nat.not_lt_zero _)
          | succ n ih27 =>
            intro mo i pk1 rw3 H locs ls hm hi0 hM hno hr3 hP hD hS hl
            refine lv_iload_n hx hb dX6_choose_27 rfl (lv_at hl 0 rfl) ?_
            refine r_if_eq (a := mo) (tgt := 173) hx hb dX6_choose_28 (by decide) (cIv_le hM) (fun c28 => ?_) (fun c28 => ?_)
            · skip
              refine lv_iconst (v := nI (0)) hx hb dX6_choose_173 (by decide) ?_
              exact w_zret (b := false) hx hb hr hlk hQ hAe rfl (rw3, pk1) hP hD hS (by have hcq := cqI_n (by omega) (cIv_n hM c28 hno); exact ⟨by rw [hcq, decide_eq_false (Nat.lt_irrefl _)], hr3, fun h => absurd h (by rw [hcq]; exact Nat.lt_irrefl _)⟩) dX6_choose_174
            obtain ⟨hi, hpk⟩ := cIv_y hM c28 hi0
            have hsz := szP_k mk (by omega) i (by omega) ⟨hmk.1, hi.1, hi.2⟩
            refine lv_iconst (v := nI (0)) hx hb dX6_choose_31 (by decide) ?_
            refine lv_istore (lv' := [(4, .int (nI 0)), (3, .int (nI mo)), (0, .ref mq), (1, .int (nI tg)), (2, .int (nI mk))]) hx hb dX6_choose_32 hl (by decide) rfl (fun ls hl => ?_)
            have L34 : ∀ (n : Nat) (y : Nat) (rw4 : Nat → Nat) (H : Heap) (locs : List Loc) (ls : Array Slot), mk - y < n → (y ≤ mk) → (∀ x, x < y → rw4 x = rwP tg i x) → (∀ x, x < 6 → rw4 x < 6) → va_P D vwCl [(mq, .inr (6, [.ref mw, .int (nI slip), .int (nI h), .int (nI kd), .ref ms, .int (nI cnt), .ref ml, .int (nI nl), .ref mh, .int (nI hn), .ref mr, .int (nI mk), .ref mst, .long (lN lo), .ref mn, .ref mth, .long (lN lon), .ref mld, .ref mpk, .ref mcm])), (ml, .inl (cI, 28, .inl (nF lg))), (mr, .inl (cI, 6, .inl (nF rw4))), (mpk, .inl (cI, 4, .inl (nF pk1)))] H → va_D A [(mq, .inr (6, [.ref mw, .int (nI slip), .int (nI h), .int (nI kd), .ref ms, .int (nI cnt), .ref ml, .int (nI nl), .ref mh, .int (nI hn), .ref mr, .int (nI mk), .ref mst, .long (lN lo), .ref mn, .ref mth, .long (lN lon), .ref mld, .ref mpk, .ref mcm])), (ml, .inl (cI, 28, .inl (nF lg))), (mr, .inl (cI, 6, .inl (nF rw4))), (mpk, .inl (cI, 4, .inl (nF pk1)))] → va_S A s.heap H locs → lv_has ls 7 [(4, .int (nI y)), (3, .int (nI mo)), (0, .ref mq), (1, .int (nI tg)), (2, .int (nI mk))] → W p l e ({ frames := 3, cells := 0, slots := 0, locals := 75 }) s m args below meth c H locs 0 0 Q (F0 m 34 ls []) := by
              intro n
              induction n with
              | zero => intro y rw4 H locs ls hm; exact absurd hm (Nat.not_lt_zero _)
              | succ n ih34 =>
                intro y rw4 H locs ls hm hy hrw hr4 hP hD hS hl
                refine lv_iload hx hb dX6_choose_34 (lv_at hl 0 rfl) ?_
                refine lv_iload_n hx hb dX6_choose_36 rfl (lv_at hl 4 rfl) ?_
                refine r_icmp_ge (a := y) (b := mk) (tgt := 74) hx hb dX6_choose_37 (by decide) (by omega) (by omega)  (fun c37 => ?_) (fun c37 => ?_)
                · skip
                  obtain rfl : mk = y := by omega
                  refine lv_aload_n hx hb dX6_choose_74 rfl (lv_at hl 2 rfl) ?_
                  have hPc := hP.sub (ws' := [(mq, .inr (6, [.ref mw, .int (nI slip), .int (nI h), .int (nI kd), .ref ms, .int (nI cnt), .ref ml, .int (nI nl), .ref mh, .int (nI hn), .ref mr, .int (nI mk), .ref mst, .long (lN lo), .ref mn, .ref mth, .long (lN lon), .ref mld, .ref mpk, .ref mcm])), (ml, .inl (cI, 28, .inl (nF lg))), (mr, .inl (cI, 6, .inl (nF rw4)))]) [0, 1, 2] rfl
                  refine r_calli hP hS (va_runV (As := []) (rest := []) ⟨hx, hb, hml, hown, hts⟩ (m_X6_taken l D cI cJ mq mw slip h kd ms cnt ml nl mh hn mr mk mst lo mn mth lon mld mpk mcm lg num rw4 (by assumption) (by assumption) (by assumption) (by assumption) (by assumption) (by omega) (hr4) (by assumption)) (cwV 0 hts gX6_choose_X6_taken rfl rfl rfl (by decide +kernel) ⟨Nat.le_of_ble_eq_true rfl, Nat.le_of_ble_eq_true rfl⟩) ⟨PR.blind, va_recv hKB.1 hP (ci := 6) (q0 := 0) rfl rfl, fun U hU hW => ⟨rfl, hKB.warm hW, by rw [hU]; exact hPc⟩⟩ rfl rfl hl.1 rfl (lv_room (Nat.le_of_ble_eq_true rfl)) dX6_choose_75 ⟨Nat.le_of_ble_eq_true rfl, Nat.le_of_ble_eq_true rfl⟩) (fun r1 H locs hw75 hP hS => ?_)
                  have hw75 : r1 = nI (tkM num slip kd rw4 mk) := hw75
                  subst hw75
                  refine lv_topi (fun z2 ez2 => ?_)
                  obtain rfl : z2 = nI (chF num slip kd (LOT tg i)) := ez2.trans (congrArg nI (tk_LOT htg (by omega) hsz hrw (by omega)))
                  have hcf := chF_lt (num := num) (slip := slip) (kd := kd) (lt := LOT tg i)
                  refine lv_iload_n hx hb dX6_choose_78 rfl (lv_at hl 3 rfl) ?_
                  refine r_icmp_ne (a := chF num slip kd (LOT tg i)) (b := tg) (tgt := 84) hx hb dX6_choose_79 (by decide) (by omega) (by omega)  (fun c79 => ?_) (fun c79 => ?_)
                  · skip
                    refine lv_iload_n hx hb dX6_choose_84 rfl (lv_at hl 4 rfl) ?_
                    refine lv_iconst (v := nI (1)) hx hb dX6_choose_85 (by decide) ?_
                    refine r_isub (a := mk) (b := 1) hx hb dX6_choose_86 (by omega) ?_
                    refine lv_istore (lv' := [(4, .int (nI (mk - 1))), (3, .int (nI mo)), (0, .ref mq), (1, .int (nI tg)), (2, .int (nI mk))]) hx hb dX6_choose_87 hl (by decide) rfl (fun ls hl => ?_)
                    have hl := lv_ch hl 0 (v2 := .int (nI mk - nI 1)) (l2 := [(4, .int (nI mk - nI 1)), (3, .int (nI mo)), (0, .ref mq), (1, .int (nI tg)), (2, .int (nI mk))]) rfl (congrArg Value.int ((pk_sub (by omega)).symm)) rfl
                    have L89 : ∀ (n : Nat) (j : Nat) (H : Heap) (locs : List Loc) (ls : Array Slot), j < n → (j ≤ mk) → (∀ x, j ≤ x → x < mk → pk1 x = 2) → va_P D vwCl [(mq, .inr (6, [.ref mw, .int (nI slip), .int (nI h), .int (nI kd), .ref ms, .int (nI cnt), .ref ml, .int (nI nl), .ref mh, .int (nI hn), .ref mr, .int (nI mk), .ref mst, .long (lN lo), .ref mn, .ref mth, .long (lN lon), .ref mld, .ref mpk, .ref mcm])), (ml, .inl (cI, 28, .inl (nF lg))), (mr, .inl (cI, 6, .inl (nF rw4))), (mpk, .inl (cI, 4, .inl (nF pk1)))] H → va_D A [(mq, .inr (6, [.ref mw, .int (nI slip), .int (nI h), .int (nI kd), .ref ms, .int (nI cnt), .ref ml, .int (nI nl), .ref mh, .int (nI hn), .ref mr, .int (nI mk), .ref mst, .long (lN lo), .ref mn, .ref mth, .long (lN lon), .ref mld, .ref mpk, .ref mcm])), (ml, .inl (cI, 28, .inl (nF lg))), (mr, .inl (cI, 6, .inl (nF rw4))), (mpk, .inl (cI, 4, .inl (nF pk1)))] → va_S A s.heap H locs → lv_has ls 7 [(4, .int (nI j - nI 1)), (3, .int (nI mo)), (0, .ref mq), (1, .int (nI tg)), (2, .int (nI mk))] → W p l e ({ frames := 3, cells := 0, slots := 0, locals := 75 }) s m args below meth c H locs 0 0 Q (F0 m 89 ls []) := by
                      intro n
                      induction n with
                      | zero => intro j H locs ls hm; exact absurd hm (Nat.not_lt_zero _)
                      | succ n ih89 =>
                        intro j H locs ls hm hj ha hP hD hS hl
                        refine lv_iload hx hb dX6_choose_89 (lv_at hl 0 rfl) ?_
                        refine lv_if_lt (tgt := 111) hx hb dX6_choose_91 (by decide) (fun c91 => ?_) (fun c91 => ?_)
                        · skip
                          obtain rfl := dec_zero c91 (by omega)
                          refine lv_iload hx hb dX6_choose_111 (lv_at hl 0 rfl) ?_
                          refine lv_if_lt (tgt := 120) hx hb dX6_choose_113 (by decide) (fun c113 => ?_) (fun c113 => ?_)
                          · skip
                            refine lv_iconst (v := nI (0)) hx hb dX6_choose_120 (by decide) ?_
                            refine lv_istore_n (lv' := [(3, .int (nI 0)), (4, .int (nI 0 - nI 1)), (0, .ref mq), (1, .int (nI tg)), (2, .int (nI mk))]) hx hb dX6_choose_121 rfl hl (by decide) rfl (fun ls hl => ?_)
                            refine lv_iload_n hx hb dX6_choose_122 rfl (lv_at hl 0 rfl) ?_
                            refine r_if_eq (a := 0) (tgt := 138) hx hb dX6_choose_123 (by decide) (by decide) (fun c123 => ?_) (fun c123 => ?_)
                            · skip
                              refine lv_iconst (v := nI (0)) hx hb dX6_choose_138 (by decide) ?_
                              refine lv_istore (lv' := [(5, .int (nI 0)), (3, .int (nI 0)), (4, .int (nI 0 - nI 1)), (0, .ref mq), (1, .int (nI tg)), (2, .int (nI mk))]) hx hb dX6_choose_139 hl (by decide) rfl (fun ls hl => ?_)
                              refine lv_iload hx hb dX6_choose_141 (lv_at hl 2 rfl) ?_
                              refine lv_istore (lv' := [(6, .int (nI 0 - nI 1)), (5, .int (nI 0)), (3, .int (nI 0)), (4, .int (nI 0 - nI 1)), (0, .ref mq), (1, .int (nI tg)), (2, .int (nI mk))]) hx hb dX6_choose_143 hl (by decide) rfl (fun ls hl => ?_)
                              refine lv_iload hx hb dX6_choose_145 (lv_at hl 0 rfl) ?_
                              refine lv_iload_n hx hb dX6_choose_147 rfl (lv_at hl 6 rfl) ?_
                              refine lv_icmp_ge (tgt := 170) hx hb dX6_choose_148 (by decide) (fun c148 => ?_) (fun c148 => ?_)
                              · skip
                                have hM2 : cIv pk1 mk 0 (i + 1) := Or.inr ⟨rfl, pk_en ⟨hmk.1, hmk.2⟩ hi hpk (fun x h1 h2 => ha x h1 h2)⟩
                                refine lv_goto (tgt := 27) hx hb dX6_choose_170 (by decide) ?_
                                exact ih27 0 (i + 1) pk1 rw4 _ _ _ (by omega) (by omega) (hM2) (no_s hno c79) (hr4) hP hD hS (lv_sub hl [2, 4, 5, 6] rfl)
                              refine lv_iload_n hx hb dX6_choose_151 rfl (lv_at hl 2 rfl) ?_
                              refine r_if_eq (a := 0) (tgt := 170) hx hb dX6_choose_152 (by decide) (by decide) (fun c152 => ?_) (fun c152 => ?_)
                              · skip
                                have hM2 : cIv pk1 mk 0 (i + 1) := Or.inr ⟨rfl, pk_en ⟨hmk.1, hmk.2⟩ hi hpk (fun x h1 h2 => ha x h1 h2)⟩
                                refine lv_goto (tgt := 27) hx hb dX6_choose_170 (by decide) ?_
                                exact ih27 0 (i + 1) pk1 rw4 _ _ _ (by omega) (by omega) (hM2) (no_s hno c79) (hr4) hP hD hS (lv_sub hl [2, 4, 5, 6] rfl)
                              exact absurd c152 (by decide)
                            exact absurd c123 (by decide)
                          exact absurd (show nI 0 - nI 1 < 0 by decide) c113
                        obtain ⟨j9, rfl⟩ := dec_pos c91
                        have hl := lv_ch hl 0 (v2 := .int (nI j9)) (l2 := [(4, .int (nI j9)), (3, .int (nI mo)), (0, .ref mq), (1, .int (nI tg)), (2, .int (nI mk))]) rfl (congrArg Value.int (nI_pred j9)) rfl
                        refine lv_aload_n hx hb dX6_choose_94 rfl (lv_at hl 2 rfl) ?_
                        refine va_get (D := D) (ci := 6) (v := .ref mpk) (C := RX6) (T := TX6) (N := 20) hx hb hts hiX6 hown hKB.1 hP 0 rfl rfl 18 (by decide) fl38 (fun _ h9 => h9) rfl dX6_choose_95 ?_
                        refine lv_iload hx hb dX6_choose_98 (lv_at hl 0 rfl) ?_
                        have hp9 := pk_l3 hpk (show j9 < mk by omega) (by omega) (by omega)
                        refine r_iald (i := j9) (v := nI (pk1 j9)) hx hb hKB.1 hP 3 0 rfl rfl (by omega) (by decide) (rfl) dX6_choose_100 ?_
                        refine lv_iconst (v := nI (2)) hx hb dX6_choose_101 (by decide) ?_
                        refine r_icmp_ne (a := pk1 j9) (b := 2) (tgt := 111) hx hb dX6_choose_102 (by decide) (by omega) (by omega)  (fun c102 => ?_) (fun c102 => ?_)
                        · skip
                          refine lv_iload hx hb dX6_choose_111 (lv_at hl 0 rfl) ?_
                          refine r_if_lt (a := j9) (tgt := 120) hx hb dX6_choose_113 (by decide) (by omega) ?_
                          refine lv_iconst (v := nI (1)) hx hb dX6_choose_116 (by decide) ?_
                          refine lv_goto (tgt := 121) hx hb dX6_choose_117 (by decide) ?_
                          refine lv_istore_n (lv' := [(3, .int (nI 1)), (4, .int (nI j9)), (0, .ref mq), (1, .int (nI tg)), (2, .int (nI mk))]) hx hb dX6_choose_121 rfl hl (by decide) rfl (fun ls hl => ?_)
                          refine lv_iload_n hx hb dX6_choose_122 rfl (lv_at hl 0 rfl) ?_
                          refine r_if_eq (a := 1) (tgt := 138) hx hb dX6_choose_123 (by decide) (by decide) (fun c123 => ?_) (fun c123 => ?_)
                          · exact absurd c123 (by decide)
                          refine lv_aload_n hx hb dX6_choose_126 rfl (lv_at hl 2 rfl) ?_
                          refine va_get (D := D) (ci := 6) (v := .ref mpk) (C := RX6) (T := TX6) (N := 20) hx hb hts hiX6 hown hKB.1 hP 0 rfl rfl 18 (by decide) fl38 (fun _ h9 => h9) rfl dX6_choose_127 ?_
                          refine lv_iload hx hb dX6_choose_130 (lv_at hl 1 rfl) ?_
                          refine r_iald (i := j9) (v := nI (pk1 j9)) hx hb hKB.1 hP 3 0 rfl rfl (by omega) (by decide) (rfl) dX6_choose_132 ?_
                          refine lv_iconst (v := nI (1)) hx hb dX6_choose_133 (by decide) ?_
                          refine r_iadd (a := pk1 j9) (b := 1) hx hb dX6_choose_134  ?_
                          refine lv_goto (tgt := 139) hx hb dX6_choose_135 (by decide) ?_
                          refine lv_istore (lv' := [(5, .int (nI ((pk1 j9) + 1))), (3, .int (nI 1)), (4, .int (nI j9)), (0, .ref mq), (1, .int (nI tg)), (2, .int (nI mk))]) hx hb dX6_choose_139 hl (by decide) rfl (fun ls hl => ?_)
                          refine lv_iload hx hb dX6_choose_141 (lv_at hl 2 rfl) ?_
                          refine lv_istore (lv' := [(6, .int (nI j9)), (5, .int (nI ((pk1 j9) + 1))), (3, .int (nI 1)), (4, .int (nI j9)), (0, .ref mq), (1, .int (nI tg)), (2, .int (nI mk))]) hx hb dX6_choose_143 hl (by decide) rfl (fun ls hl => ?_)
                          have L145 : ∀ (n : Nat) (v : Nat) (pk5 : Nat → Nat) (H : Heap) (locs : List Loc) (ls : Array Slot), mk - v < n → (j9 ≤ v ∧ v ≤ mk) → (∀ x, x < mk → pk5 x = if j9 ≤ x ∧ x < v then pk1 j9 + 1 else pk1 x) → va_P D vwCl [(mq, .inr (6, [.ref mw, .int (nI slip), .int (nI h), .int (nI kd), .ref ms, .int (nI cnt), .ref ml, .int (nI nl), .ref mh, .int (nI hn), .ref mr, .int (nI mk), .ref mst, .long (lN lo), .ref mn, .ref mth, .long (lN lon), .ref mld, .ref mpk, .ref mcm])), (ml, .inl (cI, 28, .inl (nF lg))), (mr, .inl (cI, 6, .inl (nF rw4))), (mpk, .inl (cI, 4, .inl (nF pk5)))] H → va_D A [(mq, .inr (6, [.ref mw, .int (nI slip), .int (nI h), .int (nI kd), .ref ms, .int (nI cnt), .ref ml, .int (nI nl), .ref mh, .int (nI hn), .ref mr, .int (nI mk), .ref mst, .long (lN lo), .ref mn, .ref mth, .long (lN lon), .ref mld, .ref mpk, .ref mcm])), (ml, .inl (cI, 28, .inl (nF lg))), (mr, .inl (cI, 6, .inl (nF rw4))), (mpk, .inl (cI, 4, .inl (nF pk5)))] → va_S A s.heap H locs → lv_has ls 7 [(6, .int (nI v)), (5, .int (nI ((pk1 j9) + 1))), (3, .int (nI 1)), (4, .int (nI j9)), (0, .ref mq), (1, .int (nI tg)), (2, .int (nI mk))] → W p l e ({ frames := 3, cells := 0, slots := 0, locals := 75 }) s m args below meth c H locs 0 0 Q (F0 m 145 ls []) := by
                            intro n
                            induction n with
                            | zero => intro v pk5 H locs ls hm; exact absurd hm (Nat.not_lt_zero _)
                            | succ n ih145 =>
                              intro v pk5 H locs ls hm hv hp5 hP hD hS hl
                              refine lv_iload hx hb dX6_choose_145 (lv_at hl 0 rfl) ?_
                              refine lv_iload_n hx hb dX6_choose_147 rfl (lv_at hl 6 rfl) ?_
                              refine r_icmp_ge (a := v) (b := mk) (tgt := 170) hx hb dX6_choose_148 (by decide) (by omega) (by omega)  (fun c148 => ?_) (fun c148 => ?_)
                              · skip
                                have hM2 : cIv pk5 mk 1 (i + 1) := Or.inl ⟨rfl, pk_nx ⟨hmk.1, hmk.2⟩ hi hpk (show j9 < mk by omega) c102 ha (pk_all hp5 c148)⟩
                                refine lv_goto (tgt := 27) hx hb dX6_choose_170 (by decide) ?_
                                exact ih27 1 (i + 1) pk5 rw4 _ _ _ (by omega) (by omega) (hM2) (no_s hno c79) (hr4) hP hD hS (lv_sub hl [2, 4, 5, 6] rfl)
                              refine lv_iload_n hx hb dX6_choose_151 rfl (lv_at hl 2 rfl) ?_
                              refine r_if_eq (a := 1) (tgt := 170) hx hb dX6_choose_152 (by decide) (by decide) (fun c152 => ?_) (fun c152 => ?_)
                              · exact absurd c152 (by decide)
                              refine lv_aload_n hx hb dX6_choose_155 rfl (lv_at hl 4 rfl) ?_
                              refine va_get (D := D) (ci := 6) (v := .ref mpk) (C := RX6) (T := TX6) (N := 20) hx hb hts hiX6 hown hKB.1 hP 0 rfl rfl 18 (by decide) fl38 (fun _ h9 => h9) rfl dX6_choose_156 ?_
                              refine lv_iload hx hb dX6_choose_159 (lv_at hl 0 rfl) ?_
                              refine lv_iload hx hb dX6_choose_161 (lv_at hl 1 rfl) ?_
                              refine r_iastN (i := v) hx hb hKB.1 hP hD hS 3 0 rfl rfl (by omega) (by decide) dX6_choose_163 (fun H locs hP hD hS => ?_)
                              have hP : va_P D vwCl [(mq, .inr (6, [.ref mw, .int (nI slip), .int (nI h), .int (nI kd), .ref ms, .int (nI cnt), .ref ml, .int (nI nl), .ref mh, .int (nI hn), .ref mr, .int (nI mk), .ref mst, .long (lN lo), .ref mn, .ref mth, .long (lN lon), .ref mld, .ref mpk, .ref mcm])), (ml, .inl (cI, 28, .inl (nF lg))), (mr, .inl (cI, 6, .inl (nF rw4))), (mpk, .inl (cI, 4, .inl (nF (nu pk5 v ((pk1 j9) + 1)))))] _ := hP
                              have hD : va_D A [(mq, .inr (6, [.ref mw, .int (nI slip), .int (nI h), .int (nI kd), .ref ms, .int (nI cnt), .ref ml, .int (nI nl), .ref mh, .int (nI hn), .ref mr, .int (nI mk), .ref mst, .long (lN lo), .ref mn, .ref mth, .long (lN lon), .ref mld, .ref mpk, .ref mcm])), (ml, .inl (cI, 28, .inl (nF lg))), (mr, .inl (cI, 6, .inl (nF rw4))), (mpk, .inl (cI, 4, .inl (nF (nu pk5 v ((pk1 j9) + 1)))))] := hD
                              refine lv_iinc (v := nI (v + 1)) (lv' := [(6, .int (nI (v + 1))), (5, .int (nI ((pk1 j9) + 1))), (3, .int (nI 1)), (4, .int (nI j9)), (0, .ref mq), (1, .int (nI tg)), (2, .int (nI mk))]) hx hb dX6_choose_164 hl (k := 0) rfl (n_inc _ 1) (by decide) rfl (fun ls hl => ?_)
                              refine lv_goto (tgt := 145) hx hb dX6_choose_167 (by decide) ?_
                              exact ih145 (v + 1) (nu pk5 v ((pk1 j9) + 1)) _ _ _ (by omega) (by omega) (pk_st hp5 hv.1) hP hD hS hl
                          exact L145 (mk - j9 + 1) j9 pk1 _ _ _ (Nat.lt_succ_self _) (by omega) (fun x _ => (if_neg (by omega)).symm) hP hD hS hl
                        refine lv_iinc (v := (nI (j9)) + (-1)) (lv' := [(4, .int ((nI (j9)) + (-1))), (3, .int (nI mo)), (0, .ref mq), (1, .int (nI tg)), (2, .int (nI mk))]) hx hb dX6_choose_105 hl (k := 0) rfl (rfl) (by decide) rfl (fun ls hl => ?_)
                        have hl := lv_ch hl 0 (v2 := .int (nI j9 - nI 1)) (l2 := [(4, .int (nI j9 - nI 1)), (3, .int (nI mo)), (0, .ref mq), (1, .int (nI tg)), (2, .int (nI mk))]) rfl (congrArg Value.int (i_dec _)) rfl
                        refine lv_goto (tgt := 89) hx hb dX6_choose_108 (by decide) ?_
                        exact ih89 j9 _ _ _ (by omega) (by omega) (tw_s ha c102) hP hD hS hl
                    exact L89 (mk + 1) mk _ _ _ (Nat.lt_succ_self _) (Nat.le_refl _) (fun x h1 h2 => absurd h2 (by omega)) hP hD hS hl
                  have hcq := cqI_y hi.1 hi.2 hno c79
                  refine lv_iconst (v := nI (1)) hx hb dX6_choose_82 (by decide) ?_
                  exact w_zret (b := true) hx hb hr hlk hQ hAe rfl (rw4, pk1) hP hD hS (⟨by rw [hcq, decide_eq_true hi.2], hr4, fun _ x hx => by rw [hcq]; exact hpk x hx⟩) dX6_choose_83
                have hpy := pk_l3 hpk c37 (by omega) (by omega)
                refine lv_aload_n hx hb dX6_choose_40 rfl (lv_at hl 2 rfl) ?_
                refine va_get (D := D) (ci := 6) (v := .ref mr) (C := RX6) (T := TX6) (N := 20) hx hb hts hiX6 hown hKB.1 hP 0 rfl rfl 10 (by decide) fl22 (fun _ h9 => h9) rfl dX6_choose_41 ?_
                refine lv_iload hx hb dX6_choose_44 (lv_at hl 0 rfl) ?_
                refine lv_iconst (v := nI (2)) hx hb dX6_choose_46 (by decide) ?_
                refine lv_aload_n hx hb dX6_choose_47 rfl (lv_at hl 2 rfl) ?_
                refine va_get (D := D) (ci := 6) (v := .ref mpk) (C := RX6) (T := TX6) (N := 20) hx hb hts hiX6 hown hKB.1 hP 0 rfl rfl 18 (by decide) fl38 (fun _ h9 => h9) rfl dX6_choose_48 ?_
                refine lv_iload hx hb dX6_choose_51 (lv_at hl 0 rfl) ?_
                refine r_iald (i := y) (v := nI (pk1 y)) hx hb hKB.1 hP 3 0 rfl rfl (by omega) (by decide) (rfl) dX6_choose_53 ?_
                refine r_imul (a := 2) (b := pk1 y) hx hb dX6_choose_54  ?_
                refine lv_iload_n hx hb dX6_choose_55 rfl (lv_at hl 3 rfl) ?_
                refine lv_aload_n hx hb dX6_choose_56 rfl (lv_at hl 2 rfl) ?_
                refine va_get (D := D) (ci := 6) (v := .ref mpk) (C := RX6) (T := TX6) (N := 20) hx hb hts hiX6 hown hKB.1 hP 0 rfl rfl 18 (by decide) fl38 (fun _ h9 => h9) rfl dX6_choose_57 ?_
                refine lv_iload hx hb dX6_choose_60 (lv_at hl 0 rfl) ?_
                refine r_iald (i := y) (v := nI (pk1 y)) hx hb hKB.1 hP 3 0 rfl rfl (by omega) (by decide) (rfl) dX6_choose_62 ?_
                refine r_ishr (a := tg) (b := pk1 y) hx hb dX6_choose_63 (by omega) (by omega) ?_
                refine lv_iconst (v := nI (1)) hx hb dX6_choose_64 (by decide) ?_
                refine r_iand (a := tg >>> (pk1 y)) (b := 1) hx hb dX6_choose_65  ?_
                refine r_iadd (a := 2 * (pk1 y)) (b := (tg >>> (pk1 y)) &&& 1) hx hb dX6_choose_66  ?_
                refine r_iastN (i := y) hx hb hKB.1 hP hD hS 2 0 rfl rfl (by omega) (by decide) dX6_choose_67 (fun H locs hP hD hS => ?_)
                have hP : va_P D vwCl [(mq, .inr (6, [.ref mw, .int (nI slip), .int (nI h), .int (nI kd), .ref ms, .int (nI cnt), .ref ml, .int (nI nl), .ref mh, .int (nI hn), .ref mr, .int (nI mk), .ref mst, .long (lN lo), .ref mn, .ref mth, .long (lN lon), .ref mld, .ref mpk, .ref mcm])), (ml, .inl (cI, 28, .inl (nF lg))), (mr, .inl (cI, 6, .inl (nF (nu rw4 y ((2 * (pk1 y)) + ((tg >>> (pk1 y)) &&& 1)))))), (mpk, .inl (cI, 4, .inl (nF pk1)))] _ := hP
                have hD : va_D A [(mq, .inr (6, [.ref mw, .int (nI slip), .int (nI h), .int (nI kd), .ref ms, .int (nI cnt), .ref ml, .int (nI nl), .ref mh, .int (nI hn), .ref mr, .int (nI mk), .ref mst, .long (lN lo), .ref mn, .ref mth, .long (lN lon), .ref mld, .ref mpk, .ref mcm])), (ml, .inl (cI, 28, .inl (nF lg))), (mr, .inl (cI, 6, .inl (nF (nu rw4 y ((2 * (pk1 y)) + ((tg >>> (pk1 y)) &&& 1)))))), (mpk, .inl (cI, 4, .inl (nF pk1)))] := hD
                refine lv_iinc (v := nI (y + 1)) (lv' := [(4, .int (nI (y + 1))), (3, .int (nI mo)), (0, .ref mq), (1, .int (nI tg)), (2, .int (nI mk))]) hx hb dX6_choose_68 hl (k := 0) rfl (n_inc _ 1) (by decide) rfl (fun ls hl => ?_)
                refine lv_goto (tgt := 34) hx hb dX6_choose_71 (by decide) ?_
                exact ih34 (y + 1) (nu rw4 y ((2 * (pk1 y)) + ((tg >>> (pk1 y)) &&& 1))) _ _ _ (by omega) (by omega) (ag_s hrw (by rw [hpk y c37]; rfl)) (lt6_nu hr4 (sy_lt hpy)) hP hD hS hl
            exact L34 (mk - 0 + 1) 0 rw3 _ _ _ (Nat.lt_succ_self _) (by omega) (fun x hx => absurd hx (Nat.not_lt_zero x)) (hr3) hP hD hS hl
        exact L27 (35 - (fO mk) + 1) 1 (fO mk) f1 rw1 _ _ _ (Nat.lt_succ_self _) (Nat.le_refl _) (Or.inl ⟨rfl, hmo, fun x hx => (hf x (by omega)).trans (tb_PK0 mk (by omega) x (by omega)).symm⟩) (fun j h1 h2 => absurd h2 (by omega)) (hr6) hP hD hS hl
      refine lv_aload_n hx hb dX6_choose_7 rfl (lv_at hl 1 rfl) ?_
      refine va_get (D := D) (ci := 6) (v := .ref mpk) (C := RX6) (T := TX6) (N := 20) hx hb hts hiX6 hown hKB.1 hP 0 rfl rfl 18 (by decide) fl38 (fun _ h9 => h9) rfl dX6_choose_8 ?_
      refine lv_iload_n hx hb dX6_choose_11 rfl (lv_at hl 0 rfl) ?_
      refine lv_iconst (v := nI (0)) hx hb dX6_choose_12 (by decide) ?_
      refine r_iastN (i := k) hx hb hKB.1 hP hD hS 3 0 rfl rfl (by omega) (by decide) dX6_choose_13 (fun H locs hP hD hS => ?_)
      have hP : va_P D vwCl [(mq, .inr (6, [.ref mw, .int (nI slip), .int (nI h), .int (nI kd), .ref ms, .int (nI cnt), .ref ml, .int (nI nl), .ref mh, .int (nI hn), .ref mr, .int (nI rm), .ref mst, .long (lN lo), .ref mn, .ref mth, .long (lN lon), .ref mld, .ref mpk, .ref mcm])), (ml, .inl (cI, 28, .inl (nF lg))), (mr, .inl (cI, 6, .inl (nF rw1))), (mpk, .inl (cI, 4, .inl (nF (nu f1 k 0))))] _ := hP
      have hD : va_D A [(mq, .inr (6, [.ref mw, .int (nI slip), .int (nI h), .int (nI kd), .ref ms, .int (nI cnt), .ref ml, .int (nI nl), .ref mh, .int (nI hn), .ref mr, .int (nI rm), .ref mst, .long (lN lo), .ref mn, .ref mth, .long (lN lon), .ref mld, .ref mpk, .ref mcm])), (ml, .inl (cI, 28, .inl (nF lg))), (mr, .inl (cI, 6, .inl (nF rw1))), (mpk, .inl (cI, 4, .inl (nF (nu f1 k 0))))] := hD
      refine lv_iinc (v := nI (k + 1)) (lv' := [(3, .int (nI (k + 1))), (0, .ref mq), (1, .int (nI tg)), (2, .int (nI mk))]) hx hb dX6_choose_14 hl (k := 0) rfl (n_inc _ 1) (by decide) rfl (fun ls hl => ?_)
      refine lv_goto (tgt := 2) hx hb dX6_choose_17 (by decide) ?_
      exact ih2 (k + 1) (nu f1 k 0) _ _ _ (by omega) (by omega) (ag_s (g := fun _ => 0) hf rfl) hP hD hS hl
  exact L2 (4 - 0 + 1) 0 pk0 _ _ _ (Nat.lt_succ_self _) (by omega) (fun j hj => absurd hj (Nat.not_lt_zero j)) hP hD hS hl

set_option maxHeartbeats 1000000 in
set_option maxRecDepth 100000 in
theorem m_X6_chosen (l : Launch) (D : va_G) (cI cJ : ClassId) (sz : Nat) (mq : Nat) (mw : Nat) (slip : Nat) (h : Nat) (kd : Nat) (ms : Nat) (cnt : Nat) (ml : Nat) (nl : Nat) (mh : Nat) (hn : Nat) (mr : Nat) (rm : Nat) (mst : Nat) (lo : Nat) (mn : Nat) (mth : Nat) (lon : Nat) (mld : Nat) (mpk : Nat) (mcm : Nat) (lg : Nat → Nat) (num : Nat → Nat) (rw1 : Nat → Nat) (pk0 : Nat → Nat) (p0 : Int32) (p1 : Int32) (hnl7 : nl ≤ 7) (hlg : okL lg nl) (hbf : ∀ t, t < 8 → bfM lg t nl 0 = num t) (hsl : slip ≤ 12) (hnum : ∀ j, j < 8 → num j < 10) (hr6 : ∀ j, j < 6 → rw1 j < 6) (hkd : kd < 3) : Met l yX6_chosen wsX6_chosen ({ frames := 4, cells := 0, slots := 0, locals := 101 }) (PX D cI cJ [(mq, .inr (6, [.ref mw, .int (nI slip), .int (nI h), .int (nI kd), .ref ms, .int (nI cnt), .ref ml, .int (nI nl), .ref mh, .int (nI hn), .ref mr, .int (nI rm), .ref mst, .long (lN lo), .ref mn, .ref mth, .long (lN lon), .ref mld, .ref mpk, .ref mcm])), (ml, .inl (cI, 28, .inl (nF lg))), (mr, .inl (cI, 6, .inl (nF rw1))), (mpk, .inl (cI, 4, .inl (nF pk0)))] sz [.ref mq, .int p0, .int p1]) (QWi D (S := (Nat → Nat) × (Nat → Nat) × Nat) [(mq, .inr (6, [.ref mw, .int (nI slip), .int (nI h), .int (nI kd), .ref ms, .int (nI cnt), .ref ml, .int (nI nl), .ref mh, .int (nI hn), .ref mr, .int (nI rm), .ref mst, .long (lN lo), .ref mn, .ref mth, .long (lN lon), .ref mld, .ref mpk, .ref mcm])), (ml, .inl (cI, 28, .inl (nF lg))), (mr, .inl (cI, 6, .inl (nF rw1))), (mpk, .inl (cI, 4, .inl (nF pk0)))] sz (fun r u => r = aCh num slip kd p0 p1 ∧ (∀ j, j < 6 → u.1 j < 6)) (fun u => [(mq, .inr (6, [.ref mw, .int (nI slip), .int (nI h), .int (nI kd), .ref ms, .int (nI cnt), .ref ml, .int (nI nl), .ref mh, .int (nI hn), .ref mr, .int (nI (u.2.2)), .ref mst, .long (lN lo), .ref mn, .ref mth, .long (lN lon), .ref mld, .ref mpk, .ref mcm])), (ml, .inl (cI, 28, .inl (nF lg))), (mr, .inl (cI, 6, .inl (nF u.1))), (mpk, .inl (cI, 4, .inl (nF u.2.1)))])) 0 0 (va_A [(mq, .inr (6, [.ref mw, .int (nI slip), .int (nI h), .int (nI kd), .ref ms, .int (nI cnt), .ref ml, .int (nI nl), .ref mh, .int (nI hn), .ref mr, .int (nI rm), .ref mst, .long (lN lo), .ref mn, .ref mth, .long (lN lon), .ref mld, .ref mpk, .ref mcm])), (ml, .inl (cI, 28, .inl (nF lg))), (mr, .inl (cI, 6, .inl (nF rw1))), (mpk, .inl (cI, 4, .inl (nF pk0)))] sz) := by
  refine met_X (cc := cX6_chosen) (maxL := 4) (ret := (some .int)) (by decide) rfl (Nat.le_of_ble_eq_true rfl) ?_
  intro p e s m args below meth c Q ls A hQ hAe hAt hKB hP hD hA hl
  obtain ⟨hx, hb, hr, hml, hlk, hts, hown, hnm⟩ := hAt
  have hown : s.vm.findClass RX6 = some m.cls := hown
  have hS : va_S A s.heap s.heap [] := va_S.rf
  have hl : lv_has ls 4 [(0, .ref mq), (1, .int p0), (2, .int p1)] := hl
  have hiX6 : ∀ w ∈ u_ws RX6 TX6 20, w ∈ wsX6_chosen := by decide +kernel
  have fl38 := hts (.fieldLink RX6 38 "TaughtTonguesModel" "picked" "[I") (by decide +kernel)
  refine lv_iload_n hx hb dX6_chosen_0 rfl (lv_at hl 1 rfl) ?_
  have hPc := hP.sub (ws' := []) [] rfl
  refine r_calli hP hS (va_runS (As := [.int p0]) (rest := []) ⟨hx, hb, hml, hown, hts⟩ (m_X6_isTongue l D cI cJ p0) (va_cwS 1 hts gX6_chosen_X6_isTongue rfl rfl rfl (by decide +kernel) ⟨Nat.le_of_ble_eq_true rfl, Nat.le_of_ble_eq_true rfl⟩) ⟨PR.blind, fun U hU hW => ⟨rfl, hKB.warm hW, by rw [hU]; exact hPc⟩⟩ rfl rfl hl.1 rfl (lv_room (Nat.le_of_ble_eq_true rfl)) dX6_chosen_1 ⟨Nat.le_of_ble_eq_true rfl, Nat.le_of_ble_eq_true rfl⟩) (fun r1 H locs hw1 hP hS => ?_)
  have hw1 : r1 = bI (inR p0 0 7) := hw1
  subst hw1
  refine r_bif_ne (b := inR p0 0 7) (tgt := 9) hx hb dX6_chosen_4 (by decide) (fun c4 => ?_) (fun c4 => ?_)
  · skip
    obtain ⟨V0, -, hV0, rfl⟩ := inR_t (by decide) (by decide) (c4)
    have hV0 : V0 < 8 := by omega
    refine lv_iconst (v := nI (1)) hx hb dX6_chosen_9 (by decide) ?_
    refine lv_istore_n (lv' := [(3, .int (nI 1)), (0, .ref mq), (1, .int (nI V0)), (2, .int p1)]) hx hb dX6_chosen_10 rfl hl (by decide) rfl (fun ls hl => ?_)
    have L11 : ∀ (n : Nat) (k : Nat) (rw3 : Nat → Nat) (pk3 : Nat → Nat) (rm3 : Nat) (H : Heap) (locs : List Loc) (ls : Array Slot), 5 - k < n → (1 ≤ k ∧ k ≤ 5) → (∀ j, j < fO k → ¬ chF num slip kd (LOT V0 j) = V0) → (∀ j, j < 6 → rw3 j < 6) → va_P D vwCl [(mq, .inr (6, [.ref mw, .int (nI slip), .int (nI h), .int (nI kd), .ref ms, .int (nI cnt), .ref ml, .int (nI nl), .ref mh, .int (nI hn), .ref mr, .int (nI rm3), .ref mst, .long (lN lo), .ref mn, .ref mth, .long (lN lon), .ref mld, .ref mpk, .ref mcm])), (ml, .inl (cI, 28, .inl (nF lg))), (mr, .inl (cI, 6, .inl (nF rw3))), (mpk, .inl (cI, 4, .inl (nF pk3)))] H → va_D A [(mq, .inr (6, [.ref mw, .int (nI slip), .int (nI h), .int (nI kd), .ref ms, .int (nI cnt), .ref ml, .int (nI nl), .ref mh, .int (nI hn), .ref mr, .int (nI rm3), .ref mst, .long (lN lo), .ref mn, .ref mth, .long (lN lon), .ref mld, .ref mpk, .ref mcm])), (ml, .inl (cI, 28, .inl (nF lg))), (mr, .inl (cI, 6, .inl (nF rw3))), (mpk, .inl (cI, 4, .inl (nF pk3)))] → va_S A s.heap H locs → lv_has ls 4 [(3, .int (nI k)), (0, .ref mq), (1, .int (nI V0)), (2, .int p1)] → W p l e ({ frames := 4, cells := 0, slots := 0, locals := 101 }) s m args below meth c H locs 0 0 Q (F0 m 11 ls []) := by
      intro n
      induction n with
      | zero => intro k rw3 pk3 rm3 H locs ls hm; exact absurd hm (Nat.not_lt_zero _)
      | succ n ih11 =>
        intro k rw3 pk3 rm3 H locs ls hm hk hno hr3 hP hD hS hl
        refine lv_iload_n hx hb dX6_chosen_11 rfl (lv_at hl 0 rfl) ?_
        refine lv_iconst (v := nI (5)) hx hb dX6_chosen_12 (by decide) ?_
        refine r_icmp_ge (a := k) (b := 5) (tgt := 31) hx hb dX6_chosen_13 (by decide) (by omega) (by omega)  (fun c13 => ?_) (fun c13 => ?_)
        · skip
          obtain rfl : 5 = k := by omega
          refine lv_iload_n hx hb dX6_chosen_31 rfl (lv_at hl 0 rfl) ?_
          refine lv_iconst (v := nI (5)) hx hb dX6_chosen_32 (by decide) ?_
          refine r_icmp_ne (a := 5) (b := 5) (tgt := 39) hx hb dX6_chosen_33 (by decide) (by decide) (by decide) (fun c33 => ?_) (fun c33 => ?_)
          · exact absurd c33 (by decide)
          refine lv_bipush (v := (-6)) hx hb dX6_chosen_36 (by decide) ?_
          exact w_iret hx hb hr hlk hQ hAe (rw3, pk3, rm3) hP hD hS (by refine ⟨?_, hr3⟩; exact aCh_n c4 hV0 hno) dX6_chosen_38
        refine lv_aload_n hx hb dX6_chosen_16 rfl (lv_at hl 1 rfl) ?_
        refine lv_iload_n hx hb dX6_chosen_17 rfl (lv_at hl 2 rfl) ?_
        refine lv_iload_n hx hb dX6_chosen_18 rfl (lv_at hl 0 rfl) ?_
        have h34 := fO_le (k + 1) (by omega)
        have hmo := fO_mono k (by omega) hk.1
        have hPc := hP.sub (ws' := [(mq, .inr (6, [.ref mw, .int (nI slip), .int (nI h), .int (nI kd), .ref ms, .int (nI cnt), .ref ml, .int (nI nl), .ref mh, .int (nI hn), .ref mr, .int (nI rm3), .ref mst, .long (lN lo), .ref mn, .ref mth, .long (lN lon), .ref mld, .ref mpk, .ref mcm])), (ml, .inl (cI, 28, .inl (nF lg))), (mr, .inl (cI, 6, .inl (nF rw3))), (mpk, .inl (cI, 4, .inl (nF pk3)))]) [0, 1, 2, 3] rfl
        have hDc := hD.sub (ws' := [(mq, .inr (6, [.ref mw, .int (nI slip), .int (nI h), .int (nI kd), .ref ms, .int (nI cnt), .ref ml, .int (nI nl), .ref mh, .int (nI hn), .ref mr, .int (nI rm3), .ref mst, .long (lN lo), .ref mn, .ref mth, .long (lN lon), .ref mld, .ref mpk, .ref mcm])), (ml, .inl (cI, 28, .inl (nF lg))), (mr, .inl (cI, 6, .inl (nF rw3))), (mpk, .inl (cI, 4, .inl (nF pk3)))]) [0, 1, 2, 3] (by decide) rfl
        have hFc := va_free (wc := [(mq, .inr (6, [.ref mw, .int (nI slip), .int (nI h), .int (nI kd), .ref ms, .int (nI cnt), .ref ml, .int (nI nl), .ref mh, .int (nI hn), .ref mr, .int (nI rm3), .ref mst, .long (lN lo), .ref mn, .ref mth, .long (lN lon), .ref mld, .ref mpk, .ref mcm])), (ml, .inl (cI, 28, .inl (nF lg))), (mr, .inl (cI, 6, .inl (nF rw3))), (mpk, .inl (cI, 4, .inl (nF pk3)))]) hD hS hA [0, 1, 2, 3] rfl
        refine w_calli (wc := [(mq, .inr (6, [.ref mw, .int (nI slip), .int (nI h), .int (nI kd), .ref ms, .int (nI cnt), .ref ml, .int (nI nl), .ref mh, .int (nI hn), .ref mr, .int (nI rm3), .ref mst, .long (lN lo), .ref mn, .ref mth, .long (lN lon), .ref mld, .ref mpk, .ref mcm])), (ml, .inl (cI, 28, .inl (nF lg))), (mr, .inl (cI, 6, .inl (nF rw3))), (mpk, .inl (cI, 4, .inl (nF pk3)))]) (wr := []) hP hD hS [0, 1, 2, 3] [] rfl rfl (by decide) (by decide) hFc (va_runV (As := [.int (nI V0), .int (nI k)]) (rest := []) ⟨hx, hb, hml, hown, hts⟩ (m_X6_choose l D cI cJ _ mq mw slip h kd ms cnt ml nl mh hn mr rm3 mst lo mn mth lon mld mpk mcm lg num rw3 pk3 V0 k (hV0) (⟨hk.1, by omega⟩) (by assumption) (by assumption) (by assumption) (by assumption) (by assumption) (hr3) (by assumption)) (cwV 2 hts gX6_chosen_X6_choose rfl rfl rfl (by decide +kernel) ⟨Nat.le_of_ble_eq_true rfl, Nat.le_of_ble_eq_true rfl⟩) ⟨PX.blind, va_recv hKB.1 hP (ci := 6) (q0 := 0) rfl rfl, fun U hU hW => ⟨rfl, by rw [hU], hKB.warm hW, by rw [hU]; exact hPc, hDc.weaken (fun _ _ _ _ => trivial)⟩⟩ rfl rfl hl.1 rfl (lv_room (Nat.le_of_ble_eq_true rfl)) dX6_chosen_19 ⟨Nat.le_of_ble_eq_true rfl, Nat.le_of_ble_eq_true rfl⟩) (fun r2 u19 H locs hw19 hP hD hS => ?_)
        obtain ⟨rw9_19, pk9_19⟩ := u19
        have hP : va_P D vwCl [(mq, .inr (6, [.ref mw, .int (nI slip), .int (nI h), .int (nI kd), .ref ms, .int (nI cnt), .ref ml, .int (nI nl), .ref mh, .int (nI hn), .ref mr, .int (nI k), .ref mst, .long (lN lo), .ref mn, .ref mth, .long (lN lon), .ref mld, .ref mpk, .ref mcm])), (ml, .inl (cI, 28, .inl (nF lg))), (mr, .inl (cI, 6, .inl (nF rw9_19))), (mpk, .inl (cI, 4, .inl (nF pk9_19)))] _ := hP
        have hD : va_D A [(mq, .inr (6, [.ref mw, .int (nI slip), .int (nI h), .int (nI kd), .ref ms, .int (nI cnt), .ref ml, .int (nI nl), .ref mh, .int (nI hn), .ref mr, .int (nI k), .ref mst, .long (lN lo), .ref mn, .ref mth, .long (lN lon), .ref mld, .ref mpk, .ref mcm])), (ml, .inl (cI, 28, .inl (nF lg))), (mr, .inl (cI, 6, .inl (nF rw9_19))), (mpk, .inl (cI, 4, .inl (nF pk9_19)))] := hD
        have hw19 : r2 = bI (decide (cqI num slip kd V0 k < fO (k + 1))) ∧ ((∀ j, j < 6 → rw9_19 j < 6) ∧ (cqI num slip kd V0 k < fO (k + 1) → ∀ x, x < k → pk9_19 x = PK (cqI num slip kd V0 k) x)) := hw19
        obtain ⟨hw19, hE19⟩ := hw19
        subst hw19
        have hP : va_P D vwCl [(mq, .inr (6, [.ref mw, .int (nI slip), .int (nI h), .int (nI kd), .ref ms, .int (nI cnt), .ref ml, .int (nI nl), .ref mh, .int (nI hn), .ref mr, .int (nI k), .ref mst, .long (lN lo), .ref mn, .ref mth, .long (lN lon), .ref mld, .ref mpk, .ref mcm])), (ml, .inl (cI, 28, .inl (nF lg))), (mr, .inl (cI, 6, .inl (nF rw9_19))), (mpk, .inl (cI, 4, .inl (nF pk9_19)))] _ := hP
        have hD : va_D A [(mq, .inr (6, [.ref mw, .int (nI slip), .int (nI h), .int (nI kd), .ref ms, .int (nI cnt), .ref ml, .int (nI nl), .ref mh, .int (nI hn), .ref mr, .int (nI k), .ref mst, .long (lN lo), .ref mn, .ref mth, .long (lN lon), .ref mld, .ref mpk, .ref mcm])), (ml, .inl (cI, 28, .inl (nF lg))), (mr, .inl (cI, 6, .inl (nF rw9_19))), (mpk, .inl (cI, 4, .inl (nF pk9_19)))] := hD
        refine r_bif_ne (b := decide (cqI num slip kd V0 k < fO (k + 1))) (tgt := 31) hx hb dX6_chosen_22 (by decide) (fun c22 => ?_) (fun c22 => ?_)
        · skip
          have hlt := of_decide_eq_true c22
          obtain ⟨g1, g2, g3⟩ := cqI_h (by omega) hlt
          have hi34 : cqI num slip kd V0 k < 34 := by omega
          have hszk := szP_k k (by omega) _ hi34 ⟨hk.1, g1, hlt⟩
          have hno2 := no_j hno g3
          have hcy := aCh_y (p1 := p1) c4 hV0 hi34 hszk g2 hno2
          refine lv_iload_n hx hb dX6_chosen_31 rfl (lv_at hl 0 rfl) ?_
          refine lv_iconst (v := nI (5)) hx hb dX6_chosen_32 (by decide) ?_
          refine r_icmp_ne (a := k) (b := 5) (tgt := 39) hx hb dX6_chosen_33 (by decide) (by omega) (by omega)  (fun c33 => ?_) (fun c33 => ?_)
          · skip
            refine lv_iload_n hx hb dX6_chosen_39 rfl (lv_at hl 3 rfl) ?_
            refine lv_iconst (v := (-1)) hx hb dX6_chosen_40 (by decide) ?_
            refine lv_icmp_ne (tgt := 48) hx hb dX6_chosen_41 (by decide) (fun c41 => ?_) (fun c41 => ?_)
            · skip
              refine lv_iload_n hx hb dX6_chosen_48 rfl (lv_at hl 3 rfl) ?_
              refine lv_i2l (v := p1.toInt64) hx hb dX6_chosen_49 rfl ?_
              refine lv_lconst (v := lN (0)) hx hb dX6_chosen_50 (by decide) ?_
              refine lv_iload_n hx hb dX6_chosen_51 rfl (lv_at hl 0 rfl) ?_
              refine lv_iconst (v := nI (1)) hx hb dX6_chosen_52 (by decide) ?_
              refine r_isub (a := k) (b := 1) hx hb dX6_chosen_53 (by omega) ?_
              refine r_i2l (a := k - 1) hx hb dX6_chosen_54 (by omega) ?_
              have hPc := hP.sub (ws' := []) [] rfl
              refine r_calli hP hS (va_runS (As := [.long (p1.toInt64), .long (lN 0), .long (lN (k - 1))]) (rest := []) ⟨hx, hb, hml, hown, hts⟩ (m_X6_in l D cI cJ (p1.toInt64) (lN (0)) (lN (k - 1))) (va_cwS 3 hts gX6_chosen_X6_in rfl rfl rfl (by decide +kernel) ⟨Nat.le_of_ble_eq_true rfl, Nat.le_of_ble_eq_true rfl⟩) ⟨PR.blind, fun U hU hW => ⟨rfl, hKB.warm hW, by rw [hU]; exact hPc⟩⟩ rfl rfl hl.1 rfl (lv_room (Nat.le_of_ble_eq_true rfl)) dX6_chosen_55 ⟨Nat.le_of_ble_eq_true rfl, Nat.le_of_ble_eq_true rfl⟩) (fun r3 H locs hw55 hP hS => ?_)
              have hw55 : r3 = bI (inL (p1.toInt64) (lN (0)) (lN (k - 1))) := hw55
              subst hw55
              refine lv_topi (fun z4 ez4 => ?_)
              obtain rfl : z4 = bI (inR p1 0 (k - 1)) := ez4.trans (congrArg bI (inL_R (by decide) (by omega)))
              refine r_bif_eq (b := inR p1 0 (k - 1)) (tgt := 70) hx hb dX6_chosen_58 (by decide) (fun c58 => ?_) (fun c58 => ?_)
              · skip
                refine lv_bipush (v := (-6)) hx hb dX6_chosen_70 (by decide) ?_
                exact w_iret hx hb hr hlk hQ hAe (rw9_19, pk9_19, k) hP hD hS (by refine ⟨?_, hE19.1⟩; rw [hcy, if_neg c41, c58]; rfl) dX6_chosen_72
              obtain ⟨V1, -, hV1, rfl⟩ := inR_t (by omega) (by omega) c58
              refine lv_aload_n hx hb dX6_chosen_61 rfl (lv_at hl 1 rfl) ?_
              refine va_get (D := D) (ci := 6) (v := .ref mpk) (C := RX6) (T := TX6) (N := 20) hx hb hts hiX6 hown hKB.1 hP 0 rfl rfl 18 (by decide) fl38 (fun _ h9 => h9) rfl dX6_chosen_62 ?_
              refine lv_iload_n hx hb dX6_chosen_65 rfl (lv_at hl 3 rfl) ?_
              refine r_iald (i := V1) (v := nI (pk9_19 V1)) hx hb hKB.1 hP 3 0 rfl rfl (by omega) (by decide) (rfl) dX6_chosen_66 ?_
              refine lv_goto (tgt := 72) hx hb dX6_chosen_67 (by decide) ?_
              exact w_iret hx hb hr hlk hQ hAe (rw9_19, pk9_19, k) hP hD hS (by refine ⟨?_, hE19.1⟩; rw [hcy, if_neg c41, if_pos c58, tN_n (show V1 < 2 ^ 31 by omega), LOTp_k hV0 hi34 hszk (by omega), hE19.2 hlt V1 (by omega)]) dX6_chosen_72
            refine lv_iload_n hx hb dX6_chosen_44 rfl (lv_at hl 0 rfl) ?_
            refine lv_goto (tgt := 72) hx hb dX6_chosen_45 (by decide) ?_
            exact w_iret hx hb hr hlk hQ hAe (rw9_19, pk9_19, k) hP hD hS (by refine ⟨?_, hE19.1⟩; rw [hcy, if_pos c41]) dX6_chosen_72
          exact absurd c33 (by omega)
        refine lv_iinc (v := nI (k + 1)) (lv' := [(3, .int (nI (k + 1))), (0, .ref mq), (1, .int (nI V0)), (2, .int p1)]) hx hb dX6_chosen_25 hl (k := 0) rfl (n_inc _ 1) (by decide) rfl (fun ls hl => ?_)
        refine lv_goto (tgt := 11) hx hb dX6_chosen_28 (by decide) ?_
        exact ih11 (k + 1) rw9_19 pk9_19 k _ _ _ (by omega) (by omega) (no_n hno (cqI_f (by omega) (of_decide_eq_false c22))) (hE19.1) hP hD hS hl
    exact L11 (5 - 1 + 1) 1 rw1 pk0 rm _ _ _ (Nat.lt_succ_self _) (by omega) (fun j hj => absurd hj (Nat.not_lt_zero j)) (hr6) hP hD hS hl
  refine lv_iconst (v := (-1)) hx hb dX6_chosen_7 (by decide) ?_
  exact w_iret hx hb hr hlk hQ hAe (rw1, pk0, rm) hP hD hS (by refine ⟨?_, hr6⟩; exact aCh_0 c4) dX6_chosen_8


set_option maxHeartbeats 4000000 in
set_option maxRecDepth 100000 in
theorem m_X6_before (l : Launch) (D : va_G) (cI cJ : ClassId) (sz : Nat) (mq : Nat) (mw : Nat) (slip : Nat) (h : Nat) (kd : Nat) (ms : Nat) (cnt : Nat) (ml : Nat) (nl : Nat) (mh : Nat) (hn : Nat) (mr : Nat) (rm : Nat) (mst : Nat) (lo : Nat) (mn : Nat) (mth : Nat) (lon : Nat) (mld : Nat) (mpk : Nat) (mcm : Nat) (cd : Nat → Nat) (lg : Nat → Nat) (num : Nat → Nat) (hcnt : cnt ≤ 40) (hcd : ∀ j, cd j < 127) (hnl7 : nl ≤ 7) (hlg : okL lg nl) (hbf : ∀ t, t < 8 → bfM lg t nl 0 = num t) : Met l yX6_before wsX6_before ({ frames := 2, cells := 0, slots := 0, locals := 49 }) (PX D cI cJ [(mq, .inr (6, [.ref mw, .int (nI slip), .int (nI h), .int (nI kd), .ref ms, .int (nI cnt), .ref ml, .int (nI nl), .ref mh, .int (nI hn), .ref mr, .int (nI rm), .ref mst, .long (lN lo), .ref mn, .ref mth, .long (lN lon), .ref mld, .ref mpk, .ref mcm])), (ms, .inl (cI, 40, .inl (nF cd))), (ml, .inl (cI, 28, .inl (nF lg)))] sz [.ref mq]) (QWi D (S := (Nat → Nat) × Nat × Nat) [(mq, .inr (6, [.ref mw, .int (nI slip), .int (nI h), .int (nI kd), .ref ms, .int (nI cnt), .ref ml, .int (nI nl), .ref mh, .int (nI hn), .ref mr, .int (nI rm), .ref mst, .long (lN lo), .ref mn, .ref mth, .long (lN lon), .ref mld, .ref mpk, .ref mcm])), (ms, .inl (cI, 40, .inl (nF cd))), (ml, .inl (cI, 28, .inl (nF lg)))] sz (fun r u => r = aBf cd cnt ∧ u.2.2 = uBc cd cnt ∧ (u.2.1 ≤ 7 ∧ okL u.1 u.2.1 ∧ ∀ t, t < 8 → bfM u.1 t u.2.1 0 = uBn num cd cnt t)) (fun u => [(mq, .inr (6, [.ref mw, .int (nI slip), .int (nI h), .int (nI kd), .ref ms, .int (nI (u.2.2)), .ref ml, .int (nI (u.2.1)), .ref mh, .int (nI hn), .ref mr, .int (nI rm), .ref mst, .long (lN lo), .ref mn, .ref mth, .long (lN lon), .ref mld, .ref mpk, .ref mcm])), (ms, .inl (cI, 40, .inl (nF cd))), (ml, .inl (cI, 28, .inl (nF u.1)))])) 0 0 (va_A [(mq, .inr (6, [.ref mw, .int (nI slip), .int (nI h), .int (nI kd), .ref ms, .int (nI cnt), .ref ml, .int (nI nl), .ref mh, .int (nI hn), .ref mr, .int (nI rm), .ref mst, .long (lN lo), .ref mn, .ref mth, .long (lN lon), .ref mld, .ref mpk, .ref mcm])), (ms, .inl (cI, 40, .inl (nF cd))), (ml, .inl (cI, 28, .inl (nF lg)))] sz) := by
  refine met_X (cc := cX6_before) (maxL := 3) (ret := (some .int)) (by decide) rfl (Nat.le_of_ble_eq_true rfl) ?_
  intro p e s m args below meth c Q ls A hQ hAe hAt hKB hP hD hA hl
  obtain ⟨hx, hb, hr, hml, hlk, hts, hown, hnm⟩ := hAt
  have hown : s.vm.findClass RX6 = some m.cls := hown
  have hS : va_S A s.heap s.heap [] := va_S.rf
  have hl : lv_has ls 3 [(0, .ref mq)] := hl
  have hiX6 : ∀ w ∈ u_ws RX6 TX6 20, w ∈ wsX6_before := by decide +kernel
  have fl78 := hts (.fieldLink RX6 78 "TaughtTonguesModel" "signMany" "I") (by decide +kernel)
  have fl89 := hts (.fieldLink RX6 89 "TaughtTonguesModel" "lines" "I") (by decide +kernel)
  have fl16 := hts (.fieldLink RX6 16 "TaughtTonguesModel" "lineSigns" "[I") (by decide +kernel)
  have fl13 := hts (.fieldLink RX6 13 "TaughtTonguesModel" "signs" "[I") (by decide +kernel)
  refine lv_aload_n hx hb dX6_before_0 rfl (lv_at hl 0 rfl) ?_
  have hPc := hP.sub (ws' := [(mq, .inr (6, [.ref mw, .int (nI slip), .int (nI h), .int (nI kd), .ref ms, .int (nI cnt), .ref ml, .int (nI nl), .ref mh, .int (nI hn), .ref mr, .int (nI rm), .ref mst, .long (lN lo), .ref mn, .ref mth, .long (lN lon), .ref mld, .ref mpk, .ref mcm])), (ms, .inl (cI, 40, .inl (nF cd)))]) [0, 1] rfl
  refine r_calli hP hS (va_runV (As := []) (rest := []) ⟨hx, hb, hml, hown, hts⟩ (m_X6_fault l D cI cJ mq mw slip h kd ms cnt ml nl mh hn mr rm mst lo mn mth lon mld mpk mcm cd (by assumption) (by assumption)) (cwV 0 hts gX6_before_X6_fault rfl rfl rfl (by decide +kernel) ⟨Nat.le_of_ble_eq_true rfl, Nat.le_of_ble_eq_true rfl⟩) ⟨PR.blind, va_recv hKB.1 hP (ci := 6) (q0 := 0) rfl rfl, fun U hU hW => ⟨rfl, hKB.warm hW, by rw [hU]; exact hPc⟩⟩ rfl rfl hl.1 rfl (lv_room (Nat.le_of_ble_eq_true rfl)) dX6_before_1 ⟨Nat.le_of_ble_eq_true rfl, Nat.le_of_ble_eq_true rfl⟩) (fun r1 H locs hw1 hP hS => ?_)
  have hw1 : r1 = ffI cd cnt := hw1
  subst hw1
  refine lv_if_lt (tgt := 10) hx hb dX6_before_4 (by decide) (fun c4 => ?_) (fun c4 => ?_)
  · skip
    have c6 := ffI_neg c4 (by omega)
    obtain ⟨hnl, hok⟩ := okT_of c6 (by omega) rfl
    refine lv_aload_n hx hb dX6_before_10 rfl (lv_at hl 0 rfl) ?_
    refine lv_aload_n hx hb dX6_before_11 rfl (lv_at hl 0 rfl) ?_
    refine va_get (D := D) (ci := 6) (v := .int (nI cnt)) (C := RX6) (T := TX6) (N := 20) hx hb hts hiX6 hown hKB.1 hP 0 rfl rfl 5 (by decide) fl78 (fun _ h9 => h9) rfl dX6_before_12 ?_
    refine lv_iconst (v := nI (1)) hx hb dX6_before_15 (by decide) ?_
    refine r_iadd (a := cnt) (b := 1) hx hb dX6_before_16  ?_
    refine lv_bipush (v := nI (6)) hx hb dX6_before_17 (by decide) ?_
    refine r_idiv (a := cnt + 1) (b := 6) hx hb dX6_before_19 (by omega) (by omega) (by omega) ?_
    refine va_put (D := D) (ci := 6) (v := .int (nI ((cnt + 1) / 6))) (ty := .int) (C := RX6) (T := TX6) (N := 20) hx hb hts hiX6 tyX6 tyX6_ok nmX6 hown hKB.1 hP hD hS 0 rfl rfl 7 (by decide) fl89 (fun _ h9 => h9) rfl (by decide +kernel) rfl rfl (Nat.le_of_ble_eq_true rfl) dX6_before_20 (fun H locs hP hD hS => ?_)
    have hP : va_P D vwCl [(mq, .inr (6, [.ref mw, .int (nI slip), .int (nI h), .int (nI kd), .ref ms, .int (nI cnt), .ref ml, .int (nI ((cnt + 1) / 6)), .ref mh, .int (nI hn), .ref mr, .int (nI rm), .ref mst, .long (lN lo), .ref mn, .ref mth, .long (lN lon), .ref mld, .ref mpk, .ref mcm])), (ms, .inl (cI, 40, .inl (nF cd))), (ml, .inl (cI, 28, .inl (nF lg)))] _ := hP
    have hD : va_D A [(mq, .inr (6, [.ref mw, .int (nI slip), .int (nI h), .int (nI kd), .ref ms, .int (nI cnt), .ref ml, .int (nI ((cnt + 1) / 6)), .ref mh, .int (nI hn), .ref mr, .int (nI rm), .ref mst, .long (lN lo), .ref mn, .ref mth, .long (lN lon), .ref mld, .ref mpk, .ref mcm])), (ms, .inl (cI, 40, .inl (nF cd))), (ml, .inl (cI, 28, .inl (nF lg)))] := hD
    refine lv_iconst (v := nI (0)) hx hb dX6_before_23 (by decide) ?_
    refine lv_istore_n (lv' := [(1, .int (nI 0)), (0, .ref mq)]) hx hb dX6_before_24 rfl hl (by decide) rfl (fun ls hl => ?_)
    have L25 : ∀ (n : Nat) (k : Nat) (lg1 : Nat → Nat) (H : Heap) (locs : List Loc) (ls : Array Slot), (cnt + 1) / 6 - k < n → (k ≤ (cnt + 1) / 6) → (cpL cd lg lg1 k 0) → va_P D vwCl [(mq, .inr (6, [.ref mw, .int (nI slip), .int (nI h), .int (nI kd), .ref ms, .int (nI cnt), .ref ml, .int (nI ((cnt + 1) / 6)), .ref mh, .int (nI hn), .ref mr, .int (nI rm), .ref mst, .long (lN lo), .ref mn, .ref mth, .long (lN lon), .ref mld, .ref mpk, .ref mcm])), (ms, .inl (cI, 40, .inl (nF cd))), (ml, .inl (cI, 28, .inl (nF lg1)))] H → va_D A [(mq, .inr (6, [.ref mw, .int (nI slip), .int (nI h), .int (nI kd), .ref ms, .int (nI cnt), .ref ml, .int (nI ((cnt + 1) / 6)), .ref mh, .int (nI hn), .ref mr, .int (nI rm), .ref mst, .long (lN lo), .ref mn, .ref mth, .long (lN lon), .ref mld, .ref mpk, .ref mcm])), (ms, .inl (cI, 40, .inl (nF cd))), (ml, .inl (cI, 28, .inl (nF lg1)))] → va_S A s.heap H locs → lv_has ls 3 [(1, .int (nI k)), (0, .ref mq)] → W p l e ({ frames := 2, cells := 0, slots := 0, locals := 49 }) s m args below meth c H locs 0 0 Q (F0 m 25 ls []) := by
      intro n
      induction n with
      | zero => intro k lg1 H locs ls hm; exact absurd hm (Nat.not_lt_zero _)
      | succ n ih25 =>
        intro k lg1 H locs ls hm hk hc hP hD hS hl
        refine lv_iload_n hx hb dX6_before_25 rfl (lv_at hl 0 rfl) ?_
        refine lv_aload_n hx hb dX6_before_26 rfl (lv_at hl 1 rfl) ?_
        refine va_get (D := D) (ci := 6) (v := .int (nI ((cnt + 1) / 6))) (C := RX6) (T := TX6) (N := 20) hx hb hts hiX6 hown hKB.1 hP 0 rfl rfl 7 (by decide) fl89 (fun _ h9 => h9) rfl dX6_before_27 ?_
        refine r_icmp_ge (a := k) (b := (cnt + 1) / 6) (tgt := 97) hx hb dX6_before_30 (by decide) (by omega) (by omega)  (fun c30 => ?_) (fun c30 => ?_)
        · skip
          obtain rfl : (cnt + 1) / 6 = k := by omega
          refine lv_aload_n hx hb dX6_before_97 rfl (lv_at hl 1 rfl) ?_
          refine lv_iconst (v := nI (0)) hx hb dX6_before_98 (by decide) ?_
          refine va_put (D := D) (ci := 6) (v := .int (nI 0)) (ty := .int) (C := RX6) (T := TX6) (N := 20) hx hb hts hiX6 tyX6 tyX6_ok nmX6 hown hKB.1 hP hD hS 0 rfl rfl 5 (by decide) fl78 (fun _ h9 => h9) rfl (by decide +kernel) rfl rfl (Nat.le_of_ble_eq_true rfl) dX6_before_99 (fun H locs hP hD hS => ?_)
          have hP : va_P D vwCl [(mq, .inr (6, [.ref mw, .int (nI slip), .int (nI h), .int (nI kd), .ref ms, .int (nI 0), .ref ml, .int (nI ((cnt + 1) / 6)), .ref mh, .int (nI hn), .ref mr, .int (nI rm), .ref mst, .long (lN lo), .ref mn, .ref mth, .long (lN lon), .ref mld, .ref mpk, .ref mcm])), (ms, .inl (cI, 40, .inl (nF cd))), (ml, .inl (cI, 28, .inl (nF lg1)))] _ := hP
          have hD : va_D A [(mq, .inr (6, [.ref mw, .int (nI slip), .int (nI h), .int (nI kd), .ref ms, .int (nI 0), .ref ml, .int (nI ((cnt + 1) / 6)), .ref mh, .int (nI hn), .ref mr, .int (nI rm), .ref mst, .long (lN lo), .ref mn, .ref mth, .long (lN lon), .ref mld, .ref mpk, .ref mcm])), (ms, .inl (cI, 40, .inl (nF cd))), (ml, .inl (cI, 28, .inl (nF lg1)))] := hD
          refine lv_aload_n hx hb dX6_before_102 rfl (lv_at hl 1 rfl) ?_
          refine va_get (D := D) (ci := 6) (v := .int (nI ((cnt + 1) / 6))) (C := RX6) (T := TX6) (N := 20) hx hb hts hiX6 hown hKB.1 hP 0 rfl rfl 7 (by decide) fl89 (fun _ h9 => h9) rfl dX6_before_103 ?_
          exact w_iret hx hb hr hlk hQ hAe (lg1, (cnt + 1) / 6, 0) hP hD hS (by exact ⟨by rw [aBf, if_pos c6], by rw [uBc, if_pos c6], (show (cnt + 1) / 6 ≤ 7 by omega), okL_of hc hok, fun t ht => by rw [uBn, if_pos c6]; exact bfM_nfr hc _ 0 (Nat.zero_add _)⟩) dX6_before_106
        have hdig := (hok k c30).2
        refine lv_iconst (v := nI (0)) hx hb dX6_before_33 (by decide) ?_
        refine lv_istore_n (lv' := [(2, .int (nI 0)), (1, .int (nI k)), (0, .ref mq)]) hx hb dX6_before_34 rfl hl (by decide) rfl (fun ls hl => ?_)
        have L35 : ∀ (n : Nat) (m3 : Nat) (lg2 : Nat → Nat) (H : Heap) (locs : List Loc) (ls : Array Slot), 3 - m3 < n → (m3 ≤ 3) → (cpL cd lg lg2 k m3) → va_P D vwCl [(mq, .inr (6, [.ref mw, .int (nI slip), .int (nI h), .int (nI kd), .ref ms, .int (nI cnt), .ref ml, .int (nI ((cnt + 1) / 6)), .ref mh, .int (nI hn), .ref mr, .int (nI rm), .ref mst, .long (lN lo), .ref mn, .ref mth, .long (lN lon), .ref mld, .ref mpk, .ref mcm])), (ms, .inl (cI, 40, .inl (nF cd))), (ml, .inl (cI, 28, .inl (nF lg2)))] H → va_D A [(mq, .inr (6, [.ref mw, .int (nI slip), .int (nI h), .int (nI kd), .ref ms, .int (nI cnt), .ref ml, .int (nI ((cnt + 1) / 6)), .ref mh, .int (nI hn), .ref mr, .int (nI rm), .ref mst, .long (lN lo), .ref mn, .ref mth, .long (lN lon), .ref mld, .ref mpk, .ref mcm])), (ms, .inl (cI, 40, .inl (nF cd))), (ml, .inl (cI, 28, .inl (nF lg2)))] → va_S A s.heap H locs → lv_has ls 3 [(2, .int (nI m3)), (1, .int (nI k)), (0, .ref mq)] → W p l e ({ frames := 2, cells := 0, slots := 0, locals := 49 }) s m args below meth c H locs 0 0 Q (F0 m 35 ls []) := by
          intro n
          induction n with
          | zero => intro m3 lg2 H locs ls hm; exact absurd hm (Nat.not_lt_zero _)
          | succ n ih35 =>
            intro m3 lg2 H locs ls hm hm3 hc2 hP hD hS hl
            refine lv_iload_n hx hb dX6_before_35 rfl (lv_at hl 0 rfl) ?_
            refine lv_iconst (v := nI (3)) hx hb dX6_before_36 (by decide) ?_
            refine r_icmp_ge (a := m3) (b := 3) (tgt := 67) hx hb dX6_before_37 (by decide) (by omega) (by omega)  (fun c37 => ?_) (fun c37 => ?_)
            · skip
              obtain rfl : 3 = m3 := by omega
              refine lv_aload_n hx hb dX6_before_67 rfl (lv_at hl 2 rfl) ?_
              refine va_get (D := D) (ci := 6) (v := .ref ml) (C := RX6) (T := TX6) (N := 20) hx hb hts hiX6 hown hKB.1 hP 0 rfl rfl 6 (by decide) fl16 (fun _ h9 => h9) rfl dX6_before_68 ?_
              refine lv_iconst (v := nI (4)) hx hb dX6_before_71 (by decide) ?_
              refine lv_iload_n hx hb dX6_before_72 rfl (lv_at hl 1 rfl) ?_
              refine r_imul (a := 4) (b := k) hx hb dX6_before_73  ?_
              refine lv_iconst (v := nI (3)) hx hb dX6_before_74 (by decide) ?_
              refine r_iadd (a := 4 * k) (b := 3) hx hb dX6_before_75  ?_
              refine lv_aload_n hx hb dX6_before_76 rfl (lv_at hl 2 rfl) ?_
              refine va_get (D := D) (ci := 6) (v := .ref ms) (C := RX6) (T := TX6) (N := 20) hx hb hts hiX6 hown hKB.1 hP 0 rfl rfl 4 (by decide) fl13 (fun _ h9 => h9) rfl dX6_before_77 ?_
              refine lv_bipush (v := nI (6)) hx hb dX6_before_80 (by decide) ?_
              refine lv_iload_n hx hb dX6_before_82 rfl (lv_at hl 1 rfl) ?_
              refine r_imul (a := 6) (b := k) hx hb dX6_before_83  ?_
              refine lv_iconst (v := nI (4)) hx hb dX6_before_84 (by decide) ?_
              refine r_iadd (a := 6 * k) (b := 4) hx hb dX6_before_85  ?_
              refine r_iald (i := (6 * k) + 4) (v := nI (cd ((6 * k) + 4))) hx hb hKB.1 hP 1 0 rfl rfl (by omega) (by decide) (rfl) dX6_before_86 ?_
              refine lv_bipush (v := nI (48)) hx hb dX6_before_87 (by decide) ?_
              refine r_isub (a := cd ((6 * k) + 4)) (b := 48) hx hb dX6_before_89 (by omega) ?_
              refine r_iastN (i := (4 * k) + 3) hx hb hKB.1 hP hD hS 2 0 rfl rfl (by omega) (by decide) dX6_before_90 (fun H locs hP hD hS => ?_)
              have hP : va_P D vwCl [(mq, .inr (6, [.ref mw, .int (nI slip), .int (nI h), .int (nI kd), .ref ms, .int (nI cnt), .ref ml, .int (nI ((cnt + 1) / 6)), .ref mh, .int (nI hn), .ref mr, .int (nI rm), .ref mst, .long (lN lo), .ref mn, .ref mth, .long (lN lon), .ref mld, .ref mpk, .ref mcm])), (ms, .inl (cI, 40, .inl (nF cd))), (ml, .inl (cI, 28, .inl (nF (nu lg2 ((4 * k) + 3) ((cd ((6 * k) + 4)) - 48)))))] _ := hP
              have hD : va_D A [(mq, .inr (6, [.ref mw, .int (nI slip), .int (nI h), .int (nI kd), .ref ms, .int (nI cnt), .ref ml, .int (nI ((cnt + 1) / 6)), .ref mh, .int (nI hn), .ref mr, .int (nI rm), .ref mst, .long (lN lo), .ref mn, .ref mth, .long (lN lon), .ref mld, .ref mpk, .ref mcm])), (ms, .inl (cI, 40, .inl (nF cd))), (ml, .inl (cI, 28, .inl (nF (nu lg2 ((4 * k) + 3) ((cd ((6 * k) + 4)) - 48)))))] := hD
              refine lv_iinc (v := nI (k + 1)) (lv' := [(1, .int (nI (k + 1))), (2, .int (nI 3)), (0, .ref mq)]) hx hb dX6_before_91 hl (k := 1) rfl (n_inc _ 1) (by decide) rfl (fun ls hl => ?_)
              refine lv_goto (tgt := 25) hx hb dX6_before_94 (by decide) ?_
              exact ih25 (k + 1) (nu lg2 ((4 * k) + 3) ((cd ((6 * k) + 4)) - 48)) _ _ _ (by omega) (by omega) (cpL_n hc2) hP hD hS (lv_sub hl [0, 2] rfl)
            refine lv_aload_n hx hb dX6_before_40 rfl (lv_at hl 2 rfl) ?_
            refine va_get (D := D) (ci := 6) (v := .ref ml) (C := RX6) (T := TX6) (N := 20) hx hb hts hiX6 hown hKB.1 hP 0 rfl rfl 6 (by decide) fl16 (fun _ h9 => h9) rfl dX6_before_41 ?_
            refine lv_iconst (v := nI (4)) hx hb dX6_before_44 (by decide) ?_
            refine lv_iload_n hx hb dX6_before_45 rfl (lv_at hl 1 rfl) ?_
            refine r_imul (a := 4) (b := k) hx hb dX6_before_46  ?_
            refine lv_iload_n hx hb dX6_before_47 rfl (lv_at hl 0 rfl) ?_
            refine r_iadd (a := 4 * k) (b := m3) hx hb dX6_before_48  ?_
            refine lv_aload_n hx hb dX6_before_49 rfl (lv_at hl 2 rfl) ?_
            refine va_get (D := D) (ci := 6) (v := .ref ms) (C := RX6) (T := TX6) (N := 20) hx hb hts hiX6 hown hKB.1 hP 0 rfl rfl 4 (by decide) fl13 (fun _ h9 => h9) rfl dX6_before_50 ?_
            refine lv_bipush (v := nI (6)) hx hb dX6_before_53 (by decide) ?_
            refine lv_iload_n hx hb dX6_before_55 rfl (lv_at hl 1 rfl) ?_
            refine r_imul (a := 6) (b := k) hx hb dX6_before_56  ?_
            refine lv_iload_n hx hb dX6_before_57 rfl (lv_at hl 0 rfl) ?_
            refine r_iadd (a := 6 * k) (b := m3) hx hb dX6_before_58  ?_
            refine r_iald (i := (6 * k) + m3) (v := nI (cd ((6 * k) + m3))) hx hb hKB.1 hP 1 0 rfl rfl (by omega) (by decide) (rfl) dX6_before_59 ?_
            refine r_iastN (i := (4 * k) + m3) hx hb hKB.1 hP hD hS 2 0 rfl rfl (by omega) (by decide) dX6_before_60 (fun H locs hP hD hS => ?_)
            have hP : va_P D vwCl [(mq, .inr (6, [.ref mw, .int (nI slip), .int (nI h), .int (nI kd), .ref ms, .int (nI cnt), .ref ml, .int (nI ((cnt + 1) / 6)), .ref mh, .int (nI hn), .ref mr, .int (nI rm), .ref mst, .long (lN lo), .ref mn, .ref mth, .long (lN lon), .ref mld, .ref mpk, .ref mcm])), (ms, .inl (cI, 40, .inl (nF cd))), (ml, .inl (cI, 28, .inl (nF (nu lg2 ((4 * k) + m3) (cd ((6 * k) + m3))))))] _ := hP
            have hD : va_D A [(mq, .inr (6, [.ref mw, .int (nI slip), .int (nI h), .int (nI kd), .ref ms, .int (nI cnt), .ref ml, .int (nI ((cnt + 1) / 6)), .ref mh, .int (nI hn), .ref mr, .int (nI rm), .ref mst, .long (lN lo), .ref mn, .ref mth, .long (lN lon), .ref mld, .ref mpk, .ref mcm])), (ms, .inl (cI, 40, .inl (nF cd))), (ml, .inl (cI, 28, .inl (nF (nu lg2 ((4 * k) + m3) (cd ((6 * k) + m3))))))] := hD
            refine lv_iinc (v := nI (m3 + 1)) (lv' := [(2, .int (nI (m3 + 1))), (1, .int (nI k)), (0, .ref mq)]) hx hb dX6_before_61 hl (k := 0) rfl (n_inc _ 1) (by decide) rfl (fun ls hl => ?_)
            refine lv_goto (tgt := 35) hx hb dX6_before_64 (by decide) ?_
            exact ih35 (m3 + 1) (nu lg2 ((4 * k) + m3) (cd ((6 * k) + m3))) _ _ _ (by omega) (by omega) (cpL_s hc2 c37) hP hD hS hl
        exact L35 (3 - 0 + 1) 0 lg1 _ _ _ (Nat.lt_succ_self _) (by omega) (hc) hP hD hS hl
    exact L25 ((cnt + 1) / 6 - 0 + 1) 0 lg _ _ _ (Nat.lt_succ_self _) (by omega) (⟨fun a ha => absurd ha (Nat.not_lt_zero a), fun b hb => absurd hb (Nat.not_lt_zero b)⟩) hP hD hS hl
  refine lv_bipush (v := (-5)) hx hb dX6_before_7 (by decide) ?_
  exact w_iret hx hb hr hlk hQ hAe (lg, nl, cnt) hP hD hS (by have c6 : ¬ ffI cd cnt = -6 := (fun q => c4 (by rw [q]; decide)); exact ⟨by rw [aBf, if_neg c6], by rw [uBc, if_neg c6], hnl7, hlg, fun t ht => by rw [uBn, if_neg c6]; exact hbf t ht⟩) dX6_before_9

set_option maxHeartbeats 4000000 in
set_option maxRecDepth 100000 in
theorem m_X6_hear (l : Launch) (D : va_G) (cI cJ : ClassId) (sz : Nat) (mq : Nat) (mw : Nat) (slip : Nat) (h : Nat) (kd : Nat) (ms : Nat) (cnt : Nat) (ml : Nat) (nl : Nat) (mh : Nat) (hn : Nat) (mr : Nat) (rm : Nat) (mst : Nat) (lo : Nat) (mn : Nat) (mth : Nat) (lon : Nat) (mld : Nat) (mpk : Nat) (mcm : Nat) (hs : Nat → Nat) (p0 : Int32) (p1 : Int32) (hn6 : hn ≤ 6) : Met l yX6_hear wsX6_hear ({ frames := 2, cells := 0, slots := 0, locals := 45 }) (PX D cI cJ [(mq, .inr (6, [.ref mw, .int (nI slip), .int (nI h), .int (nI kd), .ref ms, .int (nI cnt), .ref ml, .int (nI nl), .ref mh, .int (nI hn), .ref mr, .int (nI rm), .ref mst, .long (lN lo), .ref mn, .ref mth, .long (lN lon), .ref mld, .ref mpk, .ref mcm])), (mh, .inl (cI, 6, .inl (nF hs)))] sz [.ref mq, .int p0, .int p1]) (QWi D (S := (Nat → Nat) × Nat) [(mq, .inr (6, [.ref mw, .int (nI slip), .int (nI h), .int (nI kd), .ref ms, .int (nI cnt), .ref ml, .int (nI nl), .ref mh, .int (nI hn), .ref mr, .int (nI rm), .ref mst, .long (lN lo), .ref mn, .ref mth, .long (lN lon), .ref mld, .ref mpk, .ref mcm])), (mh, .inl (cI, 6, .inl (nF hs)))] sz (fun r u => r = aHr hn p0 p1 ∧ u.1 = uHs hs hn p0 p1 ∧ u.2 = uHa hn p0 p1) (fun u => [(mq, .inr (6, [.ref mw, .int (nI slip), .int (nI h), .int (nI kd), .ref ms, .int (nI cnt), .ref ml, .int (nI nl), .ref mh, .int (nI (u.2)), .ref mr, .int (nI rm), .ref mst, .long (lN lo), .ref mn, .ref mth, .long (lN lon), .ref mld, .ref mpk, .ref mcm])), (mh, .inl (cI, 6, .inl (nF u.1)))])) 0 0 (va_A [(mq, .inr (6, [.ref mw, .int (nI slip), .int (nI h), .int (nI kd), .ref ms, .int (nI cnt), .ref ml, .int (nI nl), .ref mh, .int (nI hn), .ref mr, .int (nI rm), .ref mst, .long (lN lo), .ref mn, .ref mth, .long (lN lon), .ref mld, .ref mpk, .ref mcm])), (mh, .inl (cI, 6, .inl (nF hs)))] sz) := by
  refine met_X (cc := cX6_hear) (maxL := 3) (ret := (some .int)) (by decide) rfl (Nat.le_of_ble_eq_true rfl) ?_
  intro p e s m args below meth c Q ls A hQ hAe hAt hKB hP hD hA hl
  obtain ⟨hx, hb, hr, hml, hlk, hts, hown, hnm⟩ := hAt
  have hown : s.vm.findClass RX6 = some m.cls := hown
  have hS : va_S A s.heap s.heap [] := va_S.rf
  have hl : lv_has ls 3 [(0, .ref mq), (1, .int p0), (2, .int p1)] := hl
  have hiX6 : ∀ w ∈ u_ws RX6 TX6 20, w ∈ wsX6_hear := by decide +kernel
  have fl98 := hts (.fieldLink RX6 98 "TaughtTonguesModel" "heardMany" "I") (by decide +kernel)
  have fl19 := hts (.fieldLink RX6 19 "TaughtTonguesModel" "heard" "[I") (by decide +kernel)
  refine lv_iload_n hx hb dX6_hear_0 rfl (lv_at hl 1 rfl) ?_
  have hPc := hP.sub (ws' := []) [] rfl
  refine r_calli hP hS (va_runS (As := [.int p0]) (rest := []) ⟨hx, hb, hml, hown, hts⟩ (m_X6_isMeaning l D cI cJ p0) (va_cwS 1 hts gX6_hear_X6_isMeaning rfl rfl rfl (by decide +kernel) ⟨Nat.le_of_ble_eq_true rfl, Nat.le_of_ble_eq_true rfl⟩) ⟨PR.blind, fun U hU hW => ⟨rfl, hKB.warm hW, by rw [hU]; exact hPc⟩⟩ rfl rfl hl.1 rfl (lv_room (Nat.le_of_ble_eq_true rfl)) dX6_hear_1 ⟨Nat.le_of_ble_eq_true rfl, Nat.le_of_ble_eq_true rfl⟩) (fun r1 H locs hw1 hP hS => ?_)
  have hw1 : r1 = bI (inR p0 0 2) := hw1
  subst hw1
  refine r_bif_ne (b := inR p0 0 2) (tgt := 9) hx hb dX6_hear_4 (by decide) (fun c4 => ?_) (fun c4 => ?_)
  · skip
    obtain ⟨M, -, hM, rfl⟩ := inR_t (by decide) (by decide) (c4)
    refine lv_iload_n hx hb dX6_hear_9 rfl (lv_at hl 2 rfl) ?_
    refine lv_i2l (v := p1.toInt64) hx hb dX6_hear_10 rfl ?_
    refine lv_lconst (v := lN (0)) hx hb dX6_hear_11 (by decide) ?_
    refine lv_lconst (v := lN (1)) hx hb dX6_hear_12 (by decide) ?_
    have hPc := hP.sub (ws' := []) [] rfl
    refine r_calli hP hS (va_runS (As := [.long (p1.toInt64), .long (lN 0), .long (lN 1)]) (rest := []) ⟨hx, hb, hml, hown, hts⟩ (m_X6_in l D cI cJ (p1.toInt64) (lN (0)) (lN (1))) (va_cwS 3 hts gX6_hear_X6_in rfl rfl rfl (by decide +kernel) ⟨Nat.le_of_ble_eq_true rfl, Nat.le_of_ble_eq_true rfl⟩) ⟨PR.blind, fun U hU hW => ⟨rfl, hKB.warm hW, by rw [hU]; exact hPc⟩⟩ rfl rfl hl.1 rfl (lv_room (Nat.le_of_ble_eq_true rfl)) dX6_hear_13 ⟨Nat.le_of_ble_eq_true rfl, Nat.le_of_ble_eq_true rfl⟩) (fun r2 H locs hw13 hP hS => ?_)
    have hw13 : r2 = bI (inL (p1.toInt64) (lN (0)) (lN (1))) := hw13
    subst hw13
    refine lv_topi (fun z3 ez3 => ?_)
    obtain rfl : z3 = bI (inR p1 0 1) := ez3.trans (congrArg bI (inL_R (by decide) (by decide)))
    refine r_bif_ne (b := inR p1 0 1) (tgt := 22) hx hb dX6_hear_16 (by decide) (fun c16 => ?_) (fun c16 => ?_)
    · skip
      obtain ⟨V, -, hV, rfl⟩ := inR_t (by decide) (by decide) (c16)
      refine lv_aload_n hx hb dX6_hear_22 rfl (lv_at hl 0 rfl) ?_
      refine va_get (D := D) (ci := 6) (v := .int (nI hn)) (C := RX6) (T := TX6) (N := 20) hx hb hts hiX6 hown hKB.1 hP 0 rfl rfl 9 (by decide) fl98 (fun _ h9 => h9) rfl dX6_hear_23 ?_
      refine lv_bipush (v := nI (6)) hx hb dX6_hear_26 (by decide) ?_
      refine r_icmp_ne (a := hn) (b := 6) (tgt := 34) hx hb dX6_hear_28 (by decide) (by omega) (by omega)  (fun c28 => ?_) (fun c28 => ?_)
      · skip
        refine lv_aload_n hx hb dX6_hear_34 rfl (lv_at hl 0 rfl) ?_
        refine va_get (D := D) (ci := 6) (v := .ref mh) (C := RX6) (T := TX6) (N := 20) hx hb hts hiX6 hown hKB.1 hP 0 rfl rfl 8 (by decide) fl19 (fun _ h9 => h9) rfl dX6_hear_35 ?_
        refine lv_aload_n hx hb dX6_hear_38 rfl (lv_at hl 0 rfl) ?_
        refine va_get (D := D) (ci := 6) (v := .int (nI hn)) (C := RX6) (T := TX6) (N := 20) hx hb hts hiX6 hown hKB.1 hP 0 rfl rfl 9 (by decide) fl98 (fun _ h9 => h9) rfl dX6_hear_39 ?_
        refine lv_iconst (v := nI (2)) hx hb dX6_hear_42 (by decide) ?_
        refine lv_iload_n hx hb dX6_hear_43 rfl (lv_at hl 1 rfl) ?_
        refine r_imul (a := 2) (b := M) hx hb dX6_hear_44  ?_
        refine lv_iload_n hx hb dX6_hear_45 rfl (lv_at hl 2 rfl) ?_
        refine r_iadd (a := 2 * M) (b := V) hx hb dX6_hear_46  ?_
        refine r_iastN (i := hn) hx hb hKB.1 hP hD hS 1 0 rfl rfl (by omega) (by decide) dX6_hear_47 (fun H locs hP hD hS => ?_)
        have hP : va_P D vwCl [(mq, .inr (6, [.ref mw, .int (nI slip), .int (nI h), .int (nI kd), .ref ms, .int (nI cnt), .ref ml, .int (nI nl), .ref mh, .int (nI hn), .ref mr, .int (nI rm), .ref mst, .long (lN lo), .ref mn, .ref mth, .long (lN lon), .ref mld, .ref mpk, .ref mcm])), (mh, .inl (cI, 6, .inl (nF (nu hs hn ((2 * M) + V)))))] _ := hP
        have hD : va_D A [(mq, .inr (6, [.ref mw, .int (nI slip), .int (nI h), .int (nI kd), .ref ms, .int (nI cnt), .ref ml, .int (nI nl), .ref mh, .int (nI hn), .ref mr, .int (nI rm), .ref mst, .long (lN lo), .ref mn, .ref mth, .long (lN lon), .ref mld, .ref mpk, .ref mcm])), (mh, .inl (cI, 6, .inl (nF (nu hs hn ((2 * M) + V)))))] := hD
        refine lv_aload_n hx hb dX6_hear_48 rfl (lv_at hl 0 rfl) ?_
        refine lv_dup hx hb dX6_hear_49 rfl ?_
        refine va_get (D := D) (ci := 6) (v := .int (nI hn)) (C := RX6) (T := TX6) (N := 20) hx hb hts hiX6 hown hKB.1 hP 0 rfl rfl 9 (by decide) fl98 (fun _ h9 => h9) rfl dX6_hear_50 ?_
        refine lv_iconst (v := nI (1)) hx hb dX6_hear_53 (by decide) ?_
        refine r_iadd (a := hn) (b := 1) hx hb dX6_hear_54  ?_
        refine va_put (D := D) (ci := 6) (v := .int (nI (hn + 1))) (ty := .int) (C := RX6) (T := TX6) (N := 20) hx hb hts hiX6 tyX6 tyX6_ok nmX6 hown hKB.1 hP hD hS 0 rfl rfl 9 (by decide) fl98 (fun _ h9 => h9) rfl (by decide +kernel) rfl rfl (Nat.le_of_ble_eq_true rfl) dX6_hear_55 (fun H locs hP hD hS => ?_)
        have hP : va_P D vwCl [(mq, .inr (6, [.ref mw, .int (nI slip), .int (nI h), .int (nI kd), .ref ms, .int (nI cnt), .ref ml, .int (nI nl), .ref mh, .int (nI (hn + 1)), .ref mr, .int (nI rm), .ref mst, .long (lN lo), .ref mn, .ref mth, .long (lN lon), .ref mld, .ref mpk, .ref mcm])), (mh, .inl (cI, 6, .inl (nF (nu hs hn ((2 * M) + V)))))] _ := hP
        have hD : va_D A [(mq, .inr (6, [.ref mw, .int (nI slip), .int (nI h), .int (nI kd), .ref ms, .int (nI cnt), .ref ml, .int (nI nl), .ref mh, .int (nI (hn + 1)), .ref mr, .int (nI rm), .ref mst, .long (lN lo), .ref mn, .ref mth, .long (lN lon), .ref mld, .ref mpk, .ref mcm])), (mh, .inl (cI, 6, .inl (nF (nu hs hn ((2 * M) + V)))))] := hD
        refine lv_aload_n hx hb dX6_hear_58 rfl (lv_at hl 0 rfl) ?_
        refine va_get (D := D) (ci := 6) (v := .int (nI (hn + 1))) (C := RX6) (T := TX6) (N := 20) hx hb hts hiX6 hown hKB.1 hP 0 rfl rfl 9 (by decide) fl98 (fun _ h9 => h9) rfl dX6_hear_59 ?_
        exact w_iret hx hb hr hlk hQ hAe (nu hs hn ((2 * M) + V), hn + 1) hP hD hS (by simp only [aHr, uHs, uHa, okH, c4, c16, show hn < 6 from by omega, decide_true, Bool.and_self, if_true, tN_n (show M < 2 ^ 31 by omega), tN_n (show V < 2 ^ 31 by omega)]; exact ⟨trivial, trivial, trivial⟩) dX6_hear_62
      refine lv_bipush (v := (-4)) hx hb dX6_hear_31 (by decide) ?_
      exact w_iret hx hb hr hlk hQ hAe (hs, hn) hP hD hS (by simp [aHr, uHs, uHa, okH, c4, c16, show ¬ hn < 6 from by omega]) dX6_hear_33
    refine lv_bipush (v := (-2)) hx hb dX6_hear_19 (by decide) ?_
    exact w_iret hx hb hr hlk hQ hAe (hs, hn) hP hD hS (by simp [aHr, uHs, uHa, okH, c4, c16]) dX6_hear_21
  refine lv_iconst (v := (-1)) hx hb dX6_hear_7 (by decide) ?_
  exact w_iret hx hb hr hlk hQ hAe (hs, hn) hP hD hS (by simp [aHr, uHs, uHa, okH, c4]) dX6_hear_8

set_option maxHeartbeats 4000000 in
set_option maxRecDepth 100000 in
theorem m_X6_forget (l : Launch) (D : va_G) (cI cJ : ClassId) (sz : Nat) (mq : Nat) (mw : Nat) (slip : Nat) (h : Nat) (kd : Nat) (ms : Nat) (cnt : Nat) (ml : Nat) (nl : Nat) (mh : Nat) (hn : Nat) (mr : Nat) (rm : Nat) (mst : Nat) (lo : Nat) (mn : Nat) (mth : Nat) (lon : Nat) (mld : Nat) (mpk : Nat) (mcm : Nat) : Met l yX6_forget wsX6_forget ({ frames := 0, cells := 0, slots := 0, locals := 0 }) (PX D cI cJ [(mq, .inr (6, [.ref mw, .int (nI slip), .int (nI h), .int (nI kd), .ref ms, .int (nI cnt), .ref ml, .int (nI nl), .ref mh, .int (nI hn), .ref mr, .int (nI rm), .ref mst, .long (lN lo), .ref mn, .ref mth, .long (lN lon), .ref mld, .ref mpk, .ref mcm]))] sz [.ref mq]) (QWi D (S := Unit) [(mq, .inr (6, [.ref mw, .int (nI slip), .int (nI h), .int (nI kd), .ref ms, .int (nI cnt), .ref ml, .int (nI nl), .ref mh, .int (nI hn), .ref mr, .int (nI rm), .ref mst, .long (lN lo), .ref mn, .ref mth, .long (lN lon), .ref mld, .ref mpk, .ref mcm]))] sz (fun r _ => r = nI (hn)) (fun _ => [(mq, .inr (6, [.ref mw, .int (nI slip), .int (nI h), .int (nI kd), .ref ms, .int (nI cnt), .ref ml, .int (nI nl), .ref mh, .int (nI 0), .ref mr, .int (nI rm), .ref mst, .long (lN lo), .ref mn, .ref mth, .long (lN lon), .ref mld, .ref mpk, .ref mcm]))])) 0 0 (va_A [(mq, .inr (6, [.ref mw, .int (nI slip), .int (nI h), .int (nI kd), .ref ms, .int (nI cnt), .ref ml, .int (nI nl), .ref mh, .int (nI hn), .ref mr, .int (nI rm), .ref mst, .long (lN lo), .ref mn, .ref mth, .long (lN lon), .ref mld, .ref mpk, .ref mcm]))] sz) := by
  refine met_X (cc := cX6_forget) (maxL := 2) (ret := (some .int)) (by decide) rfl (Nat.le_of_ble_eq_true rfl) ?_
  intro p e s m args below meth c Q ls A hQ hAe hAt hKB hP hD hA hl
  obtain ⟨hx, hb, hr, hml, hlk, hts, hown, hnm⟩ := hAt
  have hown : s.vm.findClass RX6 = some m.cls := hown
  have hS : va_S A s.heap s.heap [] := va_S.rf
  have hl : lv_has ls 2 [(0, .ref mq)] := hl
  have hiX6 : ∀ w ∈ u_ws RX6 TX6 20, w ∈ wsX6_forget := by decide +kernel
  have fl98 := hts (.fieldLink RX6 98 "TaughtTonguesModel" "heardMany" "I") (by decide +kernel)
  refine lv_aload_n hx hb dX6_forget_0 rfl (lv_at hl 0 rfl) ?_
  refine va_get (D := D) (ci := 6) (v := .int (nI hn)) (C := RX6) (T := TX6) (N := 20) hx hb hts hiX6 hown hKB.1 hP 0 rfl rfl 9 (by decide) fl98 (fun _ h9 => h9) rfl dX6_forget_1 ?_
  refine lv_istore_n (lv' := [(1, .int (nI hn)), (0, .ref mq)]) hx hb dX6_forget_4 rfl hl (by decide) rfl (fun ls hl => ?_)
  refine lv_aload_n hx hb dX6_forget_5 rfl (lv_at hl 1 rfl) ?_
  refine lv_iconst (v := nI (0)) hx hb dX6_forget_6 (by decide) ?_
  refine va_put (D := D) (ci := 6) (v := .int (nI 0)) (ty := .int) (C := RX6) (T := TX6) (N := 20) hx hb hts hiX6 tyX6 tyX6_ok nmX6 hown hKB.1 hP hD hS 0 rfl rfl 9 (by decide) fl98 (fun _ h9 => h9) rfl (by decide +kernel) rfl rfl (Nat.le_of_ble_eq_true rfl) dX6_forget_7 (fun H locs hP hD hS => ?_)
  have hP : va_P D vwCl [(mq, .inr (6, [.ref mw, .int (nI slip), .int (nI h), .int (nI kd), .ref ms, .int (nI cnt), .ref ml, .int (nI nl), .ref mh, .int (nI 0), .ref mr, .int (nI rm), .ref mst, .long (lN lo), .ref mn, .ref mth, .long (lN lon), .ref mld, .ref mpk, .ref mcm]))] _ := hP
  have hD : va_D A [(mq, .inr (6, [.ref mw, .int (nI slip), .int (nI h), .int (nI kd), .ref ms, .int (nI cnt), .ref ml, .int (nI nl), .ref mh, .int (nI 0), .ref mr, .int (nI rm), .ref mst, .long (lN lo), .ref mn, .ref mth, .long (lN lon), .ref mld, .ref mpk, .ref mcm]))] := hD
  refine lv_iload_n hx hb dX6_forget_10 rfl (lv_at hl 0 rfl) ?_
  exact w_iret hx hb hr hlk hQ hAe () hP hD hS (rfl) dX6_forget_11

set_option maxHeartbeats 4000000 in
set_option maxRecDepth 100000 in
theorem m_X6_layHeard (l : Launch) (D : va_G) (cI cJ : ClassId) (sz : Nat) (mq : Nat) (mw : Nat) (slip : Nat) (h : Nat) (kd : Nat) (ms : Nat) (cnt : Nat) (ml : Nat) (nl : Nat) (mh : Nat) (hn : Nat) (mr : Nat) (rm : Nat) (mst : Nat) (lo : Nat) (mn : Nat) (mth : Nat) (lon : Nat) (mld : Nat) (mpk : Nat) (mcm : Nat) (hs : Nat → Nat) (rw1 : Nat → Nat) : Met l yX6_layHeard wsX6_layHeard ({ frames := 0, cells := 0, slots := 0, locals := 0 }) (PX D cI cJ [(mq, .inr (6, [.ref mw, .int (nI slip), .int (nI h), .int (nI kd), .ref ms, .int (nI cnt), .ref ml, .int (nI nl), .ref mh, .int (nI hn), .ref mr, .int (nI rm), .ref mst, .long (lN lo), .ref mn, .ref mth, .long (lN lon), .ref mld, .ref mpk, .ref mcm])), (mh, .inl (cI, 6, .inl (nF hs))), (mr, .inl (cI, 6, .inl (nF rw1)))] sz [.ref mq]) (QWv D (S := Unit) [(mq, .inr (6, [.ref mw, .int (nI slip), .int (nI h), .int (nI kd), .ref ms, .int (nI cnt), .ref ml, .int (nI nl), .ref mh, .int (nI hn), .ref mr, .int (nI rm), .ref mst, .long (lN lo), .ref mn, .ref mth, .long (lN lon), .ref mld, .ref mpk, .ref mcm])), (mh, .inl (cI, 6, .inl (nF hs))), (mr, .inl (cI, 6, .inl (nF rw1)))] sz (fun _ => True) (fun _ => [(mq, .inr (6, [.ref mw, .int (nI slip), .int (nI h), .int (nI kd), .ref ms, .int (nI cnt), .ref ml, .int (nI nl), .ref mh, .int (nI hn), .ref mr, .int (nI hn), .ref mst, .long (lN lo), .ref mn, .ref mth, .long (lN lon), .ref mld, .ref mpk, .ref mcm])), (mh, .inl (cI, 6, .inl (nF hs))), (mr, .inl (cI, 6, .inl (nF hs)))])) 0 0 (va_A [(mq, .inr (6, [.ref mw, .int (nI slip), .int (nI h), .int (nI kd), .ref ms, .int (nI cnt), .ref ml, .int (nI nl), .ref mh, .int (nI hn), .ref mr, .int (nI rm), .ref mst, .long (lN lo), .ref mn, .ref mth, .long (lN lon), .ref mld, .ref mpk, .ref mcm])), (mh, .inl (cI, 6, .inl (nF hs))), (mr, .inl (cI, 6, .inl (nF rw1)))] sz) := by
  refine met_X (cc := cX6_layHeard) (maxL := 2) (ret := none) (by decide) rfl (Nat.le_of_ble_eq_true rfl) ?_
  intro p e s m args below meth c Q ls A hQ hAe hAt hKB hP hD hA hl
  obtain ⟨hx, hb, hr, hml, hlk, hts, hown, hnm⟩ := hAt
  have hown : s.vm.findClass RX6 = some m.cls := hown
  have hS : va_S A s.heap s.heap [] := va_S.rf
  have hl : lv_has ls 2 [(0, .ref mq)] := hl
  have hiX6 : ∀ w ∈ u_ws RX6 TX6 20, w ∈ wsX6_layHeard := by decide +kernel
  have fl98 := hts (.fieldLink RX6 98 "TaughtTonguesModel" "heardMany" "I") (by decide +kernel)
  have fl101 := hts (.fieldLink RX6 101 "TaughtTonguesModel" "rowMany" "I") (by decide +kernel)
  have fl22 := hts (.fieldLink RX6 22 "TaughtTonguesModel" "row" "[I") (by decide +kernel)
  have fl19 := hts (.fieldLink RX6 19 "TaughtTonguesModel" "heard" "[I") (by decide +kernel)
  refine lv_iconst (v := nI (0)) hx hb dX6_layHeard_0 (by decide) ?_
  refine lv_istore_n (lv' := [(1, .int (nI 0)), (0, .ref mq)]) hx hb dX6_layHeard_1 rfl hl (by decide) rfl (fun ls hl => ?_)
  have L2 : ∀ (n : Nat) (k : Nat) (f1 : Nat → Nat) (H : Heap) (locs : List Loc) (ls : Array Slot), 6 - k < n → (k ≤ 6) → (∀ j, j < k → f1 j = hs j) → va_P D vwCl [(mq, .inr (6, [.ref mw, .int (nI slip), .int (nI h), .int (nI kd), .ref ms, .int (nI cnt), .ref ml, .int (nI nl), .ref mh, .int (nI hn), .ref mr, .int (nI rm), .ref mst, .long (lN lo), .ref mn, .ref mth, .long (lN lon), .ref mld, .ref mpk, .ref mcm])), (mh, .inl (cI, 6, .inl (nF hs))), (mr, .inl (cI, 6, .inl (nF f1)))] H → va_D A [(mq, .inr (6, [.ref mw, .int (nI slip), .int (nI h), .int (nI kd), .ref ms, .int (nI cnt), .ref ml, .int (nI nl), .ref mh, .int (nI hn), .ref mr, .int (nI rm), .ref mst, .long (lN lo), .ref mn, .ref mth, .long (lN lon), .ref mld, .ref mpk, .ref mcm])), (mh, .inl (cI, 6, .inl (nF hs))), (mr, .inl (cI, 6, .inl (nF f1)))] → va_S A s.heap H locs → lv_has ls 2 [(1, .int (nI k)), (0, .ref mq)] → W p l e ({ frames := 0, cells := 0, slots := 0, locals := 0 }) s m args below meth c H locs 0 0 Q (F0 m 2 ls []) := by
    intro n
    induction n with
    | zero => intro k f1 H locs ls hm; exact absurd hm (Nat.not_lt_zero _)
    | succ n ih2 =>
      intro k f1 H locs ls hm hk hf hP hD hS hl
      refine lv_iload_n hx hb dX6_layHeard_2 rfl (lv_at hl 0 rfl) ?_
      refine lv_bipush (v := nI (6)) hx hb dX6_layHeard_3 (by decide) ?_
      refine r_icmp_ge (a := k) (b := 6) (tgt := 26) hx hb dX6_layHeard_5 (by decide) (by omega) (by omega)  (fun c5 => ?_) (fun c5 => ?_)
      · skip
        have hP := P_arrI hP 2 (g := (nF hs)) rfl (fun j hj => congrArg nI (hf j (by omega)))
        have hD := D_arrI hD 2 (g := (nF hs)) rfl
        have hP : va_P D vwCl [(mq, .inr (6, [.ref mw, .int (nI slip), .int (nI h), .int (nI kd), .ref ms, .int (nI cnt), .ref ml, .int (nI nl), .ref mh, .int (nI hn), .ref mr, .int (nI rm), .ref mst, .long (lN lo), .ref mn, .ref mth, .long (lN lon), .ref mld, .ref mpk, .ref mcm])), (mh, .inl (cI, 6, .inl (nF hs))), (mr, .inl (cI, 6, .inl (nF hs)))] _ := hP
        have hD : va_D A [(mq, .inr (6, [.ref mw, .int (nI slip), .int (nI h), .int (nI kd), .ref ms, .int (nI cnt), .ref ml, .int (nI nl), .ref mh, .int (nI hn), .ref mr, .int (nI rm), .ref mst, .long (lN lo), .ref mn, .ref mth, .long (lN lon), .ref mld, .ref mpk, .ref mcm])), (mh, .inl (cI, 6, .inl (nF hs))), (mr, .inl (cI, 6, .inl (nF hs)))] := hD
        refine lv_aload_n hx hb dX6_layHeard_26 rfl (lv_at hl 1 rfl) ?_
        refine lv_aload_n hx hb dX6_layHeard_27 rfl (lv_at hl 1 rfl) ?_
        refine va_get (D := D) (ci := 6) (v := .int (nI hn)) (C := RX6) (T := TX6) (N := 20) hx hb hts hiX6 hown hKB.1 hP 0 rfl rfl 9 (by decide) fl98 (fun _ h9 => h9) rfl dX6_layHeard_28 ?_
        refine va_put (D := D) (ci := 6) (v := .int (nI hn)) (ty := .int) (C := RX6) (T := TX6) (N := 20) hx hb hts hiX6 tyX6 tyX6_ok nmX6 hown hKB.1 hP hD hS 0 rfl rfl 11 (by decide) fl101 (fun _ h9 => h9) rfl (by decide +kernel) rfl rfl (Nat.le_of_ble_eq_true rfl) dX6_layHeard_31 (fun H locs hP hD hS => ?_)
        have hP : va_P D vwCl [(mq, .inr (6, [.ref mw, .int (nI slip), .int (nI h), .int (nI kd), .ref ms, .int (nI cnt), .ref ml, .int (nI nl), .ref mh, .int (nI hn), .ref mr, .int (nI hn), .ref mst, .long (lN lo), .ref mn, .ref mth, .long (lN lon), .ref mld, .ref mpk, .ref mcm])), (mh, .inl (cI, 6, .inl (nF hs))), (mr, .inl (cI, 6, .inl (nF hs)))] _ := hP
        have hD : va_D A [(mq, .inr (6, [.ref mw, .int (nI slip), .int (nI h), .int (nI kd), .ref ms, .int (nI cnt), .ref ml, .int (nI nl), .ref mh, .int (nI hn), .ref mr, .int (nI hn), .ref mst, .long (lN lo), .ref mn, .ref mth, .long (lN lon), .ref mld, .ref mpk, .ref mcm])), (mh, .inl (cI, 6, .inl (nF hs))), (mr, .inl (cI, 6, .inl (nF hs)))] := hD
        exact w_vret hx hb hr hlk hQ hAe () hP hD hS (trivial) dX6_layHeard_34
      refine lv_aload_n hx hb dX6_layHeard_8 rfl (lv_at hl 1 rfl) ?_
      refine va_get (D := D) (ci := 6) (v := .ref mr) (C := RX6) (T := TX6) (N := 20) hx hb hts hiX6 hown hKB.1 hP 0 rfl rfl 10 (by decide) fl22 (fun _ h9 => h9) rfl dX6_layHeard_9 ?_
      refine lv_iload_n hx hb dX6_layHeard_12 rfl (lv_at hl 0 rfl) ?_
      refine lv_aload_n hx hb dX6_layHeard_13 rfl (lv_at hl 1 rfl) ?_
      refine va_get (D := D) (ci := 6) (v := .ref mh) (C := RX6) (T := TX6) (N := 20) hx hb hts hiX6 hown hKB.1 hP 0 rfl rfl 8 (by decide) fl19 (fun _ h9 => h9) rfl dX6_layHeard_14 ?_
      refine lv_iload_n hx hb dX6_layHeard_17 rfl (lv_at hl 0 rfl) ?_
      refine r_iald (i := k) (v := nI (hs k)) hx hb hKB.1 hP 1 0 rfl rfl (by omega) (by decide) (rfl) dX6_layHeard_18 ?_
      refine r_iastN (i := k) hx hb hKB.1 hP hD hS 2 0 rfl rfl (by omega) (by decide) dX6_layHeard_19 (fun H locs hP hD hS => ?_)
      have hP : va_P D vwCl [(mq, .inr (6, [.ref mw, .int (nI slip), .int (nI h), .int (nI kd), .ref ms, .int (nI cnt), .ref ml, .int (nI nl), .ref mh, .int (nI hn), .ref mr, .int (nI rm), .ref mst, .long (lN lo), .ref mn, .ref mth, .long (lN lon), .ref mld, .ref mpk, .ref mcm])), (mh, .inl (cI, 6, .inl (nF hs))), (mr, .inl (cI, 6, .inl (nF (nu f1 k (hs k)))))] _ := hP
      have hD : va_D A [(mq, .inr (6, [.ref mw, .int (nI slip), .int (nI h), .int (nI kd), .ref ms, .int (nI cnt), .ref ml, .int (nI nl), .ref mh, .int (nI hn), .ref mr, .int (nI rm), .ref mst, .long (lN lo), .ref mn, .ref mth, .long (lN lon), .ref mld, .ref mpk, .ref mcm])), (mh, .inl (cI, 6, .inl (nF hs))), (mr, .inl (cI, 6, .inl (nF (nu f1 k (hs k)))))] := hD
      refine lv_iinc (v := nI (k + 1)) (lv' := [(1, .int (nI (k + 1))), (0, .ref mq)]) hx hb dX6_layHeard_20 hl (k := 0) rfl (n_inc _ 1) (by decide) rfl (fun ls hl => ?_)
      refine lv_goto (tgt := 2) hx hb dX6_layHeard_23 (by decide) ?_
      exact ih2 (k + 1) (nu f1 k (hs k)) _ _ _ (by omega) (by omega) (ag_s hf rfl) hP hD hS hl
  exact L2 (6 - 0 + 1) 0 rw1 _ _ _ (Nat.lt_succ_self _) (by omega) (fun j hj => absurd hj (Nat.not_lt_zero j)) hP hD hS hl

set_option maxHeartbeats 4000000 in
set_option maxRecDepth 100000 in
theorem m_X6_likenessOf (l : Launch) (D : va_G) (cI cJ : ClassId) (mq : Nat) (mw : Nat) (slip : Nat) (h : Nat) (kd : Nat) (ms : Nat) (cnt : Nat) (ml : Nat) (nl : Nat) (mh : Nat) (hn : Nat) (mr : Nat) (rm : Nat) (mst : Nat) (lo : Nat) (mn : Nat) (mth : Nat) (lon : Nat) (mld : Nat) (mpk : Nat) (mcm : Nat) (lg : Nat → Nat) (num : Nat → Nat) (rw1 : Nat → Nat) (t : Nat) (ht : t < 8) (hnl7 : nl ≤ 7) (hlg : okL lg nl) (hbf : ∀ t, t < 8 → bfM lg t nl 0 = num t) (hsl : slip ≤ 12) (hnum : ∀ j, j < 8 → num j < 10) (hrm : rm ≤ 6) (hr6 : ∀ j, j < 6 → rw1 j < 6) : Met l yX6_likenessOf wsX6_likenessOf ({ frames := 1, cells := 0, slots := 0, locals := 25 }) (PR D cI cJ [(mq, .inr (6, [.ref mw, .int (nI slip), .int (nI h), .int (nI kd), .ref ms, .int (nI cnt), .ref ml, .int (nI nl), .ref mh, .int (nI hn), .ref mr, .int (nI rm), .ref mst, .long (lN lo), .ref mn, .ref mth, .long (lN lon), .ref mld, .ref mpk, .ref mcm])), (ml, .inl (cI, 28, .inl (nF lg))), (mr, .inl (cI, 6, .inl (nF rw1)))] [.ref mq, .int (nI t)]) (QRl (fun r => r = lN (lkM num slip rw1 t rm))) 0 0 NA := by
  refine met_R (cc := cX6_likenessOf) (maxL := 5) (ret := (some .long)) (by decide) rfl (Nat.le_of_ble_eq_true rfl) ?_
  intro p e s m args below meth c Q ls hQ hAt hKB hP hl
  obtain ⟨hx, hb, hr, hml, hlk, hts, hown, hnm⟩ := hAt
  have hown : s.vm.findClass RX6 = some m.cls := hown
  have hS : va_S NA s.heap s.heap [] := va_S.rf
  have hl : lv_has ls 5 [(0, .ref mq), (1, .int (nI t))] := hl
  have hiX6 : ∀ w ∈ u_ws RX6 TX6 20, w ∈ wsX6_likenessOf := by decide +kernel
  have fl101 := hts (.fieldLink RX6 101 "TaughtTonguesModel" "rowMany" "I") (by decide +kernel)
  have fl22 := hts (.fieldLink RX6 22 "TaughtTonguesModel" "row" "[I") (by decide +kernel)
  have fl44 := hts (.fieldLink RX6 44 "TaughtTonguesModel" "slipIs" "I") (by decide +kernel)
  refine lv_aload_n hx hb dX6_likenessOf_0 rfl (lv_at hl 0 rfl) ?_
  refine lv_iload_n hx hb dX6_likenessOf_1 rfl (lv_at hl 1 rfl) ?_
  have hPc := hP.sub (ws' := [(mq, .inr (6, [.ref mw, .int (nI slip), .int (nI h), .int (nI kd), .ref ms, .int (nI cnt), .ref ml, .int (nI nl), .ref mh, .int (nI hn), .ref mr, .int (nI rm), .ref mst, .long (lN lo), .ref mn, .ref mth, .long (lN lon), .ref mld, .ref mpk, .ref mcm])), (ml, .inl (cI, 28, .inl (nF lg)))]) [0, 1] rfl
  refine r_calli hP hS (va_runV (As := [.int (nI t)]) (rest := []) ⟨hx, hb, hml, hown, hts⟩ (m_X6_beforehand l D cI cJ mq mw slip h kd ms cnt ml nl mh hn mr rm mst lo mn mth lon mld mpk mcm lg t (by omega) (by assumption) (by assumption)) (cwV 1 hts gX6_likenessOf_X6_beforehand rfl rfl rfl (by decide +kernel) ⟨Nat.le_of_ble_eq_true rfl, Nat.le_of_ble_eq_true rfl⟩) ⟨PR.blind, va_recv hKB.1 hP (ci := 6) (q0 := 0) rfl rfl, fun U hU hW => ⟨rfl, hKB.warm hW, by rw [hU]; exact hPc⟩⟩ rfl rfl hl.1 rfl (lv_room (Nat.le_of_ble_eq_true rfl)) dX6_likenessOf_2 ⟨Nat.le_of_ble_eq_true rfl, Nat.le_of_ble_eq_true rfl⟩) (fun r1 H locs hw2 hP hS => ?_)
  have hw2 : r1 = nI (bfM lg t nl 0) := hw2
  subst hw2
  refine lv_topi (fun z2 ez2 => ?_)
  obtain rfl : z2 = nI (num t) := ez2.trans (congrArg nI (hbf t ht))
  refine r_i2l (a := num t) hx hb dX6_likenessOf_5 (by have := hnum t ht; omega) ?_
  refine lv_lstore_n (lv' := [(2, .long (lN (num t))), (0, .ref mq), (1, .int (nI t))]) hx hb dX6_likenessOf_6 rfl hl (by decide) rfl (fun ls hl => ?_)
  refine lv_iconst (v := nI (0)) hx hb dX6_likenessOf_7 (by decide) ?_
  refine lv_istore (lv' := [(4, .int (nI 0)), (2, .long (lN (num t))), (0, .ref mq), (1, .int (nI t))]) hx hb dX6_likenessOf_8 hl (by decide) rfl (fun ls hl => ?_)
  have L10 : ∀ (n : Nat) (k : Nat) (H : Heap) (locs : List Loc) (ls : Array Slot), rm - k < n → (k ≤ rm) → va_P D vwCl [(mq, .inr (6, [.ref mw, .int (nI slip), .int (nI h), .int (nI kd), .ref ms, .int (nI cnt), .ref ml, .int (nI nl), .ref mh, .int (nI hn), .ref mr, .int (nI rm), .ref mst, .long (lN lo), .ref mn, .ref mth, .long (lN lon), .ref mld, .ref mpk, .ref mcm])), (ml, .inl (cI, 28, .inl (nF lg))), (mr, .inl (cI, 6, .inl (nF rw1)))] H → va_S NA s.heap H locs → lv_has ls 5 [(4, .int (nI k)), (2, .long (lN (lkM num slip rw1 t k))), (0, .ref mq), (1, .int (nI t))] → W p l e ({ frames := 1, cells := 0, slots := 0, locals := 25 }) s m args below meth c H locs 0 0 Q (F0 m 10 ls []) := by
    intro n
    induction n with
    | zero => intro k H locs ls hm; exact absurd hm (Nat.not_lt_zero _)
    | succ n ih10 =>
      intro k H locs ls hm hk hP hS hl
      refine lv_iload hx hb dX6_likenessOf_10 (lv_at hl 0 rfl) ?_
      refine lv_aload_n hx hb dX6_likenessOf_12 rfl (lv_at hl 2 rfl) ?_
      refine va_get (D := D) (ci := 6) (v := .int (nI rm)) (C := RX6) (T := TX6) (N := 20) hx hb hts hiX6 hown hKB.1 hP 0 rfl rfl 11 (by decide) fl101 (fun _ h9 => h9) rfl dX6_likenessOf_13 ?_
      refine r_icmp_ge (a := k) (b := rm) (tgt := 58) hx hb dX6_likenessOf_16 (by decide) (by omega) (by omega)  (fun c16 => ?_) (fun c16 => ?_)
      · skip
        obtain rfl : rm = k := by omega
        refine lv_lload_n hx hb dX6_likenessOf_58 rfl (lv_at hl 1 rfl) ?_
        exact r_lret hx hb hr hlk hQ hS (rfl) dX6_likenessOf_59
      have hrk := hr6 k (by omega)
      refine lv_lload_n hx hb dX6_likenessOf_19 rfl (lv_at hl 1 rfl) ?_
      refine lv_iload_n hx hb dX6_likenessOf_20 rfl (lv_at hl 3 rfl) ?_
      refine lv_aload_n hx hb dX6_likenessOf_21 rfl (lv_at hl 2 rfl) ?_
      refine va_get (D := D) (ci := 6) (v := .ref mr) (C := RX6) (T := TX6) (N := 20) hx hb hts hiX6 hown hKB.1 hP 0 rfl rfl 10 (by decide) fl22 (fun _ h9 => h9) rfl dX6_likenessOf_22 ?_
      refine lv_iload hx hb dX6_likenessOf_25 (lv_at hl 0 rfl) ?_
      refine r_iald (i := k) (v := nI (rw1 k)) hx hb hKB.1 hP 2 0 rfl rfl (by omega) (by decide) (rfl) dX6_likenessOf_27 ?_
      have hPc := hP.sub (ws' := []) [] rfl
      refine r_calli hP hS (va_runS (As := [.int (nI t), .int (nI (rw1 k))]) (rest := [.long (lN (lkM num slip rw1 t k))]) ⟨hx, hb, hml, hown, hts⟩ (m_X6_hasForm l D cI cJ t (rw1 k) (by omega) (by omega)) (va_cwS 2 hts gX6_likenessOf_X6_hasForm rfl rfl rfl (by decide +kernel) ⟨Nat.le_of_ble_eq_true rfl, Nat.le_of_ble_eq_true rfl⟩) ⟨PR.blind, fun U hU hW => ⟨rfl, hKB.warm hW, by rw [hU]; exact hPc⟩⟩ rfl rfl hl.1 rfl (lv_room (Nat.le_of_ble_eq_true rfl)) dX6_likenessOf_28 ⟨Nat.le_of_ble_eq_true rfl, Nat.le_of_ble_eq_true rfl⟩) (fun r3 H locs hw28 hP hS => ?_)
      have hw28 : r3 = bI (hasF t (rw1 k)) := hw28
      subst hw28
      refine r_bif_eq (b := hasF t (rw1 k)) (tgt := 45) hx hb dX6_likenessOf_31 (by decide) (fun c31 => ?_) (fun c31 => ?_)
      · skip
        refine lv_aload_n hx hb dX6_likenessOf_45 rfl (lv_at hl 2 rfl) ?_
        refine va_get (D := D) (ci := 6) (v := .int (nI slip)) (C := RX6) (T := TX6) (N := 20) hx hb hts hiX6 hown hKB.1 hP 0 rfl rfl 1 (by decide) fl44 (fun _ h9 => h9) rfl dX6_likenessOf_46 ?_
        refine r_i2l (a := slip) hx hb dX6_likenessOf_49 (by omega) ?_
        refine r_lmul (a := lkM num slip rw1 t k) (b := slip) hx hb dX6_likenessOf_50  ?_
        refine lv_lstore_n (lv' := [(2, .long (lN ((lkM num slip rw1 t k) * slip))), (4, .int (nI k)), (0, .ref mq), (1, .int (nI t))]) hx hb dX6_likenessOf_51 rfl hl (by decide) rfl (fun ls hl => ?_)
        have hl := lv_ch hl 0 (v2 := .long (lN (lkM num slip rw1 t (k + 1)))) (l2 := [(2, .long (lN (lkM num slip rw1 t (k + 1)))), (4, .int (nI k)), (0, .ref mq), (1, .int (nI t))]) rfl (congrArg Value.long (congrArg lN (by first | exact lkM_y c31 | exact lkM_n c31))) rfl
        refine lv_iinc (v := nI (k + 1)) (lv' := [(4, .int (nI (k + 1))), (2, .long (lN (lkM num slip rw1 t (k + 1)))), (0, .ref mq), (1, .int (nI t))]) hx hb dX6_likenessOf_52 hl (k := 1) rfl (n_inc _ 1) (by decide) rfl (fun ls hl => ?_)
        refine lv_goto (tgt := 10) hx hb dX6_likenessOf_55 (by decide) ?_
        exact ih10 (k + 1) _ _ _ (by omega) (by omega) hP hS hl
      refine lv_bipush (v := nI (12)) hx hb dX6_likenessOf_34 (by decide) ?_
      refine lv_aload_n hx hb dX6_likenessOf_36 rfl (lv_at hl 2 rfl) ?_
      refine va_get (D := D) (ci := 6) (v := .int (nI slip)) (C := RX6) (T := TX6) (N := 20) hx hb hts hiX6 hown hKB.1 hP 0 rfl rfl 1 (by decide) fl44 (fun _ h9 => h9) rfl dX6_likenessOf_37 ?_
      refine r_isub (a := 12) (b := slip) hx hb dX6_likenessOf_40 (by omega) ?_
      refine r_i2l (a := 12 - slip) hx hb dX6_likenessOf_41 (by omega) ?_
      refine lv_goto (tgt := 50) hx hb dX6_likenessOf_42 (by decide) ?_
      refine r_lmul (a := lkM num slip rw1 t k) (b := 12 - slip) hx hb dX6_likenessOf_50  ?_
      refine lv_lstore_n (lv' := [(2, .long (lN ((lkM num slip rw1 t k) * (12 - slip)))), (4, .int (nI k)), (0, .ref mq), (1, .int (nI t))]) hx hb dX6_likenessOf_51 rfl hl (by decide) rfl (fun ls hl => ?_)
      have hl := lv_ch hl 0 (v2 := .long (lN (lkM num slip rw1 t (k + 1)))) (l2 := [(2, .long (lN (lkM num slip rw1 t (k + 1)))), (4, .int (nI k)), (0, .ref mq), (1, .int (nI t))]) rfl (congrArg Value.long (congrArg lN (by first | exact lkM_y c31 | exact lkM_n c31))) rfl
      refine lv_iinc (v := nI (k + 1)) (lv' := [(4, .int (nI (k + 1))), (2, .long (lN (lkM num slip rw1 t (k + 1)))), (0, .ref mq), (1, .int (nI t))]) hx hb dX6_likenessOf_52 hl (k := 1) rfl (n_inc _ 1) (by decide) rfl (fun ls hl => ?_)
      refine lv_goto (tgt := 10) hx hb dX6_likenessOf_55 (by decide) ?_
      exact ih10 (k + 1) _ _ _ (by omega) (by omega) hP hS hl
  exact L10 (rm - 0 + 1) 0 _ _ _ (Nat.lt_succ_self _) (by omega) hP hS hl

set_option maxHeartbeats 4000000 in
set_option maxRecDepth 100000 in
theorem m_X6_hasAll (l : Launch) (D : va_G) (cI cJ : ClassId) (mq : Nat) (mw : Nat) (slip : Nat) (h : Nat) (kd : Nat) (ms : Nat) (cnt : Nat) (ml : Nat) (nl : Nat) (mh : Nat) (hn : Nat) (mr : Nat) (rm : Nat) (mst : Nat) (lo : Nat) (mn : Nat) (mth : Nat) (lon : Nat) (mld : Nat) (mpk : Nat) (mcm : Nat) (rw1 : Nat → Nat) (t : Nat) (ht : t < 8) (hrm : rm ≤ 6) (hr6 : ∀ j, j < 6 → rw1 j < 6) : Met l yX6_hasAll wsX6_hasAll ({ frames := 1, cells := 0, slots := 0, locals := 21 }) (PR D cI cJ [(mq, .inr (6, [.ref mw, .int (nI slip), .int (nI h), .int (nI kd), .ref ms, .int (nI cnt), .ref ml, .int (nI nl), .ref mh, .int (nI hn), .ref mr, .int (nI rm), .ref mst, .long (lN lo), .ref mn, .ref mth, .long (lN lon), .ref mld, .ref mpk, .ref mcm])), (mr, .inl (cI, 6, .inl (nF rw1)))] [.ref mq, .int (nI t)]) (QRi (fun r => r = bI (alM rw1 rm t))) 0 0 NA := by
  refine met_R (cc := cX6_hasAll) (maxL := 4) (ret := (some .boolean)) (by decide) rfl (Nat.le_of_ble_eq_true rfl) ?_
  intro p e s m args below meth c Q ls hQ hAt hKB hP hl
  obtain ⟨hx, hb, hr, hml, hlk, hts, hown, hnm⟩ := hAt
  have hown : s.vm.findClass RX6 = some m.cls := hown
  have hS : va_S NA s.heap s.heap [] := va_S.rf
  have hl : lv_has ls 4 [(0, .ref mq), (1, .int (nI t))] := hl
  have hiX6 : ∀ w ∈ u_ws RX6 TX6 20, w ∈ wsX6_hasAll := by decide +kernel
  have fl101 := hts (.fieldLink RX6 101 "TaughtTonguesModel" "rowMany" "I") (by decide +kernel)
  have fl22 := hts (.fieldLink RX6 22 "TaughtTonguesModel" "row" "[I") (by decide +kernel)
  refine lv_iconst (v := nI (1)) hx hb dX6_hasAll_0 (by decide) ?_
  refine lv_istore_n (lv' := [(2, .int (nI 1)), (0, .ref mq), (1, .int (nI t))]) hx hb dX6_hasAll_1 rfl hl (by decide) rfl (fun ls hl => ?_)
  refine lv_iconst (v := nI (0)) hx hb dX6_hasAll_2 (by decide) ?_
  refine lv_istore_n (lv' := [(3, .int (nI 0)), (2, .int (nI 1)), (0, .ref mq), (1, .int (nI t))]) hx hb dX6_hasAll_3 rfl hl (by decide) rfl (fun ls hl => ?_)
  have L4 : ∀ (n : Nat) (k : Nat) (H : Heap) (locs : List Loc) (ls : Array Slot), rm - k < n → (k ≤ rm) → va_P D vwCl [(mq, .inr (6, [.ref mw, .int (nI slip), .int (nI h), .int (nI kd), .ref ms, .int (nI cnt), .ref ml, .int (nI nl), .ref mh, .int (nI hn), .ref mr, .int (nI rm), .ref mst, .long (lN lo), .ref mn, .ref mth, .long (lN lon), .ref mld, .ref mpk, .ref mcm])), (mr, .inl (cI, 6, .inl (nF rw1)))] H → va_S NA s.heap H locs → lv_has ls 4 [(3, .int (nI k)), (2, .int (nI (alN rw1 t k))), (0, .ref mq), (1, .int (nI t))] → W p l e ({ frames := 1, cells := 0, slots := 0, locals := 21 }) s m args below meth c H locs 0 0 Q (F0 m 4 ls []) := by
    intro n
    induction n with
    | zero => intro k H locs ls hm; exact absurd hm (Nat.not_lt_zero _)
    | succ n ih4 =>
      intro k H locs ls hm hk hP hS hl
      refine lv_iload_n hx hb dX6_hasAll_4 rfl (lv_at hl 0 rfl) ?_
      refine lv_aload_n hx hb dX6_hasAll_5 rfl (lv_at hl 2 rfl) ?_
      refine va_get (D := D) (ci := 6) (v := .int (nI rm)) (C := RX6) (T := TX6) (N := 20) hx hb hts hiX6 hown hKB.1 hP 0 rfl rfl 11 (by decide) fl101 (fun _ h9 => h9) rfl dX6_hasAll_6 ?_
      refine r_icmp_ge (a := k) (b := rm) (tgt := 41) hx hb dX6_hasAll_9 (by decide) (by omega) (by omega)  (fun c9 => ?_) (fun c9 => ?_)
      · skip
        obtain rfl : rm = k := by omega
        have hl := lv_ch hl 1 (v2 := .int (bI (alM rw1 rm t))) (l2 := [(3, .int (nI rm)), (2, .int (bI (alM rw1 rm t))), (0, .ref mq), (1, .int (nI t))]) rfl (congrArg Value.int (alM_b)) rfl
        refine lv_iload_n hx hb dX6_hasAll_41 rfl (lv_at hl 1 rfl) ?_
        exact r_zret (b := alM rw1 rm t) hx hb hr hlk hQ hS rfl (rfl) dX6_hasAll_42
      have hrk := hr6 k (by omega)
      have ha1 := alN_le (rw' := rw1) (t := t) k
      refine lv_iload_n hx hb dX6_hasAll_12 rfl (lv_at hl 1 rfl) ?_
      refine r_if_eq (a := alN rw1 t k) (tgt := 33) hx hb dX6_hasAll_13 (by decide) (by omega) (fun c13 => ?_) (fun c13 => ?_)
      · skip
        refine lv_iconst (v := nI (0)) hx hb dX6_hasAll_33 (by decide) ?_
        refine lv_istore_n (lv' := [(2, .int (nI 0)), (3, .int (nI k)), (0, .ref mq), (1, .int (nI t))]) hx hb dX6_hasAll_34 rfl hl (by decide) rfl (fun ls hl => ?_)
        have hl := lv_ch hl 0 (v2 := .int (nI (alN rw1 t (k + 1)))) (l2 := [(2, .int (nI (alN rw1 t (k + 1)))), (3, .int (nI k)), (0, .ref mq), (1, .int (nI t))]) rfl (congrArg Value.int (congrArg nI (by rw [alN]; first | rw [if_pos c13] | rw [if_neg c13, if_neg (by rw [c26]; decide)] | rw [if_neg c13, if_pos c26]))) rfl
        refine lv_iinc (v := nI (k + 1)) (lv' := [(3, .int (nI (k + 1))), (2, .int (nI (alN rw1 t (k + 1)))), (0, .ref mq), (1, .int (nI t))]) hx hb dX6_hasAll_35 hl (k := 1) rfl (n_inc _ 1) (by decide) rfl (fun ls hl => ?_)
        refine lv_goto (tgt := 4) hx hb dX6_hasAll_38 (by decide) ?_
        exact ih4 (k + 1) _ _ _ (by omega) (by omega) hP hS hl
      refine lv_iload_n hx hb dX6_hasAll_16 rfl (lv_at hl 3 rfl) ?_
      refine lv_aload_n hx hb dX6_hasAll_17 rfl (lv_at hl 2 rfl) ?_
      refine va_get (D := D) (ci := 6) (v := .ref mr) (C := RX6) (T := TX6) (N := 20) hx hb hts hiX6 hown hKB.1 hP 0 rfl rfl 10 (by decide) fl22 (fun _ h9 => h9) rfl dX6_hasAll_18 ?_
      refine lv_iload_n hx hb dX6_hasAll_21 rfl (lv_at hl 0 rfl) ?_
      refine r_iald (i := k) (v := nI (rw1 k)) hx hb hKB.1 hP 1 0 rfl rfl (by omega) (by decide) (rfl) dX6_hasAll_22 ?_
      have hPc := hP.sub (ws' := []) [] rfl
      refine r_calli hP hS (va_runS (As := [.int (nI t), .int (nI (rw1 k))]) (rest := []) ⟨hx, hb, hml, hown, hts⟩ (m_X6_hasForm l D cI cJ t (rw1 k) (by omega) (by omega)) (va_cwS 2 hts gX6_hasAll_X6_hasForm rfl rfl rfl (by decide +kernel) ⟨Nat.le_of_ble_eq_true rfl, Nat.le_of_ble_eq_true rfl⟩) ⟨PR.blind, fun U hU hW => ⟨rfl, hKB.warm hW, by rw [hU]; exact hPc⟩⟩ rfl rfl hl.1 rfl (lv_room (Nat.le_of_ble_eq_true rfl)) dX6_hasAll_23 ⟨Nat.le_of_ble_eq_true rfl, Nat.le_of_ble_eq_true rfl⟩) (fun r1 H locs hw23 hP hS => ?_)
      have hw23 : r1 = bI (hasF t (rw1 k)) := hw23
      subst hw23
      refine r_bif_eq (b := hasF t (rw1 k)) (tgt := 33) hx hb dX6_hasAll_26 (by decide) (fun c26 => ?_) (fun c26 => ?_)
      · skip
        refine lv_iconst (v := nI (0)) hx hb dX6_hasAll_33 (by decide) ?_
        refine lv_istore_n (lv' := [(2, .int (nI 0)), (3, .int (nI k)), (0, .ref mq), (1, .int (nI t))]) hx hb dX6_hasAll_34 rfl hl (by decide) rfl (fun ls hl => ?_)
        have hl := lv_ch hl 0 (v2 := .int (nI (alN rw1 t (k + 1)))) (l2 := [(2, .int (nI (alN rw1 t (k + 1)))), (3, .int (nI k)), (0, .ref mq), (1, .int (nI t))]) rfl (congrArg Value.int (congrArg nI (by rw [alN]; first | rw [if_pos c13] | rw [if_neg c13, if_neg (by rw [c26]; decide)] | rw [if_neg c13, if_pos c26]))) rfl
        refine lv_iinc (v := nI (k + 1)) (lv' := [(3, .int (nI (k + 1))), (2, .int (nI (alN rw1 t (k + 1)))), (0, .ref mq), (1, .int (nI t))]) hx hb dX6_hasAll_35 hl (k := 1) rfl (n_inc _ 1) (by decide) rfl (fun ls hl => ?_)
        refine lv_goto (tgt := 4) hx hb dX6_hasAll_38 (by decide) ?_
        exact ih4 (k + 1) _ _ _ (by omega) (by omega) hP hS hl
      refine lv_iconst (v := nI (1)) hx hb dX6_hasAll_29 (by decide) ?_
      refine lv_goto (tgt := 34) hx hb dX6_hasAll_30 (by decide) ?_
      refine lv_istore_n (lv' := [(2, .int (nI 1)), (3, .int (nI k)), (0, .ref mq), (1, .int (nI t))]) hx hb dX6_hasAll_34 rfl hl (by decide) rfl (fun ls hl => ?_)
      have hl := lv_ch hl 0 (v2 := .int (nI (alN rw1 t (k + 1)))) (l2 := [(2, .int (nI (alN rw1 t (k + 1)))), (3, .int (nI k)), (0, .ref mq), (1, .int (nI t))]) rfl (congrArg Value.int (congrArg nI (by rw [alN]; first | rw [if_pos c13] | rw [if_neg c13, if_neg (by rw [c26]; decide)] | rw [if_neg c13, if_pos c26]))) rfl
      refine lv_iinc (v := nI (k + 1)) (lv' := [(3, .int (nI (k + 1))), (2, .int (nI (alN rw1 t (k + 1)))), (0, .ref mq), (1, .int (nI t))]) hx hb dX6_hasAll_35 hl (k := 1) rfl (n_inc _ 1) (by decide) rfl (fun ls hl => ?_)
      refine lv_goto (tgt := 4) hx hb dX6_hasAll_38 (by decide) ?_
      exact ih4 (k + 1) _ _ _ (by omega) (by omega) hP hS hl
  exact L4 (rm - 0 + 1) 0 _ _ _ (Nat.lt_succ_self _) (by omega) hP hS hl

set_option maxHeartbeats 4000000 in
set_option maxRecDepth 100000 in
theorem m_X6_likeness (l : Launch) (D : va_G) (cI cJ : ClassId) (sz : Nat) (mq : Nat) (mw : Nat) (slip : Nat) (h : Nat) (kd : Nat) (ms : Nat) (cnt : Nat) (ml : Nat) (nl : Nat) (mh : Nat) (hn : Nat) (mr : Nat) (rm : Nat) (mst : Nat) (lo : Nat) (mn : Nat) (mth : Nat) (lon : Nat) (mld : Nat) (mpk : Nat) (mcm : Nat) (lg : Nat → Nat) (num : Nat → Nat) (hs : Nat → Nat) (rw1 : Nat → Nat) (p0 : Int32) (hnl7 : nl ≤ 7) (hlg : okL lg nl) (hbf : ∀ t, t < 8 → bfM lg t nl 0 = num t) (hsl : slip ≤ 12) (hnum : ∀ j, j < 8 → num j < 10) (hn6 : hn ≤ 6) (hh6 : ∀ j, j < 6 → hs j < 6) : Met l yX6_likeness wsX6_likeness ({ frames := 2, cells := 0, slots := 0, locals := 49 }) (PX D cI cJ [(mq, .inr (6, [.ref mw, .int (nI slip), .int (nI h), .int (nI kd), .ref ms, .int (nI cnt), .ref ml, .int (nI nl), .ref mh, .int (nI hn), .ref mr, .int (nI rm), .ref mst, .long (lN lo), .ref mn, .ref mth, .long (lN lon), .ref mld, .ref mpk, .ref mcm])), (ml, .inl (cI, 28, .inl (nF lg))), (mh, .inl (cI, 6, .inl (nF hs))), (mr, .inl (cI, 6, .inl (nF rw1)))] sz [.ref mq, .int p0]) (QWl D (S := (Nat → Nat) × Nat) [(mq, .inr (6, [.ref mw, .int (nI slip), .int (nI h), .int (nI kd), .ref ms, .int (nI cnt), .ref ml, .int (nI nl), .ref mh, .int (nI hn), .ref mr, .int (nI rm), .ref mst, .long (lN lo), .ref mn, .ref mth, .long (lN lon), .ref mld, .ref mpk, .ref mcm])), (ml, .inl (cI, 28, .inl (nF lg))), (mh, .inl (cI, 6, .inl (nF hs))), (mr, .inl (cI, 6, .inl (nF rw1)))] sz (fun r u => r = aLk (fun t => lkM num slip hs t hn) p0 ∧ (True)) (fun u => [(mq, .inr (6, [.ref mw, .int (nI slip), .int (nI h), .int (nI kd), .ref ms, .int (nI cnt), .ref ml, .int (nI nl), .ref mh, .int (nI hn), .ref mr, .int (nI (u.2)), .ref mst, .long (lN lo), .ref mn, .ref mth, .long (lN lon), .ref mld, .ref mpk, .ref mcm])), (ml, .inl (cI, 28, .inl (nF lg))), (mh, .inl (cI, 6, .inl (nF hs))), (mr, .inl (cI, 6, .inl (nF u.1)))])) 0 0 (va_A [(mq, .inr (6, [.ref mw, .int (nI slip), .int (nI h), .int (nI kd), .ref ms, .int (nI cnt), .ref ml, .int (nI nl), .ref mh, .int (nI hn), .ref mr, .int (nI rm), .ref mst, .long (lN lo), .ref mn, .ref mth, .long (lN lon), .ref mld, .ref mpk, .ref mcm])), (ml, .inl (cI, 28, .inl (nF lg))), (mh, .inl (cI, 6, .inl (nF hs))), (mr, .inl (cI, 6, .inl (nF rw1)))] sz) := by
  refine met_X (cc := cX6_likeness) (maxL := 2) (ret := (some .long)) (by decide) rfl (Nat.le_of_ble_eq_true rfl) ?_
  intro p e s m args below meth c Q ls A hQ hAe hAt hKB hP hD hA hl
  obtain ⟨hx, hb, hr, hml, hlk, hts, hown, hnm⟩ := hAt
  have hown : s.vm.findClass RX6 = some m.cls := hown
  have hS : va_S A s.heap s.heap [] := va_S.rf
  have hl : lv_has ls 2 [(0, .ref mq), (1, .int p0)] := hl
  have kl108 := hts (.constantLong RX6 108 ((-1))) (by decide +kernel)
  refine lv_iload_n hx hb dX6_likeness_0 rfl (lv_at hl 1 rfl) ?_
  have hPc := hP.sub (ws' := []) [] rfl
  refine r_calli hP hS (va_runS (As := [.int p0]) (rest := []) ⟨hx, hb, hml, hown, hts⟩ (m_X6_isTongue l D cI cJ p0) (va_cwS 1 hts gX6_likeness_X6_isTongue rfl rfl rfl (by decide +kernel) ⟨Nat.le_of_ble_eq_true rfl, Nat.le_of_ble_eq_true rfl⟩) ⟨PR.blind, fun U hU hW => ⟨rfl, hKB.warm hW, by rw [hU]; exact hPc⟩⟩ rfl rfl hl.1 rfl (lv_room (Nat.le_of_ble_eq_true rfl)) dX6_likeness_1 ⟨Nat.le_of_ble_eq_true rfl, Nat.le_of_ble_eq_true rfl⟩) (fun r1 H locs hw1 hP hS => ?_)
  have hw1 : r1 = bI (inR p0 0 7) := hw1
  subst hw1
  refine r_bif_ne (b := inR p0 0 7) (tgt := 11) hx hb dX6_likeness_4 (by decide) (fun c4 => ?_) (fun c4 => ?_)
  · skip
    obtain ⟨V, -, hV, rfl⟩ := inR_t (by decide) (by decide) (c4)
    refine lv_aload_n hx hb dX6_likeness_11 rfl (lv_at hl 0 rfl) ?_
    have hPc := hP.sub (ws' := [(mq, .inr (6, [.ref mw, .int (nI slip), .int (nI h), .int (nI kd), .ref ms, .int (nI cnt), .ref ml, .int (nI nl), .ref mh, .int (nI hn), .ref mr, .int (nI rm), .ref mst, .long (lN lo), .ref mn, .ref mth, .long (lN lon), .ref mld, .ref mpk, .ref mcm])), (mh, .inl (cI, 6, .inl (nF hs))), (mr, .inl (cI, 6, .inl (nF rw1)))]) [0, 2, 3] rfl
    have hDc := hD.sub (ws' := [(mq, .inr (6, [.ref mw, .int (nI slip), .int (nI h), .int (nI kd), .ref ms, .int (nI cnt), .ref ml, .int (nI nl), .ref mh, .int (nI hn), .ref mr, .int (nI rm), .ref mst, .long (lN lo), .ref mn, .ref mth, .long (lN lon), .ref mld, .ref mpk, .ref mcm])), (mh, .inl (cI, 6, .inl (nF hs))), (mr, .inl (cI, 6, .inl (nF rw1)))]) [0, 2, 3] (by decide) rfl
    have hFc := va_free (wc := [(mq, .inr (6, [.ref mw, .int (nI slip), .int (nI h), .int (nI kd), .ref ms, .int (nI cnt), .ref ml, .int (nI nl), .ref mh, .int (nI hn), .ref mr, .int (nI rm), .ref mst, .long (lN lo), .ref mn, .ref mth, .long (lN lon), .ref mld, .ref mpk, .ref mcm])), (mh, .inl (cI, 6, .inl (nF hs))), (mr, .inl (cI, 6, .inl (nF rw1)))]) hD hS hA [0, 2, 3] rfl
    refine w_callv (wc := [(mq, .inr (6, [.ref mw, .int (nI slip), .int (nI h), .int (nI kd), .ref ms, .int (nI cnt), .ref ml, .int (nI nl), .ref mh, .int (nI hn), .ref mr, .int (nI rm), .ref mst, .long (lN lo), .ref mn, .ref mth, .long (lN lon), .ref mld, .ref mpk, .ref mcm])), (mh, .inl (cI, 6, .inl (nF hs))), (mr, .inl (cI, 6, .inl (nF rw1)))]) (wr := [(ml, .inl (cI, 28, .inl (nF lg)))]) hP hD hS [0, 2, 3] [1] rfl rfl (by decide) (by decide) hFc (va_runV (As := []) (rest := []) ⟨hx, hb, hml, hown, hts⟩ (m_X6_layHeard l D cI cJ _ mq mw slip h kd ms cnt ml nl mh hn mr rm mst lo mn mth lon mld mpk mcm hs rw1) (cwV 0 hts gX6_likeness_X6_layHeard rfl rfl rfl (by decide +kernel) ⟨Nat.le_of_ble_eq_true rfl, Nat.le_of_ble_eq_true rfl⟩) ⟨PX.blind, va_recv hKB.1 hP (ci := 6) (q0 := 0) rfl rfl, fun U hU hW => ⟨rfl, by rw [hU], hKB.warm hW, by rw [hU]; exact hPc, hDc.weaken (fun _ _ _ _ => trivial)⟩⟩ rfl rfl hl.1 rfl (lv_room (Nat.le_of_ble_eq_true rfl)) dX6_likeness_12 ⟨Nat.le_of_ble_eq_true rfl, Nat.le_of_ble_eq_true rfl⟩) (fun u12 H locs hw12 hP hD hS => ?_)
    have hP : va_P D vwCl [(ml, .inl (cI, 28, .inl (nF lg))), (mq, .inr (6, [.ref mw, .int (nI slip), .int (nI h), .int (nI kd), .ref ms, .int (nI cnt), .ref ml, .int (nI nl), .ref mh, .int (nI hn), .ref mr, .int (nI hn), .ref mst, .long (lN lo), .ref mn, .ref mth, .long (lN lon), .ref mld, .ref mpk, .ref mcm])), (mh, .inl (cI, 6, .inl (nF hs))), (mr, .inl (cI, 6, .inl (nF hs)))] _ := hP
    have hD : va_D A [(ml, .inl (cI, 28, .inl (nF lg))), (mq, .inr (6, [.ref mw, .int (nI slip), .int (nI h), .int (nI kd), .ref ms, .int (nI cnt), .ref ml, .int (nI nl), .ref mh, .int (nI hn), .ref mr, .int (nI hn), .ref mst, .long (lN lo), .ref mn, .ref mth, .long (lN lon), .ref mld, .ref mpk, .ref mcm])), (mh, .inl (cI, 6, .inl (nF hs))), (mr, .inl (cI, 6, .inl (nF hs)))] := hD
    refine lv_aload_n hx hb dX6_likeness_15 rfl (lv_at hl 0 rfl) ?_
    refine lv_iload_n hx hb dX6_likeness_16 rfl (lv_at hl 1 rfl) ?_
    have hPc := hP.sub (ws' := [(mq, .inr (6, [.ref mw, .int (nI slip), .int (nI h), .int (nI kd), .ref ms, .int (nI cnt), .ref ml, .int (nI nl), .ref mh, .int (nI hn), .ref mr, .int (nI hn), .ref mst, .long (lN lo), .ref mn, .ref mth, .long (lN lon), .ref mld, .ref mpk, .ref mcm])), (ml, .inl (cI, 28, .inl (nF lg))), (mr, .inl (cI, 6, .inl (nF hs)))]) [1, 0, 3] rfl
    refine r_calll hP hS (va_runV (As := [.int (nI V)]) (rest := []) ⟨hx, hb, hml, hown, hts⟩ (m_X6_likenessOf l D cI cJ mq mw slip h kd ms cnt ml nl mh hn mr hn mst lo mn mth lon mld mpk mcm lg num hs V (by omega) (by assumption) (by assumption) (by assumption) (by assumption) (by assumption) (hn6) (hh6)) (cwV 1 hts gX6_likeness_X6_likenessOf rfl rfl rfl (by decide +kernel) ⟨Nat.le_of_ble_eq_true rfl, Nat.le_of_ble_eq_true rfl⟩) ⟨PR.blind, va_recv hKB.1 hP (ci := 6) (q0 := 1) rfl rfl, fun U hU hW => ⟨rfl, hKB.warm hW, by rw [hU]; exact hPc⟩⟩ rfl rfl hl.1 rfl (lv_room (Nat.le_of_ble_eq_true rfl)) dX6_likeness_17 ⟨Nat.le_of_ble_eq_true rfl, Nat.le_of_ble_eq_true rfl⟩) (fun r3 H locs hw17 hP hS => ?_)
    have hw17 : r3 = lN (lkM num slip hs V hn) := hw17
    subst hw17
    exact w_lret hx hb hr hlk hQ hAe (hs, hn) (hP.sub [1, 0, 2, 3] rfl) (hD.sub [1, 0, 2, 3] (by decide) rfl) hS (by refine ⟨?_, trivial⟩; rw [aLk, if_pos c4, tN_n (show V < 2 ^ 31 by omega)]) dX6_likeness_20
  refine lv_ldc2 hx hb hown kl108 dX6_likeness_7 ?_
  exact w_lret hx hb hr hlk hQ hAe (rw1, rm) hP hD hS (by refine ⟨?_, trivial⟩; rw [aLk, c4]; rfl) dX6_likeness_10

set_option maxHeartbeats 4000000 in
set_option maxRecDepth 100000 in
theorem m_X6_thinks (l : Launch) (D : va_G) (cI cJ : ClassId) (sz : Nat) (mq : Nat) (mw : Nat) (slip : Nat) (h : Nat) (kd : Nat) (ms : Nat) (cnt : Nat) (ml : Nat) (nl : Nat) (mh : Nat) (hn : Nat) (mr : Nat) (rm : Nat) (mst : Nat) (lo : Nat) (mn : Nat) (mth : Nat) (lon : Nat) (mld : Nat) (mpk : Nat) (mcm : Nat) (lg : Nat → Nat) (num : Nat → Nat) (hs : Nat → Nat) (rw1 : Nat → Nat) (p0 : Int32) (p1 : Int32) (hnl7 : nl ≤ 7) (hlg : okL lg nl) (hbf : ∀ t, t < 8 → bfM lg t nl 0 = num t) (hsl : slip ≤ 12) (hnum : ∀ j, j < 8 → num j < 10) (hn6 : hn ≤ 6) (hh6 : ∀ j, j < 6 → hs j < 6) : Met l yX6_thinks wsX6_thinks ({ frames := 2, cells := 0, slots := 0, locals := 49 }) (PX D cI cJ [(mq, .inr (6, [.ref mw, .int (nI slip), .int (nI h), .int (nI kd), .ref ms, .int (nI cnt), .ref ml, .int (nI nl), .ref mh, .int (nI hn), .ref mr, .int (nI rm), .ref mst, .long (lN lo), .ref mn, .ref mth, .long (lN lon), .ref mld, .ref mpk, .ref mcm])), (ml, .inl (cI, 28, .inl (nF lg))), (mh, .inl (cI, 6, .inl (nF hs))), (mr, .inl (cI, 6, .inl (nF rw1)))] sz [.ref mq, .int p0, .int p1]) (QWl D (S := (Nat → Nat) × Nat) [(mq, .inr (6, [.ref mw, .int (nI slip), .int (nI h), .int (nI kd), .ref ms, .int (nI cnt), .ref ml, .int (nI nl), .ref mh, .int (nI hn), .ref mr, .int (nI rm), .ref mst, .long (lN lo), .ref mn, .ref mth, .long (lN lon), .ref mld, .ref mpk, .ref mcm])), (ml, .inl (cI, 28, .inl (nF lg))), (mh, .inl (cI, 6, .inl (nF hs))), (mr, .inl (cI, 6, .inl (nF rw1)))] sz (fun r u => r = aTh (fun t => lkM num slip hs t hn) p0 p1 ∧ (True)) (fun u => [(mq, .inr (6, [.ref mw, .int (nI slip), .int (nI h), .int (nI kd), .ref ms, .int (nI cnt), .ref ml, .int (nI nl), .ref mh, .int (nI hn), .ref mr, .int (nI (u.2)), .ref mst, .long (lN lo), .ref mn, .ref mth, .long (lN lon), .ref mld, .ref mpk, .ref mcm])), (ml, .inl (cI, 28, .inl (nF lg))), (mh, .inl (cI, 6, .inl (nF hs))), (mr, .inl (cI, 6, .inl (nF u.1)))])) 0 0 (va_A [(mq, .inr (6, [.ref mw, .int (nI slip), .int (nI h), .int (nI kd), .ref ms, .int (nI cnt), .ref ml, .int (nI nl), .ref mh, .int (nI hn), .ref mr, .int (nI rm), .ref mst, .long (lN lo), .ref mn, .ref mth, .long (lN lon), .ref mld, .ref mpk, .ref mcm])), (ml, .inl (cI, 28, .inl (nF lg))), (mh, .inl (cI, 6, .inl (nF hs))), (mr, .inl (cI, 6, .inl (nF rw1)))] sz) := by
  refine met_X (cc := cX6_thinks) (maxL := 6) (ret := (some .long)) (by decide) rfl (Nat.le_of_ble_eq_true rfl) ?_
  intro p e s m args below meth c Q ls A hQ hAe hAt hKB hP hD hA hl
  obtain ⟨hx, hb, hr, hml, hlk, hts, hown, hnm⟩ := hAt
  have hown : s.vm.findClass RX6 = some m.cls := hown
  have hS : va_S A s.heap s.heap [] := va_S.rf
  have hl : lv_has ls 6 [(0, .ref mq), (1, .int p0), (2, .int p1)] := hl
  have kl122 := hts (.constantLong RX6 122 ((-1000000000000000002))) (by decide +kernel)
  have kl117 := hts (.constantLong RX6 117 ((-1000000000000000001))) (by decide +kernel)
  have hlb : ∀ t, t < 8 → lkM num slip hs t hn < 2 ^ 59 := fun t ht => lkM_lt hsl (hnum t ht) hn6
  refine lv_iload_n hx hb dX6_thinks_0 rfl (lv_at hl 1 rfl) ?_
  have hPc := hP.sub (ws' := []) [] rfl
  refine r_calli hP hS (va_runS (As := [.int p0]) (rest := []) ⟨hx, hb, hml, hown, hts⟩ (m_X6_isTongue l D cI cJ p0) (va_cwS 1 hts gX6_thinks_X6_isTongue rfl rfl rfl (by decide +kernel) ⟨Nat.le_of_ble_eq_true rfl, Nat.le_of_ble_eq_true rfl⟩) ⟨PR.blind, fun U hU hW => ⟨rfl, hKB.warm hW, by rw [hU]; exact hPc⟩⟩ rfl rfl hl.1 rfl (lv_room (Nat.le_of_ble_eq_true rfl)) dX6_thinks_1 ⟨Nat.le_of_ble_eq_true rfl, Nat.le_of_ble_eq_true rfl⟩) (fun r1 H locs hw1 hP hS => ?_)
  have hw1 : r1 = bI (inR p0 0 7) := hw1
  subst hw1
  refine r_bif_ne (b := inR p0 0 7) (tgt := 11) hx hb dX6_thinks_4 (by decide) (fun c4 => ?_) (fun c4 => ?_)
  · skip
    obtain ⟨V, -, hV, rfl⟩ := inR_t (by decide) (by decide) (c4)
    refine lv_iload_n hx hb dX6_thinks_11 rfl (lv_at hl 2 rfl) ?_
    have hPc := hP.sub (ws' := []) [] rfl
    refine r_calli hP hS (va_runS (As := [.int p1]) (rest := []) ⟨hx, hb, hml, hown, hts⟩ (m_X6_isPart l D cI cJ p1) (va_cwS 1 hts gX6_thinks_X6_isPart rfl rfl rfl (by decide +kernel) ⟨Nat.le_of_ble_eq_true rfl, Nat.le_of_ble_eq_true rfl⟩) ⟨PR.blind, fun U hU hW => ⟨rfl, hKB.warm hW, by rw [hU]; exact hPc⟩⟩ rfl rfl hl.1 rfl (lv_room (Nat.le_of_ble_eq_true rfl)) dX6_thinks_12 ⟨Nat.le_of_ble_eq_true rfl, Nat.le_of_ble_eq_true rfl⟩) (fun r2 H locs hw12 hP hS => ?_)
    have hw12 : r2 = bI (inR p1 0 1) := hw12
    subst hw12
    refine r_bif_ne (b := inR p1 0 1) (tgt := 22) hx hb dX6_thinks_15 (by decide) (fun c15 => ?_) (fun c15 => ?_)
    · skip
      obtain ⟨Pt, -, hPt, rfl⟩ := inR_t (by decide) (by decide) (c15)
      refine lv_aload_n hx hb dX6_thinks_22 rfl (lv_at hl 0 rfl) ?_
      have hPc := hP.sub (ws' := [(mq, .inr (6, [.ref mw, .int (nI slip), .int (nI h), .int (nI kd), .ref ms, .int (nI cnt), .ref ml, .int (nI nl), .ref mh, .int (nI hn), .ref mr, .int (nI rm), .ref mst, .long (lN lo), .ref mn, .ref mth, .long (lN lon), .ref mld, .ref mpk, .ref mcm])), (mh, .inl (cI, 6, .inl (nF hs))), (mr, .inl (cI, 6, .inl (nF rw1)))]) [0, 2, 3] rfl
      have hDc := hD.sub (ws' := [(mq, .inr (6, [.ref mw, .int (nI slip), .int (nI h), .int (nI kd), .ref ms, .int (nI cnt), .ref ml, .int (nI nl), .ref mh, .int (nI hn), .ref mr, .int (nI rm), .ref mst, .long (lN lo), .ref mn, .ref mth, .long (lN lon), .ref mld, .ref mpk, .ref mcm])), (mh, .inl (cI, 6, .inl (nF hs))), (mr, .inl (cI, 6, .inl (nF rw1)))]) [0, 2, 3] (by decide) rfl
      have hFc := va_free (wc := [(mq, .inr (6, [.ref mw, .int (nI slip), .int (nI h), .int (nI kd), .ref ms, .int (nI cnt), .ref ml, .int (nI nl), .ref mh, .int (nI hn), .ref mr, .int (nI rm), .ref mst, .long (lN lo), .ref mn, .ref mth, .long (lN lon), .ref mld, .ref mpk, .ref mcm])), (mh, .inl (cI, 6, .inl (nF hs))), (mr, .inl (cI, 6, .inl (nF rw1)))]) hD hS hA [0, 2, 3] rfl
      refine w_callv (wc := [(mq, .inr (6, [.ref mw, .int (nI slip), .int (nI h), .int (nI kd), .ref ms, .int (nI cnt), .ref ml, .int (nI nl), .ref mh, .int (nI hn), .ref mr, .int (nI rm), .ref mst, .long (lN lo), .ref mn, .ref mth, .long (lN lon), .ref mld, .ref mpk, .ref mcm])), (mh, .inl (cI, 6, .inl (nF hs))), (mr, .inl (cI, 6, .inl (nF rw1)))]) (wr := [(ml, .inl (cI, 28, .inl (nF lg)))]) hP hD hS [0, 2, 3] [1] rfl rfl (by decide) (by decide) hFc (va_runV (As := []) (rest := []) ⟨hx, hb, hml, hown, hts⟩ (m_X6_layHeard l D cI cJ _ mq mw slip h kd ms cnt ml nl mh hn mr rm mst lo mn mth lon mld mpk mcm hs rw1) (cwV 0 hts gX6_thinks_X6_layHeard rfl rfl rfl (by decide +kernel) ⟨Nat.le_of_ble_eq_true rfl, Nat.le_of_ble_eq_true rfl⟩) ⟨PX.blind, va_recv hKB.1 hP (ci := 6) (q0 := 0) rfl rfl, fun U hU hW => ⟨rfl, by rw [hU], hKB.warm hW, by rw [hU]; exact hPc, hDc.weaken (fun _ _ _ _ => trivial)⟩⟩ rfl rfl hl.1 rfl (lv_room (Nat.le_of_ble_eq_true rfl)) dX6_thinks_23 ⟨Nat.le_of_ble_eq_true rfl, Nat.le_of_ble_eq_true rfl⟩) (fun u23 H locs hw23 hP hD hS => ?_)
      have hP : va_P D vwCl [(ml, .inl (cI, 28, .inl (nF lg))), (mq, .inr (6, [.ref mw, .int (nI slip), .int (nI h), .int (nI kd), .ref ms, .int (nI cnt), .ref ml, .int (nI nl), .ref mh, .int (nI hn), .ref mr, .int (nI hn), .ref mst, .long (lN lo), .ref mn, .ref mth, .long (lN lon), .ref mld, .ref mpk, .ref mcm])), (mh, .inl (cI, 6, .inl (nF hs))), (mr, .inl (cI, 6, .inl (nF hs)))] _ := hP
      have hD : va_D A [(ml, .inl (cI, 28, .inl (nF lg))), (mq, .inr (6, [.ref mw, .int (nI slip), .int (nI h), .int (nI kd), .ref ms, .int (nI cnt), .ref ml, .int (nI nl), .ref mh, .int (nI hn), .ref mr, .int (nI hn), .ref mst, .long (lN lo), .ref mn, .ref mth, .long (lN lon), .ref mld, .ref mpk, .ref mcm])), (mh, .inl (cI, 6, .inl (nF hs))), (mr, .inl (cI, 6, .inl (nF hs)))] := hD
      refine lv_lconst (v := lN (0)) hx hb dX6_thinks_26 (by decide) ?_
      refine lv_lstore_n (lv' := [(3, .long (lN 0)), (0, .ref mq), (1, .int (nI V)), (2, .int (nI Pt))]) hx hb dX6_thinks_27 rfl hl (by decide) rfl (fun ls hl => ?_)
      refine lv_iconst (v := nI (0)) hx hb dX6_thinks_28 (by decide) ?_
      refine lv_istore (lv' := [(5, .int (nI 0)), (3, .long (lN 0)), (0, .ref mq), (1, .int (nI V)), (2, .int (nI Pt))]) hx hb dX6_thinks_29 hl (by decide) rfl (fun ls hl => ?_)
      have L31 : ∀ (n : Nat) (k : Nat) (H : Heap) (locs : List Loc) (ls : Array Slot), 8 - k < n → (k ≤ 8) → va_P D vwCl [(ml, .inl (cI, 28, .inl (nF lg))), (mq, .inr (6, [.ref mw, .int (nI slip), .int (nI h), .int (nI kd), .ref ms, .int (nI cnt), .ref ml, .int (nI nl), .ref mh, .int (nI hn), .ref mr, .int (nI hn), .ref mst, .long (lN lo), .ref mn, .ref mth, .long (lN lon), .ref mld, .ref mpk, .ref mcm])), (mh, .inl (cI, 6, .inl (nF hs))), (mr, .inl (cI, 6, .inl (nF hs)))] H → va_D A [(ml, .inl (cI, 28, .inl (nF lg))), (mq, .inr (6, [.ref mw, .int (nI slip), .int (nI h), .int (nI kd), .ref ms, .int (nI cnt), .ref ml, .int (nI nl), .ref mh, .int (nI hn), .ref mr, .int (nI hn), .ref mst, .long (lN lo), .ref mn, .ref mth, .long (lN lon), .ref mld, .ref mpk, .ref mcm])), (mh, .inl (cI, 6, .inl (nF hs))), (mr, .inl (cI, 6, .inl (nF hs)))] → va_S A s.heap H locs → lv_has ls 6 [(5, .int (nI k)), (3, .long (lN (sm k (fun t => lkM num slip hs t hn)))), (0, .ref mq), (1, .int (nI V)), (2, .int (nI Pt))] → W p l e ({ frames := 2, cells := 0, slots := 0, locals := 49 }) s m args below meth c H locs 0 0 Q (F0 m 31 ls []) := by
        intro n
        induction n with
        | zero => intro k H locs ls hm; exact absurd hm (Nat.not_lt_zero _)
        | succ n ih31 =>
          intro k H locs ls hm hk hP hD hS hl
          refine lv_iload hx hb dX6_thinks_31 (lv_at hl 0 rfl) ?_
          refine lv_bipush (v := nI (8)) hx hb dX6_thinks_33 (by decide) ?_
          refine r_icmp_ge (a := k) (b := 8) (tgt := 53) hx hb dX6_thinks_35 (by decide) (by omega) (by omega)  (fun c35 => ?_) (fun c35 => ?_)
          · skip
            obtain rfl : 8 = k := by omega
            have hlv := hlb V (by omega)
            refine lv_aload_n hx hb dX6_thinks_53 rfl (lv_at hl 2 rfl) ?_
            refine lv_iload_n hx hb dX6_thinks_54 rfl (lv_at hl 3 rfl) ?_
            have hPc := hP.sub (ws' := [(mq, .inr (6, [.ref mw, .int (nI slip), .int (nI h), .int (nI kd), .ref ms, .int (nI cnt), .ref ml, .int (nI nl), .ref mh, .int (nI hn), .ref mr, .int (nI hn), .ref mst, .long (lN lo), .ref mn, .ref mth, .long (lN lon), .ref mld, .ref mpk, .ref mcm])), (ml, .inl (cI, 28, .inl (nF lg))), (mr, .inl (cI, 6, .inl (nF hs)))]) [1, 0, 3] rfl
            refine r_calll hP hS (va_runV (As := [.int (nI V)]) (rest := []) ⟨hx, hb, hml, hown, hts⟩ (m_X6_likenessOf l D cI cJ mq mw slip h kd ms cnt ml nl mh hn mr hn mst lo mn mth lon mld mpk mcm lg num hs V (by omega) (by assumption) (by assumption) (by assumption) (by assumption) (by assumption) (hn6) (hh6)) (cwV 1 hts gX6_thinks_X6_likenessOf rfl rfl rfl (by decide +kernel) ⟨Nat.le_of_ble_eq_true rfl, Nat.le_of_ble_eq_true rfl⟩) ⟨PR.blind, va_recv hKB.1 hP (ci := 6) (q0 := 1) rfl rfl, fun U hU hW => ⟨rfl, hKB.warm hW, by rw [hU]; exact hPc⟩⟩ rfl rfl hl.1 rfl (lv_room (Nat.le_of_ble_eq_true rfl)) dX6_thinks_55 ⟨Nat.le_of_ble_eq_true rfl, Nat.le_of_ble_eq_true rfl⟩) (fun r4 H locs hw55 hP hS => ?_)
            have hw55 : r4 = lN (lkM num slip hs V hn) := hw55
            subst hw55
            refine lv_lload_n hx hb dX6_thinks_58 rfl (lv_at hl 1 rfl) ?_
            refine lv_iload_n hx hb dX6_thinks_59 rfl (lv_at hl 4 rfl) ?_
            have hPc := hP.sub (ws' := []) [] rfl
            refine r_calll hP hS (va_runS (As := [.long (lN (lkM num slip hs V hn)), .long (lN (sm 8 (fun t => lkM num slip hs t hn))), .int (nI Pt)]) (rest := []) ⟨hx, hb, hml, hown, hts⟩ (m_X6_lowest l D cI cJ (lkM num slip hs V hn) (sm 8 (fun t => lkM num slip hs t hn)) Pt (by omega) (lk8_lt hlb) (hPt)) (va_cwS 3 hts gX6_thinks_X6_lowest rfl rfl rfl (by decide +kernel) ⟨Nat.le_of_ble_eq_true rfl, Nat.le_of_ble_eq_true rfl⟩) ⟨PR.blind, fun U hU hW => ⟨rfl, hKB.warm hW, by rw [hU]; exact hPc⟩⟩ rfl rfl hl.1 rfl (lv_room (Nat.le_of_ble_eq_true rfl)) dX6_thinks_60 ⟨Nat.le_of_ble_eq_true rfl, Nat.le_of_ble_eq_true rfl⟩) (fun r5 H locs hw60 hP hS => ?_)
            have hw60 : r5 = lN (lwst (lkM num slip hs V hn) (sm 8 (fun t => lkM num slip hs t hn)) Pt) := hw60
            subst hw60
            exact w_lret hx hb hr hlk hQ hAe (hs, hn) (hP.sub [1, 0, 2, 3] rfl) (hD.sub [1, 0, 2, 3] (by decide) rfl) hS (by refine ⟨?_, trivial⟩; rw [aTh, if_pos (rfo_0.mpr ⟨c4, c15⟩), tN_n (show V < 2 ^ 31 by omega), tN_n (show Pt < 2 ^ 31 by omega)]) dX6_thinks_63
          refine lv_lload_n hx hb dX6_thinks_38 rfl (lv_at hl 1 rfl) ?_
          refine lv_aload_n hx hb dX6_thinks_39 rfl (lv_at hl 2 rfl) ?_
          refine lv_iload hx hb dX6_thinks_40 (lv_at hl 0 rfl) ?_
          have hPc := hP.sub (ws' := [(mq, .inr (6, [.ref mw, .int (nI slip), .int (nI h), .int (nI kd), .ref ms, .int (nI cnt), .ref ml, .int (nI nl), .ref mh, .int (nI hn), .ref mr, .int (nI hn), .ref mst, .long (lN lo), .ref mn, .ref mth, .long (lN lon), .ref mld, .ref mpk, .ref mcm])), (ml, .inl (cI, 28, .inl (nF lg))), (mr, .inl (cI, 6, .inl (nF hs)))]) [1, 0, 3] rfl
          refine r_calll hP hS (va_runV (As := [.int (nI k)]) (rest := [.long (lN (sm k (fun t => lkM num slip hs t hn)))]) ⟨hx, hb, hml, hown, hts⟩ (m_X6_likenessOf l D cI cJ mq mw slip h kd ms cnt ml nl mh hn mr hn mst lo mn mth lon mld mpk mcm lg num hs k (by omega) (by assumption) (by assumption) (by assumption) (by assumption) (by assumption) (hn6) (hh6)) (cwV 1 hts gX6_thinks_X6_likenessOf rfl rfl rfl (by decide +kernel) ⟨Nat.le_of_ble_eq_true rfl, Nat.le_of_ble_eq_true rfl⟩) ⟨PR.blind, va_recv hKB.1 hP (ci := 6) (q0 := 1) rfl rfl, fun U hU hW => ⟨rfl, hKB.warm hW, by rw [hU]; exact hPc⟩⟩ rfl rfl hl.1 rfl (lv_room (Nat.le_of_ble_eq_true rfl)) dX6_thinks_42 ⟨Nat.le_of_ble_eq_true rfl, Nat.le_of_ble_eq_true rfl⟩) (fun r6 H locs hw42 hP hS => ?_)
          have hw42 : r6 = lN (lkM num slip hs k hn) := hw42
          subst hw42
          refine r_ladd (a := sm k (fun t => lkM num slip hs t hn)) (b := lkM num slip hs k hn) hx hb dX6_thinks_45  ?_
          refine lv_lstore_n (lv' := [(3, .long (lN ((sm k (fun t => lkM num slip hs t hn)) + (lkM num slip hs k hn)))), (5, .int (nI k)), (0, .ref mq), (1, .int (nI V)), (2, .int (nI Pt))]) hx hb dX6_thinks_46 rfl hl (by decide) rfl (fun ls hl => ?_)
          refine lv_iinc (v := nI (k + 1)) (lv' := [(5, .int (nI (k + 1))), (3, .long (lN ((sm k (fun t => lkM num slip hs t hn)) + (lkM num slip hs k hn)))), (0, .ref mq), (1, .int (nI V)), (2, .int (nI Pt))]) hx hb dX6_thinks_47 hl (k := 1) rfl (n_inc _ 1) (by decide) rfl (fun ls hl => ?_)
          refine lv_goto (tgt := 31) hx hb dX6_thinks_50 (by decide) ?_
          exact ih31 (k + 1) _ _ _ (by omega) (by omega) hP hD hS hl
      exact L31 (8 - 0 + 1) 0 _ _ _ (Nat.lt_succ_self _) (by omega) hP hD hS hl
    refine lv_ldc2 hx hb hown kl122 dX6_thinks_18 ?_
    exact w_lret hx hb hr hlk hQ hAe (rw1, rm) hP hD hS (by refine ⟨?_, trivial⟩; rw [aTh, c4, c15]; rfl) dX6_thinks_21
  refine lv_ldc2 hx hb hown kl117 dX6_thinks_7 ?_
  exact w_lret hx hb hr hlk hQ hAe (rw1, rm) hP hD hS (by refine ⟨?_, trivial⟩; rw [aTh, c4]; cases inR p1 0 1 <;> rfl) dX6_thinks_10

set_option maxHeartbeats 4000000 in
set_option maxRecDepth 100000 in
theorem m_X6_lowerOf (l : Launch) (D : va_G) (cI cJ : ClassId) (mq : Nat) (mw : Nat) (slip : Nat) (h : Nat) (kd : Nat) (ms : Nat) (cnt : Nat) (ml : Nat) (nl : Nat) (mh : Nat) (hn : Nat) (mr : Nat) (rm : Nat) (mst : Nat) (lo : Nat) (mn : Nat) (mth : Nat) (lon : Nat) (mld : Nat) (mpk : Nat) (mcm : Nat) (w : Nat → Nat) (hw : ∀ j, j < 3 → w j ≤ 4) (hh : h ≤ 4) : Met l yX6_lowerOf wsX6_lowerOf ({ frames := 0, cells := 0, slots := 0, locals := 0 }) (PR D cI cJ [(mq, .inr (6, [.ref mw, .int (nI slip), .int (nI h), .int (nI kd), .ref ms, .int (nI cnt), .ref ml, .int (nI nl), .ref mh, .int (nI hn), .ref mr, .int (nI rm), .ref mst, .long (lN lo), .ref mn, .ref mth, .long (lN lon), .ref mld, .ref mpk, .ref mcm])), (mw, .inl (cI, 3, .inl (nF w)))] [.ref mq]) (QRl (fun r => r = lN (lowN w h))) 0 0 NA := by
  refine met_R (cc := cX6_lowerOf) (maxL := 6) (ret := (some .long)) (by decide) rfl (Nat.le_of_ble_eq_true rfl) ?_
  intro p e s m args below meth c Q ls hQ hAt hKB hP hl
  obtain ⟨hx, hb, hr, hml, hlk, hts, hown, hnm⟩ := hAt
  have hown : s.vm.findClass RX6 = some m.cls := hown
  have hS : va_S NA s.heap s.heap [] := va_S.rf
  have hl : lv_has ls 6 [(0, .ref mq)] := hl
  have kl137 := hts (.constantLong RX6 137 (lN (12))) (by decide +kernel)
  have hiX6 : ∀ w ∈ u_ws RX6 TX6 20, w ∈ wsX6_lowerOf := by decide +kernel
  have fl7 := hts (.fieldLink RX6 7 "TaughtTonguesModel" "weights" "[I") (by decide +kernel)
  have fl48 := hts (.fieldLink RX6 48 "TaughtTonguesModel" "hearsIs" "I") (by decide +kernel)
  have hw0 := hw 0 (by decide)
  have hw1 := hw 1 (by decide)
  have hw2 := hw 2 (by decide)
  refine lv_ldc2 hx hb hown kl137 dX6_lowerOf_0 ?_
  refine lv_aload_n hx hb dX6_lowerOf_3 rfl (lv_at hl 0 rfl) ?_
  refine va_get (D := D) (ci := 6) (v := .ref mw) (C := RX6) (T := TX6) (N := 20) hx hb hts hiX6 hown hKB.1 hP 0 rfl rfl 0 (by decide) fl7 (fun _ h9 => h9) rfl dX6_lowerOf_4 ?_
  refine lv_iconst (v := nI (0)) hx hb dX6_lowerOf_7 (by decide) ?_
  refine r_iald (i := 0) (v := nI (w 0)) hx hb hKB.1 hP 1 0 rfl rfl (by omega) (by decide) (rfl) dX6_lowerOf_8 ?_
  refine lv_aload_n hx hb dX6_lowerOf_9 rfl (lv_at hl 0 rfl) ?_
  refine va_get (D := D) (ci := 6) (v := .ref mw) (C := RX6) (T := TX6) (N := 20) hx hb hts hiX6 hown hKB.1 hP 0 rfl rfl 0 (by decide) fl7 (fun _ h9 => h9) rfl dX6_lowerOf_10 ?_
  refine lv_iconst (v := nI (1)) hx hb dX6_lowerOf_13 (by decide) ?_
  refine r_iald (i := 1) (v := nI (w 1)) hx hb hKB.1 hP 1 0 rfl rfl (by omega) (by decide) (rfl) dX6_lowerOf_14 ?_
  refine r_iadd (a := w 0) (b := w 1) hx hb dX6_lowerOf_15  ?_
  refine lv_aload_n hx hb dX6_lowerOf_16 rfl (lv_at hl 0 rfl) ?_
  refine va_get (D := D) (ci := 6) (v := .ref mw) (C := RX6) (T := TX6) (N := 20) hx hb hts hiX6 hown hKB.1 hP 0 rfl rfl 0 (by decide) fl7 (fun _ h9 => h9) rfl dX6_lowerOf_17 ?_
  refine lv_iconst (v := nI (2)) hx hb dX6_lowerOf_20 (by decide) ?_
  refine r_iald (i := 2) (v := nI (w 2)) hx hb hKB.1 hP 1 0 rfl rfl (by omega) (by decide) (rfl) dX6_lowerOf_21 ?_
  refine r_iadd (a := (w 0) + (w 1)) (b := w 2) hx hb dX6_lowerOf_22  ?_
  refine r_i2l (a := ((w 0) + (w 1)) + (w 2)) hx hb dX6_lowerOf_23 (by omega) ?_
  refine r_lmul (a := 12) (b := ((w 0) + (w 1)) + (w 2)) hx hb dX6_lowerOf_24  ?_
  refine lv_lstore_n (lv' := [(1, .long (lN (12 * (((w 0) + (w 1)) + (w 2))))), (0, .ref mq)]) hx hb dX6_lowerOf_25 rfl hl (by decide) rfl (fun ls hl => ?_)
  refine lv_lconst (v := lN (1)) hx hb dX6_lowerOf_26 (by decide) ?_
  refine lv_lstore_n (lv' := [(3, .long (lN 1)), (1, .long (lN (12 * (((w 0) + (w 1)) + (w 2))))), (0, .ref mq)]) hx hb dX6_lowerOf_27 rfl hl (by decide) rfl (fun ls hl => ?_)
  refine lv_iconst (v := nI (0)) hx hb dX6_lowerOf_28 (by decide) ?_
  refine lv_istore (lv' := [(5, .int (nI 0)), (3, .long (lN 1)), (1, .long (lN (12 * (((w 0) + (w 1)) + (w 2))))), (0, .ref mq)]) hx hb dX6_lowerOf_29 hl (by decide) rfl (fun ls hl => ?_)
  have L31 : ∀ (n : Nat) (k : Nat) (H : Heap) (locs : List Loc) (ls : Array Slot), h - k < n → (k ≤ h) → va_P D vwCl [(mq, .inr (6, [.ref mw, .int (nI slip), .int (nI h), .int (nI kd), .ref ms, .int (nI cnt), .ref ml, .int (nI nl), .ref mh, .int (nI hn), .ref mr, .int (nI rm), .ref mst, .long (lN lo), .ref mn, .ref mth, .long (lN lon), .ref mld, .ref mpk, .ref mcm])), (mw, .inl (cI, 3, .inl (nF w)))] H → va_S NA s.heap H locs → lv_has ls 6 [(5, .int (nI k)), (3, .long (lN (pw (12 * (w 0 + w 1 + w 2)) k))), (1, .long (lN (12 * (((w 0) + (w 1)) + (w 2))))), (0, .ref mq)] → W p l e ({ frames := 0, cells := 0, slots := 0, locals := 0 }) s m args below meth c H locs 0 0 Q (F0 m 31 ls []) := by
    intro n
    induction n with
    | zero => intro k H locs ls hm; exact absurd hm (Nat.not_lt_zero _)
    | succ n ih31 =>
      intro k H locs ls hm hk hP hS hl
      refine lv_iload hx hb dX6_lowerOf_31 (lv_at hl 0 rfl) ?_
      refine lv_aload_n hx hb dX6_lowerOf_33 rfl (lv_at hl 3 rfl) ?_
      refine va_get (D := D) (ci := 6) (v := .int (nI h)) (C := RX6) (T := TX6) (N := 20) hx hb hts hiX6 hown hKB.1 hP 0 rfl rfl 2 (by decide) fl48 (fun _ h9 => h9) rfl dX6_lowerOf_34 ?_
      refine r_icmp_ge (a := k) (b := h) (tgt := 50) hx hb dX6_lowerOf_37 (by decide) (by omega) (by omega)  (fun c37 => ?_) (fun c37 => ?_)
      · skip
        obtain rfl : h = k := by omega
        refine lv_lload_n hx hb dX6_lowerOf_50 rfl (lv_at hl 1 rfl) ?_
        exact r_lret hx hb hr hlk hQ hS (rfl) dX6_lowerOf_51
      refine lv_lload_n hx hb dX6_lowerOf_40 rfl (lv_at hl 1 rfl) ?_
      refine lv_lload_n hx hb dX6_lowerOf_41 rfl (lv_at hl 2 rfl) ?_
      refine r_lmul (a := pw (12 * (w 0 + w 1 + w 2)) k) (b := 12 * (((w 0) + (w 1)) + (w 2))) hx hb dX6_lowerOf_42  ?_
      refine lv_lstore_n (lv' := [(3, .long (lN ((pw (12 * (w 0 + w 1 + w 2)) k) * (12 * (((w 0) + (w 1)) + (w 2)))))), (5, .int (nI k)), (1, .long (lN (12 * (((w 0) + (w 1)) + (w 2))))), (0, .ref mq)]) hx hb dX6_lowerOf_43 rfl hl (by decide) rfl (fun ls hl => ?_)
      refine lv_iinc (v := nI (k + 1)) (lv' := [(5, .int (nI (k + 1))), (3, .long (lN ((pw (12 * (w 0 + w 1 + w 2)) k) * (12 * (((w 0) + (w 1)) + (w 2)))))), (1, .long (lN (12 * (((w 0) + (w 1)) + (w 2))))), (0, .ref mq)]) hx hb dX6_lowerOf_44 hl (k := 1) rfl (n_inc _ 1) (by decide) rfl (fun ls hl => ?_)
      refine lv_goto (tgt := 31) hx hb dX6_lowerOf_47 (by decide) ?_
      exact ih31 (k + 1) _ _ _ (by omega) (by omega) hP hS hl
  exact L31 (h - 0 + 1) 0 _ _ _ (Nat.lt_succ_self _) (by omega) hP hS hl

set_option maxHeartbeats 4000000 in
set_option maxRecDepth 100000 in
theorem m_X6_oddsOf (l : Launch) (D : va_G) (cI cJ : ClassId) (mq : Nat) (mw : Nat) (slip : Nat) (h : Nat) (kd : Nat) (ms : Nat) (cnt : Nat) (ml : Nat) (nl : Nat) (mh : Nat) (hn : Nat) (mr : Nat) (rm : Nat) (mst : Nat) (lo : Nat) (mn : Nat) (mth : Nat) (lon : Nat) (mld : Nat) (mpk : Nat) (mcm : Nat) (w : Nat → Nat) (hw : ∀ j, j < 3 → w j ≤ 4) (hsl : slip ≤ 12) (t : Nat) (sy : Nat) (ht : t < 8) (hsy : sy < 6) : Met l yX6_oddsOf wsX6_oddsOf ({ frames := 1, cells := 0, slots := 0, locals := 21 }) (PR D cI cJ [(mq, .inr (6, [.ref mw, .int (nI slip), .int (nI h), .int (nI kd), .ref ms, .int (nI cnt), .ref ml, .int (nI nl), .ref mh, .int (nI hn), .ref mr, .int (nI rm), .ref mst, .long (lN lo), .ref mn, .ref mth, .long (lN lon), .ref mld, .ref mpk, .ref mcm])), (mw, .inl (cI, 3, .inl (nF w)))] [.ref mq, .int (nI t), .int (nI sy)]) (QRl (fun r => r = lN (odS w slip t sy))) 0 0 NA := by
  refine met_R (cc := cX6_oddsOf) (maxL := 3) (ret := (some .long)) (by decide) rfl (Nat.le_of_ble_eq_true rfl) ?_
  intro p e s m args below meth c Q ls hQ hAt hKB hP hl
  obtain ⟨hx, hb, hr, hml, hlk, hts, hown, hnm⟩ := hAt
  have hown : s.vm.findClass RX6 = some m.cls := hown
  have hS : va_S NA s.heap s.heap [] := va_S.rf
  have hl : lv_has ls 3 [(0, .ref mq), (1, .int (nI t)), (2, .int (nI sy))] := hl
  have hiX6 : ∀ w ∈ u_ws RX6 TX6 20, w ∈ wsX6_oddsOf := by decide +kernel
  have fl7 := hts (.fieldLink RX6 7 "TaughtTonguesModel" "weights" "[I") (by decide +kernel)
  have fl44 := hts (.fieldLink RX6 44 "TaughtTonguesModel" "slipIs" "I") (by decide +kernel)
  have kl137 := hts (.constantLong RX6 137 (lN (12))) (by decide +kernel)
  have hwk := hw (sy / 2) (by omega)
  refine lv_aload_n hx hb dX6_oddsOf_0 rfl (lv_at hl 0 rfl) ?_
  refine va_get (D := D) (ci := 6) (v := .ref mw) (C := RX6) (T := TX6) (N := 20) hx hb hts hiX6 hown hKB.1 hP 0 rfl rfl 0 (by decide) fl7 (fun _ h9 => h9) rfl dX6_oddsOf_1 ?_
  refine lv_iload_n hx hb dX6_oddsOf_4 rfl (lv_at hl 2 rfl) ?_
  refine lv_iconst (v := nI (2)) hx hb dX6_oddsOf_5 (by decide) ?_
  refine r_idiv (a := sy) (b := 2) hx hb dX6_oddsOf_6 (by omega) (by omega) (by omega) ?_
  refine r_iald (i := sy / 2) (v := nI (w (sy / 2))) hx hb hKB.1 hP 1 0 rfl rfl (by omega) (by decide) (rfl) dX6_oddsOf_7 ?_
  refine r_i2l (a := w (sy / 2)) hx hb dX6_oddsOf_8 (by omega) ?_
  refine lv_iload_n hx hb dX6_oddsOf_9 rfl (lv_at hl 1 rfl) ?_
  refine lv_iload_n hx hb dX6_oddsOf_10 rfl (lv_at hl 2 rfl) ?_
  have hPc := hP.sub (ws' := []) [] rfl
  refine r_calli hP hS (va_runS (As := [.int (nI t), .int (nI sy)]) (rest := [.long (lN (w (sy / 2)))]) ⟨hx, hb, hml, hown, hts⟩ (m_X6_hasForm l D cI cJ t sy (by omega) (by omega)) (va_cwS 2 hts gX6_oddsOf_X6_hasForm rfl rfl rfl (by decide +kernel) ⟨Nat.le_of_ble_eq_true rfl, Nat.le_of_ble_eq_true rfl⟩) ⟨PR.blind, fun U hU hW => ⟨rfl, hKB.warm hW, by rw [hU]; exact hPc⟩⟩ rfl rfl hl.1 rfl (lv_room (Nat.le_of_ble_eq_true rfl)) dX6_oddsOf_11 ⟨Nat.le_of_ble_eq_true rfl, Nat.le_of_ble_eq_true rfl⟩) (fun r1 H locs hw11 hP hS => ?_)
  have hw11 : r1 = bI (hasF t sy) := hw11
  subst hw11
  refine r_bif_eq (b := hasF t sy) (tgt := 29) hx hb dX6_oddsOf_14 (by decide) (fun c14 => ?_) (fun c14 => ?_)
  · skip
    refine lv_aload_n hx hb dX6_oddsOf_29 rfl (lv_at hl 0 rfl) ?_
    refine va_get (D := D) (ci := 6) (v := .int (nI slip)) (C := RX6) (T := TX6) (N := 20) hx hb hts hiX6 hown hKB.1 hP 0 rfl rfl 1 (by decide) fl44 (fun _ h9 => h9) rfl dX6_oddsOf_30 ?_
    refine r_i2l (a := slip) hx hb dX6_oddsOf_33 (by omega) ?_
    refine r_lmul (a := w (sy / 2)) (b := slip) hx hb dX6_oddsOf_34  ?_
    exact r_lret hx hb hr hlk hQ hS (by first | rw [odS_y (of_decide_eq_true c14)] | rw [odS_n (of_decide_eq_false c14)]) dX6_oddsOf_35
  refine lv_ldc2 hx hb hown kl137 dX6_oddsOf_17 ?_
  refine lv_aload_n hx hb dX6_oddsOf_20 rfl (lv_at hl 0 rfl) ?_
  refine va_get (D := D) (ci := 6) (v := .int (nI slip)) (C := RX6) (T := TX6) (N := 20) hx hb hts hiX6 hown hKB.1 hP 0 rfl rfl 1 (by decide) fl44 (fun _ h9 => h9) rfl dX6_oddsOf_21 ?_
  refine r_i2l (a := slip) hx hb dX6_oddsOf_24 (by omega) ?_
  refine r_lsub (a := 12) (b := slip) hx hb dX6_oddsOf_25 (by omega) ?_
  refine lv_goto (tgt := 34) hx hb dX6_oddsOf_26 (by decide) ?_
  refine r_lmul (a := w (sy / 2)) (b := 12 - slip) hx hb dX6_oddsOf_34  ?_
  exact r_lret hx hb hr hlk hQ hS (by first | rw [odS_y (of_decide_eq_true c14)] | rw [odS_n (of_decide_eq_false c14)]) dX6_oddsOf_35


set_option maxHeartbeats 4000000 in
set_option maxRecDepth 100000 in
theorem m_X6_doesLast (l : Launch) (D : va_G) (cI cJ : ClassId) (mq : Nat) (mw : Nat) (slip : Nat) (h : Nat) (kd : Nat) (ms : Nat) (cnt : Nat) (ml : Nat) (nl : Nat) (mh : Nat) (hn : Nat) (mr : Nat) (rm : Nat) (mst : Nat) (lo : Nat) (mn : Nat) (mth : Nat) (lon : Nat) (mld : Nat) (mpk : Nat) (mcm : Nat) (ld : Nat → Nat) (t : Nat) (ht : t < 8) (hld : ∀ j, j < 8 → ld j < 256) : Met l yX6_doesLast wsX6_doesLast ({ frames := 0, cells := 0, slots := 0, locals := 0 }) (PR D cI cJ [(mq, .inr (6, [.ref mw, .int (nI slip), .int (nI h), .int (nI kd), .ref ms, .int (nI cnt), .ref ml, .int (nI nl), .ref mh, .int (nI hn), .ref mr, .int (nI rm), .ref mst, .long (lN lo), .ref mn, .ref mth, .long (lN lon), .ref mld, .ref mpk, .ref mcm])), (mld, .inl (cI, 8, .inl (nF ld)))] [.ref mq, .int (nI t)]) (QRi (fun r => r = bI (dlB ld t))) 0 0 NA := by
  refine met_R (cc := cX6_doesLast) (maxL := 4) (ret := (some .boolean)) (by decide) rfl (Nat.le_of_ble_eq_true rfl) ?_
  intro p e s m args below meth c Q ls hQ hAt hKB hP hl
  obtain ⟨hx, hb, hr, hml, hlk, hts, hown, hnm⟩ := hAt
  have hown : s.vm.findClass RX6 = some m.cls := hown
  have hS : va_S NA s.heap s.heap [] := va_S.rf
  have hl : lv_has ls 4 [(0, .ref mq), (1, .int (nI t))] := hl
  have hiX6 : ∀ w ∈ u_ws RX6 TX6 20, w ∈ wsX6_doesLast := by decide +kernel
  have fl35 := hts (.fieldLink RX6 35 "TaughtTonguesModel" "led" "[I") (by decide +kernel)
  refine lv_iconst (v := nI (1)) hx hb dX6_doesLast_0 (by decide) ?_
  refine lv_istore_n (lv' := [(2, .int (nI 1)), (0, .ref mq), (1, .int (nI t))]) hx hb dX6_doesLast_1 rfl hl (by decide) rfl (fun ls hl => ?_)
  refine lv_iconst (v := nI (0)) hx hb dX6_doesLast_2 (by decide) ?_
  refine lv_istore_n (lv' := [(3, .int (nI 0)), (2, .int (nI 1)), (0, .ref mq), (1, .int (nI t))]) hx hb dX6_doesLast_3 rfl hl (by decide) rfl (fun ls hl => ?_)
  have L4 : ∀ (n : Nat) (u : Nat) (H : Heap) (locs : List Loc) (ls : Array Slot), 8 - u < n → (u ≤ 8) → va_P D vwCl [(mq, .inr (6, [.ref mw, .int (nI slip), .int (nI h), .int (nI kd), .ref ms, .int (nI cnt), .ref ml, .int (nI nl), .ref mh, .int (nI hn), .ref mr, .int (nI rm), .ref mst, .long (lN lo), .ref mn, .ref mth, .long (lN lon), .ref mld, .ref mpk, .ref mcm])), (mld, .inl (cI, 8, .inl (nF ld)))] H → va_S NA s.heap H locs → lv_has ls 4 [(3, .int (nI u)), (2, .int (nI (dlN ld t u))), (0, .ref mq), (1, .int (nI t))] → W p l e ({ frames := 0, cells := 0, slots := 0, locals := 0 }) s m args below meth c H locs 0 0 Q (F0 m 4 ls []) := by
    intro n
    induction n with
    | zero => intro u H locs ls hm; exact absurd hm (Nat.not_lt_zero _)
    | succ n ih4 =>
      intro u H locs ls hm hu hP hS hl
      refine lv_iload_n hx hb dX6_doesLast_4 rfl (lv_at hl 0 rfl) ?_
      refine lv_bipush (v := nI (8)) hx hb dX6_doesLast_5 (by decide) ?_
      refine r_icmp_ge (a := u) (b := 8) (tgt := 53) hx hb dX6_doesLast_7 (by decide) (by omega) (by omega)  (fun c7 => ?_) (fun c7 => ?_)
      · skip
        obtain rfl : 8 = u := by omega
        have hl := lv_ch hl 1 (v2 := .int (bI (dlB ld t))) (l2 := [(3, .int (nI 8)), (2, .int (bI (dlB ld t))), (0, .ref mq), (1, .int (nI t))]) rfl (congrArg Value.int (dlB_b)) rfl
        refine lv_iload_n hx hb dX6_doesLast_53 rfl (lv_at hl 1 rfl) ?_
        exact r_zret (b := dlB ld t) hx hb hr hlk hQ hS rfl (rfl) dX6_doesLast_54
      have hd1 := dlN_le (ld := ld) (t := t) u
      have hl1 := hld t ht
      have hl2 := hld u c7
      refine lv_iload_n hx hb dX6_doesLast_10 rfl (lv_at hl 1 rfl) ?_
      refine r_if_eq (a := dlN ld t u) (tgt := 45) hx hb dX6_doesLast_11 (by decide) (by omega) (fun c11 => ?_) (fun c11 => ?_)
      · skip
        refine lv_iconst (v := nI (0)) hx hb dX6_doesLast_45 (by decide) ?_
        refine lv_istore_n (lv' := [(2, .int (nI 0)), (3, .int (nI u)), (0, .ref mq), (1, .int (nI t))]) hx hb dX6_doesLast_46 rfl hl (by decide) rfl (fun ls hl => ?_)
        have hl := lv_ch hl 0 (v2 := .int (nI (dlN ld t (u + 1)))) (l2 := [(2, .int (nI (dlN ld t (u + 1)))), (3, .int (nI u)), (0, .ref mq), (1, .int (nI t))]) rfl (congrArg Value.int (congrArg nI (by rw [dlN]; first | rw [if_pos c11] | rw [if_neg c11, if_pos c24] | rw [if_neg c11, if_neg c24, if_pos c38] | rw [if_neg c11, if_neg c24, if_neg c38]))) rfl
        refine lv_iinc (v := nI (u + 1)) (lv' := [(3, .int (nI (u + 1))), (2, .int (nI (dlN ld t (u + 1)))), (0, .ref mq), (1, .int (nI t))]) hx hb dX6_doesLast_47 hl (k := 1) rfl (n_inc _ 1) (by decide) rfl (fun ls hl => ?_)
        refine lv_goto (tgt := 4) hx hb dX6_doesLast_50 (by decide) ?_
        exact ih4 (u + 1) _ _ _ (by omega) (by omega) hP hS hl
      refine lv_aload_n hx hb dX6_doesLast_14 rfl (lv_at hl 2 rfl) ?_
      refine va_get (D := D) (ci := 6) (v := .ref mld) (C := RX6) (T := TX6) (N := 20) hx hb hts hiX6 hown hKB.1 hP 0 rfl rfl 17 (by decide) fl35 (fun _ h9 => h9) rfl dX6_doesLast_15 ?_
      refine lv_iload_n hx hb dX6_doesLast_18 rfl (lv_at hl 3 rfl) ?_
      refine r_iald (i := t) (v := nI (ld t)) hx hb hKB.1 hP 1 0 rfl rfl (by omega) (by decide) (rfl) dX6_doesLast_19 ?_
      refine lv_iload_n hx hb dX6_doesLast_20 rfl (lv_at hl 0 rfl) ?_
      refine r_ishr (a := ld t) (b := u) hx hb dX6_doesLast_21 (by omega) (by omega) ?_
      refine lv_iconst (v := nI (1)) hx hb dX6_doesLast_22 (by decide) ?_
      refine r_iand (a := (ld t) >>> u) (b := 1) hx hb dX6_doesLast_23  ?_
      refine r_if_eq (a := ((ld t) >>> u) &&& 1) (tgt := 41) hx hb dX6_doesLast_24 (by decide) (Nat.lt_of_le_of_lt Nat.and_le_right (by decide)) (fun c24 => ?_) (fun c24 => ?_)
      · skip
        refine lv_iconst (v := nI (1)) hx hb dX6_doesLast_41 (by decide) ?_
        refine lv_goto (tgt := 46) hx hb dX6_doesLast_42 (by decide) ?_
        refine lv_istore_n (lv' := [(2, .int (nI 1)), (3, .int (nI u)), (0, .ref mq), (1, .int (nI t))]) hx hb dX6_doesLast_46 rfl hl (by decide) rfl (fun ls hl => ?_)
        have hl := lv_ch hl 0 (v2 := .int (nI (dlN ld t (u + 1)))) (l2 := [(2, .int (nI (dlN ld t (u + 1)))), (3, .int (nI u)), (0, .ref mq), (1, .int (nI t))]) rfl (congrArg Value.int (congrArg nI (by rw [dlN]; first | rw [if_pos c11] | rw [if_neg c11, if_pos c24] | rw [if_neg c11, if_neg c24, if_pos c38] | rw [if_neg c11, if_neg c24, if_neg c38]))) rfl
        refine lv_iinc (v := nI (u + 1)) (lv' := [(3, .int (nI (u + 1))), (2, .int (nI (dlN ld t (u + 1)))), (0, .ref mq), (1, .int (nI t))]) hx hb dX6_doesLast_47 hl (k := 1) rfl (n_inc _ 1) (by decide) rfl (fun ls hl => ?_)
        refine lv_goto (tgt := 4) hx hb dX6_doesLast_50 (by decide) ?_
        exact ih4 (u + 1) _ _ _ (by omega) (by omega) hP hS hl
      refine lv_aload_n hx hb dX6_doesLast_27 rfl (lv_at hl 2 rfl) ?_
      refine va_get (D := D) (ci := 6) (v := .ref mld) (C := RX6) (T := TX6) (N := 20) hx hb hts hiX6 hown hKB.1 hP 0 rfl rfl 17 (by decide) fl35 (fun _ h9 => h9) rfl dX6_doesLast_28 ?_
      refine lv_iload_n hx hb dX6_doesLast_31 rfl (lv_at hl 0 rfl) ?_
      refine r_iald (i := u) (v := nI (ld u)) hx hb hKB.1 hP 1 0 rfl rfl (by omega) (by decide) (rfl) dX6_doesLast_32 ?_
      refine lv_iload_n hx hb dX6_doesLast_33 rfl (lv_at hl 3 rfl) ?_
      refine r_ishr (a := ld u) (b := t) hx hb dX6_doesLast_34 (by omega) (by omega) ?_
      refine lv_iconst (v := nI (1)) hx hb dX6_doesLast_35 (by decide) ?_
      refine r_iand (a := (ld u) >>> t) (b := 1) hx hb dX6_doesLast_36  ?_
      refine lv_iconst (v := nI (1)) hx hb dX6_doesLast_37 (by decide) ?_
      refine r_icmp_ne (a := ((ld u) >>> t) &&& 1) (b := 1) (tgt := 45) hx hb dX6_doesLast_38 (by decide) (Nat.lt_of_le_of_lt Nat.and_le_right (by decide)) (by decide)  (fun c38 => ?_) (fun c38 => ?_)
      · skip
        refine lv_iconst (v := nI (0)) hx hb dX6_doesLast_45 (by decide) ?_
        refine lv_istore_n (lv' := [(2, .int (nI 0)), (3, .int (nI u)), (0, .ref mq), (1, .int (nI t))]) hx hb dX6_doesLast_46 rfl hl (by decide) rfl (fun ls hl => ?_)
        have hl := lv_ch hl 0 (v2 := .int (nI (dlN ld t (u + 1)))) (l2 := [(2, .int (nI (dlN ld t (u + 1)))), (3, .int (nI u)), (0, .ref mq), (1, .int (nI t))]) rfl (congrArg Value.int (congrArg nI (by rw [dlN]; first | rw [if_pos c11] | rw [if_neg c11, if_pos c24] | rw [if_neg c11, if_neg c24, if_pos c38] | rw [if_neg c11, if_neg c24, if_neg c38]))) rfl
        refine lv_iinc (v := nI (u + 1)) (lv' := [(3, .int (nI (u + 1))), (2, .int (nI (dlN ld t (u + 1)))), (0, .ref mq), (1, .int (nI t))]) hx hb dX6_doesLast_47 hl (k := 1) rfl (n_inc _ 1) (by decide) rfl (fun ls hl => ?_)
        refine lv_goto (tgt := 4) hx hb dX6_doesLast_50 (by decide) ?_
        exact ih4 (u + 1) _ _ _ (by omega) (by omega) hP hS hl
      refine lv_iconst (v := nI (1)) hx hb dX6_doesLast_41 (by decide) ?_
      refine lv_goto (tgt := 46) hx hb dX6_doesLast_42 (by decide) ?_
      refine lv_istore_n (lv' := [(2, .int (nI 1)), (3, .int (nI u)), (0, .ref mq), (1, .int (nI t))]) hx hb dX6_doesLast_46 rfl hl (by decide) rfl (fun ls hl => ?_)
      have hl := lv_ch hl 0 (v2 := .int (nI (dlN ld t (u + 1)))) (l2 := [(2, .int (nI (dlN ld t (u + 1)))), (3, .int (nI u)), (0, .ref mq), (1, .int (nI t))]) rfl (congrArg Value.int (congrArg nI (by rw [dlN]; first | rw [if_pos c11] | rw [if_neg c11, if_pos c24] | rw [if_neg c11, if_neg c24, if_pos c38] | rw [if_neg c11, if_neg c24, if_neg c38]))) rfl
      refine lv_iinc (v := nI (u + 1)) (lv' := [(3, .int (nI (u + 1))), (2, .int (nI (dlN ld t (u + 1)))), (0, .ref mq), (1, .int (nI t))]) hx hb dX6_doesLast_47 hl (k := 1) rfl (n_inc _ 1) (by decide) rfl (fun ls hl => ?_)
      refine lv_goto (tgt := 4) hx hb dX6_doesLast_50 (by decide) ?_
      exact ih4 (u + 1) _ _ _ (by omega) (by omega) hP hS hl
  exact L4 (8 - 0 + 1) 0 _ _ _ (Nat.lt_succ_self _) (by omega) hP hS hl


set_option maxHeartbeats 1000000 in
set_option maxRecDepth 100000 in
theorem m_X6_live (l : Launch) (D : va_G) (cI cJ : ClassId) (sz : Nat) (mq : Nat) (mw : Nat) (slip : Nat) (h : Nat) (kd : Nat) (ms : Nat) (cnt : Nat) (ml : Nat) (nl : Nat) (mh : Nat) (hn : Nat) (mr : Nat) (rm : Nat) (mst : Nat) (lo : Nat) (mn : Nat) (mth : Nat) (lon : Nat) (mld : Nat) (mpk : Nat) (mcm : Nat) (od : Nat → Nat) (n0 : Nat → Nat) (th0 : Nat → Nat) (fr : Nat) (k : Nat) (hfr : fr < 8) (hk4 : k ≤ 4) : Met l yX6_live wsX6_live ({ frames := 0, cells := 0, slots := 0, locals := 0 }) (PX D cI cJ [(mq, .inr (6, [.ref mw, .int (nI slip), .int (nI h), .int (nI kd), .ref ms, .int (nI cnt), .ref ml, .int (nI nl), .ref mh, .int (nI hn), .ref mr, .int (nI rm), .ref mst, .long (lN lo), .ref mn, .ref mth, .long (lN lon), .ref mld, .ref mpk, .ref mcm])), (mst, .inl (cJ, 64, .inr (.inl (lF od)))), (mn, .inl (cJ, 8, .inr (.inl (lF n0)))), (mth, .inl (cJ, 8, .inr (.inl (lF th0))))] sz [.ref mq, .int (nI fr), .int (nI k)]) (QWv D (S := Nat → Nat) [(mq, .inr (6, [.ref mw, .int (nI slip), .int (nI h), .int (nI kd), .ref ms, .int (nI cnt), .ref ml, .int (nI nl), .ref mh, .int (nI hn), .ref mr, .int (nI rm), .ref mst, .long (lN lo), .ref mn, .ref mth, .long (lN lon), .ref mld, .ref mpk, .ref mcm])), (mst, .inl (cJ, 64, .inr (.inl (lF od)))), (mn, .inl (cJ, 8, .inr (.inl (lF n0)))), (mth, .inl (cJ, 8, .inr (.inl (lF th0))))] sz (fun _ => True) (fun th9 => [(mq, .inr (6, [.ref mw, .int (nI slip), .int (nI h), .int (nI kd), .ref ms, .int (nI cnt), .ref ml, .int (nI nl), .ref mh, .int (nI hn), .ref mr, .int (nI rm), .ref mst, .long (lN lo), .ref mn, .ref mth, .long (lN (pw lo k)), .ref mld, .ref mpk, .ref mcm])), (mst, .inl (cJ, 64, .inr (.inl (lF od)))), (mn, .inl (cJ, 8, .inr (.inl (lF (fwd od fr k))))), (mth, .inl (cJ, 8, .inr (.inl (lF th9))))])) 0 0 (va_A [(mq, .inr (6, [.ref mw, .int (nI slip), .int (nI h), .int (nI kd), .ref ms, .int (nI cnt), .ref ml, .int (nI nl), .ref mh, .int (nI hn), .ref mr, .int (nI rm), .ref mst, .long (lN lo), .ref mn, .ref mth, .long (lN lon), .ref mld, .ref mpk, .ref mcm])), (mst, .inl (cJ, 64, .inr (.inl (lF od)))), (mn, .inl (cJ, 8, .inr (.inl (lF n0)))), (mth, .inl (cJ, 8, .inr (.inl (lF th0))))] sz) := by
  refine met_X (cc := cX6_live) (maxL := 6) (ret := none) (by decide) rfl (Nat.le_of_ble_eq_true rfl) ?_
  intro p e s m args below meth c Q ls A hQ hAe hAt hKB hP hD hA hl
  obtain ⟨hx, hb, hr, hml, hlk, hts, hown, hnm⟩ := hAt
  have hown : s.vm.findClass RX6 = some m.cls := hown
  have hS : va_S A s.heap s.heap [] := va_S.rf
  have hl : lv_has ls 6 [(0, .ref mq), (1, .int (nI fr)), (2, .int (nI k))] := hl
  have hiX6 : ∀ w ∈ u_ws RX6 TX6 20, w ∈ wsX6_live := by decide +kernel
  have fl159 := hts (.fieldLink RX6 159 "TaughtTonguesModel" "lowerNow" "J") (by decide +kernel)
  have fl143 := hts (.fieldLink RX6 143 "TaughtTonguesModel" "lower" "J") (by decide +kernel)
  have fl29 := hts (.fieldLink RX6 29 "TaughtTonguesModel" "now" "[J") (by decide +kernel)
  have fl32 := hts (.fieldLink RX6 32 "TaughtTonguesModel" "then" "[J") (by decide +kernel)
  have fl25 := hts (.fieldLink RX6 25 "TaughtTonguesModel" "steps" "[J") (by decide +kernel)
  refine lv_aload_n hx hb dX6_live_0 rfl (lv_at hl 0 rfl) ?_
  refine lv_lconst (v := lN (1)) hx hb dX6_live_1 (by decide) ?_
  refine va_put (D := D) (ci := 6) (v := .long (lN 1)) (ty := .long) (C := RX6) (T := TX6) (N := 20) hx hb hts hiX6 tyX6 tyX6_ok nmX6 hown hKB.1 hP hD hS 0 rfl rfl 16 (by decide) fl159 (fun _ h9 => h9) rfl (by decide +kernel) rfl rfl (Nat.le_of_ble_eq_true rfl) dX6_live_2 (fun H locs hP hD hS => ?_)
  have hP : va_P D vwCl [(mq, .inr (6, [.ref mw, .int (nI slip), .int (nI h), .int (nI kd), .ref ms, .int (nI cnt), .ref ml, .int (nI nl), .ref mh, .int (nI hn), .ref mr, .int (nI rm), .ref mst, .long (lN lo), .ref mn, .ref mth, .long (lN 1), .ref mld, .ref mpk, .ref mcm])), (mst, .inl (cJ, 64, .inr (.inl (lF od)))), (mn, .inl (cJ, 8, .inr (.inl (lF n0)))), (mth, .inl (cJ, 8, .inr (.inl (lF th0))))] _ := hP
  have hD : va_D A [(mq, .inr (6, [.ref mw, .int (nI slip), .int (nI h), .int (nI kd), .ref ms, .int (nI cnt), .ref ml, .int (nI nl), .ref mh, .int (nI hn), .ref mr, .int (nI rm), .ref mst, .long (lN lo), .ref mn, .ref mth, .long (lN 1), .ref mld, .ref mpk, .ref mcm])), (mst, .inl (cJ, 64, .inr (.inl (lF od)))), (mn, .inl (cJ, 8, .inr (.inl (lF n0)))), (mth, .inl (cJ, 8, .inr (.inl (lF th0))))] := hD
  refine lv_iconst (v := nI (0)) hx hb dX6_live_5 (by decide) ?_
  refine lv_istore_n (lv' := [(3, .int (nI 0)), (0, .ref mq), (1, .int (nI fr)), (2, .int (nI k))]) hx hb dX6_live_6 rfl hl (by decide) rfl (fun ls hl => ?_)
  have L7 : ∀ (n : Nat) (t1 : Nat) (n3 : Nat → Nat) (H : Heap) (locs : List Loc) (ls : Array Slot), 8 - t1 < n → (t1 ≤ 8) → (∀ j, j < t1 → n3 j = fwd od fr 0 j) → va_P D vwCl [(mq, .inr (6, [.ref mw, .int (nI slip), .int (nI h), .int (nI kd), .ref ms, .int (nI cnt), .ref ml, .int (nI nl), .ref mh, .int (nI hn), .ref mr, .int (nI rm), .ref mst, .long (lN lo), .ref mn, .ref mth, .long (lN 1), .ref mld, .ref mpk, .ref mcm])), (mst, .inl (cJ, 64, .inr (.inl (lF od)))), (mn, .inl (cJ, 8, .inr (.inl (lF n3)))), (mth, .inl (cJ, 8, .inr (.inl (lF th0))))] H → va_D A [(mq, .inr (6, [.ref mw, .int (nI slip), .int (nI h), .int (nI kd), .ref ms, .int (nI cnt), .ref ml, .int (nI nl), .ref mh, .int (nI hn), .ref mr, .int (nI rm), .ref mst, .long (lN lo), .ref mn, .ref mth, .long (lN 1), .ref mld, .ref mpk, .ref mcm])), (mst, .inl (cJ, 64, .inr (.inl (lF od)))), (mn, .inl (cJ, 8, .inr (.inl (lF n3)))), (mth, .inl (cJ, 8, .inr (.inl (lF th0))))] → va_S A s.heap H locs → lv_has ls 6 [(3, .int (nI t1)), (0, .ref mq), (1, .int (nI fr)), (2, .int (nI k))] → W p l e ({ frames := 0, cells := 0, slots := 0, locals := 0 }) s m args below meth c H locs 0 0 Q (F0 m 7 ls []) := by
    intro n
    induction n with
    | zero => intro t1 n3 H locs ls hm; exact absurd hm (Nat.not_lt_zero _)
    | succ n ih7 =>
      intro t1 n3 H locs ls hm ht1 hf hP hD hS hl
      refine lv_iload_n hx hb dX6_live_7 rfl (lv_at hl 0 rfl) ?_
      refine lv_bipush (v := nI (8)) hx hb dX6_live_8 (by decide) ?_
      refine r_icmp_ge (a := t1) (b := 8) (tgt := 35) hx hb dX6_live_10 (by decide) (by omega) (by omega)  (fun c10 => ?_) (fun c10 => ?_)
      · skip
        have hP := P_arrJ hP 2 (g := (lF (fwd od fr 0))) rfl (fun j hj => congrArg lN (hf j (by omega)))
        have hD := D_arrJ hD 2 (g := (lF (fwd od fr 0))) rfl
        have hP : va_P D vwCl [(mq, .inr (6, [.ref mw, .int (nI slip), .int (nI h), .int (nI kd), .ref ms, .int (nI cnt), .ref ml, .int (nI nl), .ref mh, .int (nI hn), .ref mr, .int (nI rm), .ref mst, .long (lN lo), .ref mn, .ref mth, .long (lN 1), .ref mld, .ref mpk, .ref mcm])), (mst, .inl (cJ, 64, .inr (.inl (lF od)))), (mn, .inl (cJ, 8, .inr (.inl (lF (fwd od fr 0))))), (mth, .inl (cJ, 8, .inr (.inl (lF th0))))] _ := hP
        have hD : va_D A [(mq, .inr (6, [.ref mw, .int (nI slip), .int (nI h), .int (nI kd), .ref ms, .int (nI cnt), .ref ml, .int (nI nl), .ref mh, .int (nI hn), .ref mr, .int (nI rm), .ref mst, .long (lN lo), .ref mn, .ref mth, .long (lN 1), .ref mld, .ref mpk, .ref mcm])), (mst, .inl (cJ, 64, .inr (.inl (lF od)))), (mn, .inl (cJ, 8, .inr (.inl (lF (fwd od fr 0))))), (mth, .inl (cJ, 8, .inr (.inl (lF th0))))] := hD
        refine lv_iconst (v := nI (0)) hx hb dX6_live_35 (by decide) ?_
        refine lv_istore_n (lv' := [(3, .int (nI 0)), (0, .ref mq), (1, .int (nI fr)), (2, .int (nI k))]) hx hb dX6_live_36 rfl hl (by decide) rfl (fun ls hl => ?_)
        have L37 : ∀ (n : Nat) (i : Nat) (th3 : Nat → Nat) (H : Heap) (locs : List Loc) (ls : Array Slot), k - i < n → (i ≤ k) → va_P D vwCl [(mq, .inr (6, [.ref mw, .int (nI slip), .int (nI h), .int (nI kd), .ref ms, .int (nI cnt), .ref ml, .int (nI nl), .ref mh, .int (nI hn), .ref mr, .int (nI rm), .ref mst, .long (lN lo), .ref mn, .ref mth, .long (lN (pw lo i)), .ref mld, .ref mpk, .ref mcm])), (mst, .inl (cJ, 64, .inr (.inl (lF od)))), (mn, .inl (cJ, 8, .inr (.inl (lF (fwd od fr i))))), (mth, .inl (cJ, 8, .inr (.inl (lF th3))))] H → va_D A [(mq, .inr (6, [.ref mw, .int (nI slip), .int (nI h), .int (nI kd), .ref ms, .int (nI cnt), .ref ml, .int (nI nl), .ref mh, .int (nI hn), .ref mr, .int (nI rm), .ref mst, .long (lN lo), .ref mn, .ref mth, .long (lN (pw lo i)), .ref mld, .ref mpk, .ref mcm])), (mst, .inl (cJ, 64, .inr (.inl (lF od)))), (mn, .inl (cJ, 8, .inr (.inl (lF (fwd od fr i))))), (mth, .inl (cJ, 8, .inr (.inl (lF th3))))] → va_S A s.heap H locs → lv_has ls 6 [(3, .int (nI i)), (0, .ref mq), (1, .int (nI fr)), (2, .int (nI k))] → W p l e ({ frames := 0, cells := 0, slots := 0, locals := 0 }) s m args below meth c H locs 0 0 Q (F0 m 37 ls []) := by
          intro n
          induction n with
          | zero => intro i th3 H locs ls hm; exact absurd hm (Nat.not_lt_zero _)
          | succ n ih37 =>
            intro i th3 H locs ls hm hi hP hD hS hl
            refine lv_iload_n hx hb dX6_live_37 rfl (lv_at hl 0 rfl) ?_
            refine lv_iload_n hx hb dX6_live_38 rfl (lv_at hl 3 rfl) ?_
            refine r_icmp_ge (a := i) (b := k) (tgt := 162) hx hb dX6_live_39 (by decide) (by omega) (by omega)  (fun c39 => ?_) (fun c39 => ?_)
            · skip
              obtain rfl : k = i := by omega
              exact w_vret hx hb hr hlk hQ hAe th3 hP hD hS (trivial) dX6_live_162
            refine lv_iconst (v := nI (0)) hx hb dX6_live_42 (by decide) ?_
            refine lv_istore (lv' := [(4, .int (nI 0)), (3, .int (nI i)), (0, .ref mq), (1, .int (nI fr)), (2, .int (nI k))]) hx hb dX6_live_43 hl (by decide) rfl (fun ls hl => ?_)
            have L45 : ∀ (n : Nat) (t : Nat) (th4 : Nat → Nat) (H : Heap) (locs : List Loc) (ls : Array Slot), 8 - t < n → (t ≤ 8) → (∀ j, j < t → th4 j = fwd od fr (i + 1) j) → va_P D vwCl [(mq, .inr (6, [.ref mw, .int (nI slip), .int (nI h), .int (nI kd), .ref ms, .int (nI cnt), .ref ml, .int (nI nl), .ref mh, .int (nI hn), .ref mr, .int (nI rm), .ref mst, .long (lN lo), .ref mn, .ref mth, .long (lN (pw lo i)), .ref mld, .ref mpk, .ref mcm])), (mst, .inl (cJ, 64, .inr (.inl (lF od)))), (mn, .inl (cJ, 8, .inr (.inl (lF (fwd od fr i))))), (mth, .inl (cJ, 8, .inr (.inl (lF th4))))] H → va_D A [(mq, .inr (6, [.ref mw, .int (nI slip), .int (nI h), .int (nI kd), .ref ms, .int (nI cnt), .ref ml, .int (nI nl), .ref mh, .int (nI hn), .ref mr, .int (nI rm), .ref mst, .long (lN lo), .ref mn, .ref mth, .long (lN (pw lo i)), .ref mld, .ref mpk, .ref mcm])), (mst, .inl (cJ, 64, .inr (.inl (lF od)))), (mn, .inl (cJ, 8, .inr (.inl (lF (fwd od fr i))))), (mth, .inl (cJ, 8, .inr (.inl (lF th4))))] → va_S A s.heap H locs → lv_has ls 6 [(4, .int (nI t)), (3, .int (nI i)), (0, .ref mq), (1, .int (nI fr)), (2, .int (nI k))] → W p l e ({ frames := 0, cells := 0, slots := 0, locals := 0 }) s m args below meth c H locs 0 0 Q (F0 m 45 ls []) := by
              intro n
              induction n with
              | zero => intro t th4 H locs ls hm; exact absurd hm (Nat.not_lt_zero _)
              | succ n ih45 =>
                intro t th4 H locs ls hm ht hth hP hD hS hl
                refine lv_iload hx hb dX6_live_45 (lv_at hl 0 rfl) ?_
                refine lv_bipush (v := nI (8)) hx hb dX6_live_47 (by decide) ?_
                refine r_icmp_ge (a := t) (b := 8) (tgt := 113) hx hb dX6_live_49 (by decide) (by omega) (by omega)  (fun c49 => ?_) (fun c49 => ?_)
                · skip
                  refine lv_iconst (v := nI (0)) hx hb dX6_live_113 (by decide) ?_
                  refine lv_istore (lv' := [(4, .int (nI 0)), (3, .int (nI i)), (0, .ref mq), (1, .int (nI fr)), (2, .int (nI k))]) hx hb dX6_live_114 hl (by decide) rfl (fun ls hl => ?_)
                  have L116 : ∀ (n : Nat) (t2 : Nat) (n4 : Nat → Nat) (H : Heap) (locs : List Loc) (ls : Array Slot), 8 - t2 < n → (t2 ≤ 8) → (∀ j, j < t2 → n4 j = th4 j) → va_P D vwCl [(mq, .inr (6, [.ref mw, .int (nI slip), .int (nI h), .int (nI kd), .ref ms, .int (nI cnt), .ref ml, .int (nI nl), .ref mh, .int (nI hn), .ref mr, .int (nI rm), .ref mst, .long (lN lo), .ref mn, .ref mth, .long (lN (pw lo i)), .ref mld, .ref mpk, .ref mcm])), (mst, .inl (cJ, 64, .inr (.inl (lF od)))), (mn, .inl (cJ, 8, .inr (.inl (lF n4)))), (mth, .inl (cJ, 8, .inr (.inl (lF th4))))] H → va_D A [(mq, .inr (6, [.ref mw, .int (nI slip), .int (nI h), .int (nI kd), .ref ms, .int (nI cnt), .ref ml, .int (nI nl), .ref mh, .int (nI hn), .ref mr, .int (nI rm), .ref mst, .long (lN lo), .ref mn, .ref mth, .long (lN (pw lo i)), .ref mld, .ref mpk, .ref mcm])), (mst, .inl (cJ, 64, .inr (.inl (lF od)))), (mn, .inl (cJ, 8, .inr (.inl (lF n4)))), (mth, .inl (cJ, 8, .inr (.inl (lF th4))))] → va_S A s.heap H locs → lv_has ls 6 [(4, .int (nI t2)), (3, .int (nI i)), (0, .ref mq), (1, .int (nI fr)), (2, .int (nI k))] → W p l e ({ frames := 0, cells := 0, slots := 0, locals := 0 }) s m args below meth c H locs 0 0 Q (F0 m 116 ls []) := by
                    intro n
                    induction n with
                    | zero => intro t2 n4 H locs ls hm; exact absurd hm (Nat.not_lt_zero _)
                    | succ n ih116 =>
                      intro t2 n4 H locs ls hm ht2 hn4 hP hD hS hl
                      refine lv_iload hx hb dX6_live_116 (lv_at hl 0 rfl) ?_
                      refine lv_bipush (v := nI (8)) hx hb dX6_live_118 (by decide) ?_
                      refine r_icmp_ge (a := t2) (b := 8) (tgt := 143) hx hb dX6_live_120 (by decide) (by omega) (by omega)  (fun c120 => ?_) (fun c120 => ?_)
                      · skip
                        have hP := P_arrJ hP 2 (g := (lF (fwd od fr (i + 1)))) rfl (fun j hj => congrArg lN ((hn4 j (by omega)).trans (hth j (by omega))))
                        have hD := D_arrJ hD 2 (g := (lF (fwd od fr (i + 1)))) rfl
                        have hP : va_P D vwCl [(mq, .inr (6, [.ref mw, .int (nI slip), .int (nI h), .int (nI kd), .ref ms, .int (nI cnt), .ref ml, .int (nI nl), .ref mh, .int (nI hn), .ref mr, .int (nI rm), .ref mst, .long (lN lo), .ref mn, .ref mth, .long (lN (pw lo i)), .ref mld, .ref mpk, .ref mcm])), (mst, .inl (cJ, 64, .inr (.inl (lF od)))), (mn, .inl (cJ, 8, .inr (.inl (lF (fwd od fr (i + 1)))))), (mth, .inl (cJ, 8, .inr (.inl (lF th4))))] _ := hP
                        have hD : va_D A [(mq, .inr (6, [.ref mw, .int (nI slip), .int (nI h), .int (nI kd), .ref ms, .int (nI cnt), .ref ml, .int (nI nl), .ref mh, .int (nI hn), .ref mr, .int (nI rm), .ref mst, .long (lN lo), .ref mn, .ref mth, .long (lN (pw lo i)), .ref mld, .ref mpk, .ref mcm])), (mst, .inl (cJ, 64, .inr (.inl (lF od)))), (mn, .inl (cJ, 8, .inr (.inl (lF (fwd od fr (i + 1)))))), (mth, .inl (cJ, 8, .inr (.inl (lF th4))))] := hD
                        refine lv_aload_n hx hb dX6_live_143 rfl (lv_at hl 2 rfl) ?_
                        refine lv_dup hx hb dX6_live_144 rfl ?_
                        refine va_get (D := D) (ci := 6) (v := .long (lN (pw lo i))) (C := RX6) (T := TX6) (N := 20) hx hb hts hiX6 hown hKB.1 hP 0 rfl rfl 16 (by decide) fl159 (fun _ h9 => h9) rfl dX6_live_145 ?_
                        refine lv_aload_n hx hb dX6_live_148 rfl (lv_at hl 2 rfl) ?_
                        refine va_get (D := D) (ci := 6) (v := .long (lN lo)) (C := RX6) (T := TX6) (N := 20) hx hb hts hiX6 hown hKB.1 hP 0 rfl rfl 13 (by decide) fl143 (fun _ h9 => h9) rfl dX6_live_149 ?_
                        refine r_lmul (a := pw lo i) (b := lo) hx hb dX6_live_152  ?_
                        refine va_put (D := D) (ci := 6) (v := .long (lN ((pw lo i) * lo))) (ty := .long) (C := RX6) (T := TX6) (N := 20) hx hb hts hiX6 tyX6 tyX6_ok nmX6 hown hKB.1 hP hD hS 0 rfl rfl 16 (by decide) fl159 (fun _ h9 => h9) rfl (by decide +kernel) rfl rfl (Nat.le_of_ble_eq_true rfl) dX6_live_153 (fun H locs hP hD hS => ?_)
                        have hP : va_P D vwCl [(mq, .inr (6, [.ref mw, .int (nI slip), .int (nI h), .int (nI kd), .ref ms, .int (nI cnt), .ref ml, .int (nI nl), .ref mh, .int (nI hn), .ref mr, .int (nI rm), .ref mst, .long (lN lo), .ref mn, .ref mth, .long (lN ((pw lo i) * lo)), .ref mld, .ref mpk, .ref mcm])), (mst, .inl (cJ, 64, .inr (.inl (lF od)))), (mn, .inl (cJ, 8, .inr (.inl (lF (fwd od fr (i + 1)))))), (mth, .inl (cJ, 8, .inr (.inl (lF th4))))] _ := hP
                        have hD : va_D A [(mq, .inr (6, [.ref mw, .int (nI slip), .int (nI h), .int (nI kd), .ref ms, .int (nI cnt), .ref ml, .int (nI nl), .ref mh, .int (nI hn), .ref mr, .int (nI rm), .ref mst, .long (lN lo), .ref mn, .ref mth, .long (lN ((pw lo i) * lo)), .ref mld, .ref mpk, .ref mcm])), (mst, .inl (cJ, 64, .inr (.inl (lF od)))), (mn, .inl (cJ, 8, .inr (.inl (lF (fwd od fr (i + 1)))))), (mth, .inl (cJ, 8, .inr (.inl (lF th4))))] := hD
                        refine lv_iinc (v := nI (i + 1)) (lv' := [(3, .int (nI (i + 1))), (4, .int (nI t2)), (0, .ref mq), (1, .int (nI fr)), (2, .int (nI k))]) hx hb dX6_live_156 hl (k := 1) rfl (n_inc _ 1) (by decide) rfl (fun ls hl => ?_)
                        refine lv_goto (tgt := 37) hx hb dX6_live_159 (by decide) ?_
                        exact ih37 (i + 1) th4 _ _ _ (by omega) (by omega) hP hD hS (lv_sub hl [0, 2, 3, 4] rfl)
                      refine lv_aload_n hx hb dX6_live_123 rfl (lv_at hl 2 rfl) ?_
                      refine va_get (D := D) (ci := 6) (v := .ref mn) (C := RX6) (T := TX6) (N := 20) hx hb hts hiX6 hown hKB.1 hP 0 rfl rfl 14 (by decide) fl29 (fun _ h9 => h9) rfl dX6_live_124 ?_
                      refine lv_iload hx hb dX6_live_127 (lv_at hl 0 rfl) ?_
                      refine lv_aload_n hx hb dX6_live_129 rfl (lv_at hl 2 rfl) ?_
                      refine va_get (D := D) (ci := 6) (v := .ref mth) (C := RX6) (T := TX6) (N := 20) hx hb hts hiX6 hown hKB.1 hP 0 rfl rfl 15 (by decide) fl32 (fun _ h9 => h9) rfl dX6_live_130 ?_
                      refine lv_iload hx hb dX6_live_133 (lv_at hl 0 rfl) ?_
                      refine r_lald (i := t2) (v := lN (th4 t2)) hx hb hKB.1 hP 3 1 rfl rfl (by omega) (by decide) (rfl) dX6_live_135 ?_
                      refine r_lastN (i := t2) hx hb hKB.1 hP hD hS 2 1 rfl rfl (by omega) (by decide) dX6_live_136 (fun H locs hP hD hS => ?_)
                      have hP : va_P D vwCl [(mq, .inr (6, [.ref mw, .int (nI slip), .int (nI h), .int (nI kd), .ref ms, .int (nI cnt), .ref ml, .int (nI nl), .ref mh, .int (nI hn), .ref mr, .int (nI rm), .ref mst, .long (lN lo), .ref mn, .ref mth, .long (lN (pw lo i)), .ref mld, .ref mpk, .ref mcm])), (mst, .inl (cJ, 64, .inr (.inl (lF od)))), (mn, .inl (cJ, 8, .inr (.inl (lF (nu n4 t2 (th4 t2)))))), (mth, .inl (cJ, 8, .inr (.inl (lF th4))))] _ := hP
                      have hD : va_D A [(mq, .inr (6, [.ref mw, .int (nI slip), .int (nI h), .int (nI kd), .ref ms, .int (nI cnt), .ref ml, .int (nI nl), .ref mh, .int (nI hn), .ref mr, .int (nI rm), .ref mst, .long (lN lo), .ref mn, .ref mth, .long (lN (pw lo i)), .ref mld, .ref mpk, .ref mcm])), (mst, .inl (cJ, 64, .inr (.inl (lF od)))), (mn, .inl (cJ, 8, .inr (.inl (lF (nu n4 t2 (th4 t2)))))), (mth, .inl (cJ, 8, .inr (.inl (lF th4))))] := hD
                      refine lv_iinc (v := nI (t2 + 1)) (lv' := [(4, .int (nI (t2 + 1))), (3, .int (nI i)), (0, .ref mq), (1, .int (nI fr)), (2, .int (nI k))]) hx hb dX6_live_137 hl (k := 0) rfl (n_inc _ 1) (by decide) rfl (fun ls hl => ?_)
                      refine lv_goto (tgt := 116) hx hb dX6_live_140 (by decide) ?_
                      exact ih116 (t2 + 1) (nu n4 t2 (th4 t2)) _ _ _ (by omega) (by omega) (ag_s hn4 rfl) hP hD hS hl
                  exact L116 (8 - 0 + 1) 0 (fwd od fr i) _ _ _ (Nat.lt_succ_self _) (by omega) (fun j hj => absurd hj (Nat.not_lt_zero j)) hP hD hS hl
                refine lv_aload_n hx hb dX6_live_52 rfl (lv_at hl 2 rfl) ?_
                refine va_get (D := D) (ci := 6) (v := .ref mth) (C := RX6) (T := TX6) (N := 20) hx hb hts hiX6 hown hKB.1 hP 0 rfl rfl 15 (by decide) fl32 (fun _ h9 => h9) rfl dX6_live_53 ?_
                refine lv_iload hx hb dX6_live_56 (lv_at hl 0 rfl) ?_
                refine lv_lconst (v := lN (0)) hx hb dX6_live_58 (by decide) ?_
                refine r_lastN (i := t) hx hb hKB.1 hP hD hS 3 1 rfl rfl (by omega) (by decide) dX6_live_59 (fun H locs hP hD hS => ?_)
                have hP : va_P D vwCl [(mq, .inr (6, [.ref mw, .int (nI slip), .int (nI h), .int (nI kd), .ref ms, .int (nI cnt), .ref ml, .int (nI nl), .ref mh, .int (nI hn), .ref mr, .int (nI rm), .ref mst, .long (lN lo), .ref mn, .ref mth, .long (lN (pw lo i)), .ref mld, .ref mpk, .ref mcm])), (mst, .inl (cJ, 64, .inr (.inl (lF od)))), (mn, .inl (cJ, 8, .inr (.inl (lF (fwd od fr i))))), (mth, .inl (cJ, 8, .inr (.inl (lF (nu th4 t 0)))))] _ := hP
                have hD : va_D A [(mq, .inr (6, [.ref mw, .int (nI slip), .int (nI h), .int (nI kd), .ref ms, .int (nI cnt), .ref ml, .int (nI nl), .ref mh, .int (nI hn), .ref mr, .int (nI rm), .ref mst, .long (lN lo), .ref mn, .ref mth, .long (lN (pw lo i)), .ref mld, .ref mpk, .ref mcm])), (mst, .inl (cJ, 64, .inr (.inl (lF od)))), (mn, .inl (cJ, 8, .inr (.inl (lF (fwd od fr i))))), (mth, .inl (cJ, 8, .inr (.inl (lF (nu th4 t 0)))))] := hD
                refine lv_iconst (v := nI (0)) hx hb dX6_live_60 (by decide) ?_
                refine lv_istore (lv' := [(5, .int (nI 0)), (4, .int (nI t)), (3, .int (nI i)), (0, .ref mq), (1, .int (nI fr)), (2, .int (nI k))]) hx hb dX6_live_61 hl (by decide) rfl (fun ls hl => ?_)
                have L63 : ∀ (n : Nat) (u : Nat) (th5 : Nat → Nat) (H : Heap) (locs : List Loc) (ls : Array Slot), 8 - u < n → (u ≤ 8) → (∀ j, j < t → th5 j = fwd od fr (i + 1) j) → (th5 t = sm u (fun u => fwd od fr i u * od (8 * u + t))) → va_P D vwCl [(mq, .inr (6, [.ref mw, .int (nI slip), .int (nI h), .int (nI kd), .ref ms, .int (nI cnt), .ref ml, .int (nI nl), .ref mh, .int (nI hn), .ref mr, .int (nI rm), .ref mst, .long (lN lo), .ref mn, .ref mth, .long (lN (pw lo i)), .ref mld, .ref mpk, .ref mcm])), (mst, .inl (cJ, 64, .inr (.inl (lF od)))), (mn, .inl (cJ, 8, .inr (.inl (lF (fwd od fr i))))), (mth, .inl (cJ, 8, .inr (.inl (lF th5))))] H → va_D A [(mq, .inr (6, [.ref mw, .int (nI slip), .int (nI h), .int (nI kd), .ref ms, .int (nI cnt), .ref ml, .int (nI nl), .ref mh, .int (nI hn), .ref mr, .int (nI rm), .ref mst, .long (lN lo), .ref mn, .ref mth, .long (lN (pw lo i)), .ref mld, .ref mpk, .ref mcm])), (mst, .inl (cJ, 64, .inr (.inl (lF od)))), (mn, .inl (cJ, 8, .inr (.inl (lF (fwd od fr i))))), (mth, .inl (cJ, 8, .inr (.inl (lF th5))))] → va_S A s.heap H locs → lv_has ls 6 [(5, .int (nI u)), (4, .int (nI t)), (3, .int (nI i)), (0, .ref mq), (1, .int (nI fr)), (2, .int (nI k))] → W p l e ({ frames := 0, cells := 0, slots := 0, locals := 0 }) s m args below meth c H locs 0 0 Q (F0 m 63 ls []) := by
                  intro n
                  induction n with
                  | zero => intro u th5 H locs ls hm; exact absurd hm (Nat.not_lt_zero _)
                  | succ n ih63 =>
                    intro u th5 H locs ls hm hu hth5 hu5 hP hD hS hl
                    refine lv_iload hx hb dX6_live_63 (lv_at hl 0 rfl) ?_
                    refine lv_bipush (v := nI (8)) hx hb dX6_live_65 (by decide) ?_
                    refine r_icmp_ge (a := u) (b := 8) (tgt := 107) hx hb dX6_live_67 (by decide) (by omega) (by omega)  (fun c67 => ?_) (fun c67 => ?_)
                    · skip
                      obtain rfl : 8 = u := by omega
                      refine lv_iinc (v := nI (t + 1)) (lv' := [(4, .int (nI (t + 1))), (5, .int (nI 8)), (3, .int (nI i)), (0, .ref mq), (1, .int (nI fr)), (2, .int (nI k))]) hx hb dX6_live_107 hl (k := 1) rfl (n_inc _ 1) (by decide) rfl (fun ls hl => ?_)
                      refine lv_goto (tgt := 45) hx hb dX6_live_110 (by decide) ?_
                      exact ih45 (t + 1) th5 _ _ _ (by omega) (by omega) (fun j hj => by rcases Nat.lt_or_ge j t with q | q; exact hth5 j q; rw [show j = t by omega, hu5]; exact fwd_m c49) hP hD hS (lv_sub hl [0, 2, 3, 4, 5] rfl)
                    refine lv_aload_n hx hb dX6_live_70 rfl (lv_at hl 3 rfl) ?_
                    refine va_get (D := D) (ci := 6) (v := .ref mth) (C := RX6) (T := TX6) (N := 20) hx hb hts hiX6 hown hKB.1 hP 0 rfl rfl 15 (by decide) fl32 (fun _ h9 => h9) rfl dX6_live_71 ?_
                    refine lv_iload hx hb dX6_live_74 (lv_at hl 1 rfl) ?_
                    refine lv_dup2_11 hx hb dX6_live_76 rfl rfl ?_
                    refine r_lald (i := t) (v := lN (th5 t)) hx hb hKB.1 hP 3 1 rfl rfl (by omega) (by decide) (rfl) dX6_live_77 ?_
                    refine lv_aload_n hx hb dX6_live_78 rfl (lv_at hl 3 rfl) ?_
                    refine va_get (D := D) (ci := 6) (v := .ref mn) (C := RX6) (T := TX6) (N := 20) hx hb hts hiX6 hown hKB.1 hP 0 rfl rfl 14 (by decide) fl29 (fun _ h9 => h9) rfl dX6_live_79 ?_
                    refine lv_iload hx hb dX6_live_82 (lv_at hl 0 rfl) ?_
                    refine r_lald (i := u) (v := lN ((fwd od fr i) u)) hx hb hKB.1 hP 2 1 rfl rfl (by omega) (by decide) (rfl) dX6_live_84 ?_
                    refine lv_aload_n hx hb dX6_live_85 rfl (lv_at hl 3 rfl) ?_
                    refine va_get (D := D) (ci := 6) (v := .ref mst) (C := RX6) (T := TX6) (N := 20) hx hb hts hiX6 hown hKB.1 hP 0 rfl rfl 12 (by decide) fl25 (fun _ h9 => h9) rfl dX6_live_86 ?_
                    refine lv_bipush (v := nI (8)) hx hb dX6_live_89 (by decide) ?_
                    refine lv_iload hx hb dX6_live_91 (lv_at hl 0 rfl) ?_
                    refine r_imul (a := 8) (b := u) hx hb dX6_live_93  ?_
                    refine lv_iload hx hb dX6_live_94 (lv_at hl 1 rfl) ?_
                    refine r_iadd (a := 8 * u) (b := t) hx hb dX6_live_96  ?_
                    refine r_lald (i := (8 * u) + t) (v := lN (od ((8 * u) + t))) hx hb hKB.1 hP 1 1 rfl rfl (by omega) (by decide) (rfl) dX6_live_97 ?_
                    refine r_lmul (a := (fwd od fr i) u) (b := od ((8 * u) + t)) hx hb dX6_live_98  ?_
                    refine r_ladd (a := th5 t) (b := ((fwd od fr i) u) * (od ((8 * u) + t))) hx hb dX6_live_99  ?_
                    refine r_lastN (i := t) hx hb hKB.1 hP hD hS 3 1 rfl rfl (by omega) (by decide) dX6_live_100 (fun H locs hP hD hS => ?_)
                    have hP : va_P D vwCl [(mq, .inr (6, [.ref mw, .int (nI slip), .int (nI h), .int (nI kd), .ref ms, .int (nI cnt), .ref ml, .int (nI nl), .ref mh, .int (nI hn), .ref mr, .int (nI rm), .ref mst, .long (lN lo), .ref mn, .ref mth, .long (lN (pw lo i)), .ref mld, .ref mpk, .ref mcm])), (mst, .inl (cJ, 64, .inr (.inl (lF od)))), (mn, .inl (cJ, 8, .inr (.inl (lF (fwd od fr i))))), (mth, .inl (cJ, 8, .inr (.inl (lF (nu th5 t ((th5 t) + (((fwd od fr i) u) * (od ((8 * u) + t)))))))))] _ := hP
                    have hD : va_D A [(mq, .inr (6, [.ref mw, .int (nI slip), .int (nI h), .int (nI kd), .ref ms, .int (nI cnt), .ref ml, .int (nI nl), .ref mh, .int (nI hn), .ref mr, .int (nI rm), .ref mst, .long (lN lo), .ref mn, .ref mth, .long (lN (pw lo i)), .ref mld, .ref mpk, .ref mcm])), (mst, .inl (cJ, 64, .inr (.inl (lF od)))), (mn, .inl (cJ, 8, .inr (.inl (lF (fwd od fr i))))), (mth, .inl (cJ, 8, .inr (.inl (lF (nu th5 t ((th5 t) + (((fwd od fr i) u) * (od ((8 * u) + t)))))))))] := hD
                    refine lv_iinc (v := nI (u + 1)) (lv' := [(5, .int (nI (u + 1))), (4, .int (nI t)), (3, .int (nI i)), (0, .ref mq), (1, .int (nI fr)), (2, .int (nI k))]) hx hb dX6_live_101 hl (k := 0) rfl (n_inc _ 1) (by decide) rfl (fun ls hl => ?_)
                    refine lv_goto (tgt := 63) hx hb dX6_live_104 (by decide) ?_
                    exact ih63 (u + 1) (nu th5 t ((th5 t) + (((fwd od fr i) u) * (od ((8 * u) + t))))) _ _ _ (by omega) (by omega) (keep_s hth5) (by rw [nu_s, hu5]; rfl) hP hD hS hl
                exact L63 (8 - 0 + 1) 0 (nu th4 t 0) _ _ _ (Nat.lt_succ_self _) (by omega) (keep_s hth) (nu_s _ _ _) hP hD hS hl
            exact L45 (8 - 0 + 1) 0 th3 _ _ _ (Nat.lt_succ_self _) (by omega) (fun j hj => absurd hj (Nat.not_lt_zero j)) hP hD hS hl
        exact L37 (k - 0 + 1) 0 th0 _ _ _ (Nat.lt_succ_self _) (by omega) hP hD hS hl
      refine lv_aload_n hx hb dX6_live_13 rfl (lv_at hl 1 rfl) ?_
      refine va_get (D := D) (ci := 6) (v := .ref mn) (C := RX6) (T := TX6) (N := 20) hx hb hts hiX6 hown hKB.1 hP 0 rfl rfl 14 (by decide) fl29 (fun _ h9 => h9) rfl dX6_live_14 ?_
      refine lv_iload_n hx hb dX6_live_17 rfl (lv_at hl 0 rfl) ?_
      refine lv_iload_n hx hb dX6_live_18 rfl (lv_at hl 0 rfl) ?_
      refine lv_iload_n hx hb dX6_live_19 rfl (lv_at hl 2 rfl) ?_
      refine r_icmp_ne (a := t1) (b := fr) (tgt := 27) hx hb dX6_live_20 (by decide) (by omega) (by omega)  (fun c20 => ?_) (fun c20 => ?_)
      · skip
        refine lv_lconst (v := lN (0)) hx hb dX6_live_27 (by decide) ?_
        refine r_lastN (i := t1) hx hb hKB.1 hP hD hS 2 1 rfl rfl (by omega) (by decide) dX6_live_28 (fun H locs hP hD hS => ?_)
        have hP : va_P D vwCl [(mq, .inr (6, [.ref mw, .int (nI slip), .int (nI h), .int (nI kd), .ref ms, .int (nI cnt), .ref ml, .int (nI nl), .ref mh, .int (nI hn), .ref mr, .int (nI rm), .ref mst, .long (lN lo), .ref mn, .ref mth, .long (lN 1), .ref mld, .ref mpk, .ref mcm])), (mst, .inl (cJ, 64, .inr (.inl (lF od)))), (mn, .inl (cJ, 8, .inr (.inl (lF (nu n3 t1 0))))), (mth, .inl (cJ, 8, .inr (.inl (lF th0))))] _ := hP
        have hD : va_D A [(mq, .inr (6, [.ref mw, .int (nI slip), .int (nI h), .int (nI kd), .ref ms, .int (nI cnt), .ref ml, .int (nI nl), .ref mh, .int (nI hn), .ref mr, .int (nI rm), .ref mst, .long (lN lo), .ref mn, .ref mth, .long (lN 1), .ref mld, .ref mpk, .ref mcm])), (mst, .inl (cJ, 64, .inr (.inl (lF od)))), (mn, .inl (cJ, 8, .inr (.inl (lF (nu n3 t1 0))))), (mth, .inl (cJ, 8, .inr (.inl (lF th0))))] := hD
        refine lv_iinc (v := nI (t1 + 1)) (lv' := [(3, .int (nI (t1 + 1))), (0, .ref mq), (1, .int (nI fr)), (2, .int (nI k))]) hx hb dX6_live_29 hl (k := 0) rfl (n_inc _ 1) (by decide) rfl (fun ls hl => ?_)
        refine lv_goto (tgt := 7) hx hb dX6_live_32 (by decide) ?_
        exact ih7 (t1 + 1) (nu n3 t1 0) _ _ _ (by omega) (by omega) (ag_s hf (by rw [fwd_0]; first | rw [if_pos c20] | rw [if_neg c20])) hP hD hS hl
      refine lv_lconst (v := lN (1)) hx hb dX6_live_23 (by decide) ?_
      refine lv_goto (tgt := 28) hx hb dX6_live_24 (by decide) ?_
      refine r_lastN (i := t1) hx hb hKB.1 hP hD hS 2 1 rfl rfl (by omega) (by decide) dX6_live_28 (fun H locs hP hD hS => ?_)
      have hP : va_P D vwCl [(mq, .inr (6, [.ref mw, .int (nI slip), .int (nI h), .int (nI kd), .ref ms, .int (nI cnt), .ref ml, .int (nI nl), .ref mh, .int (nI hn), .ref mr, .int (nI rm), .ref mst, .long (lN lo), .ref mn, .ref mth, .long (lN 1), .ref mld, .ref mpk, .ref mcm])), (mst, .inl (cJ, 64, .inr (.inl (lF od)))), (mn, .inl (cJ, 8, .inr (.inl (lF (nu n3 t1 1))))), (mth, .inl (cJ, 8, .inr (.inl (lF th0))))] _ := hP
      have hD : va_D A [(mq, .inr (6, [.ref mw, .int (nI slip), .int (nI h), .int (nI kd), .ref ms, .int (nI cnt), .ref ml, .int (nI nl), .ref mh, .int (nI hn), .ref mr, .int (nI rm), .ref mst, .long (lN lo), .ref mn, .ref mth, .long (lN 1), .ref mld, .ref mpk, .ref mcm])), (mst, .inl (cJ, 64, .inr (.inl (lF od)))), (mn, .inl (cJ, 8, .inr (.inl (lF (nu n3 t1 1))))), (mth, .inl (cJ, 8, .inr (.inl (lF th0))))] := hD
      refine lv_iinc (v := nI (t1 + 1)) (lv' := [(3, .int (nI (t1 + 1))), (0, .ref mq), (1, .int (nI fr)), (2, .int (nI k))]) hx hb dX6_live_29 hl (k := 0) rfl (n_inc _ 1) (by decide) rfl (fun ls hl => ?_)
      refine lv_goto (tgt := 7) hx hb dX6_live_32 (by decide) ?_
      exact ih7 (t1 + 1) (nu n3 t1 1) _ _ _ (by omega) (by omega) (ag_s hf (by rw [fwd_0]; first | rw [if_pos c20] | rw [if_neg c20])) hP hD hS hl
  exact L7 (8 - 0 + 1) 0 n0 _ _ _ (Nat.lt_succ_self _) (by omega) (fun j hj => absurd hj (Nat.not_lt_zero j)) hP hD hS hl

set_option maxHeartbeats 1000000 in
set_option maxRecDepth 100000 in
theorem m_X6_after (l : Launch) (D : va_G) (cI cJ : ClassId) (sz : Nat) (mq : Nat) (mw : Nat) (slip : Nat) (h : Nat) (kd : Nat) (ms : Nat) (cnt : Nat) (ml : Nat) (nl : Nat) (mh : Nat) (hn : Nat) (mr : Nat) (rm : Nat) (mst : Nat) (lo : Nat) (mn : Nat) (mth : Nat) (lon : Nat) (mld : Nat) (mpk : Nat) (mcm : Nat) (w : Nat → Nat) (lg : Nat → Nat) (num : Nat → Nat) (rw1 : Nat → Nat) (st0 : Nat → Nat) (n0 : Nat → Nat) (th0 : Nat → Nat) (p0 : Int32) (p1 : Int32) (p2 : Int32) (p3 : Int32) (hh : 1 ≤ h ∧ h ≤ 4) (hw : ∀ j, j < 3 → w j ≤ 4) (hnl7 : nl ≤ 7) (hlg : okL lg nl) (hbf : ∀ t, t < 8 → bfM lg t nl 0 = num t) (hsl : slip ≤ 12) (hnum : ∀ j, j < 8 → num j < 10) (hr6 : ∀ j, j < 6 → rw1 j < 6) (hkd : kd < 3) : Met l yX6_after wsX6_after ({ frames := 4, cells := 0, slots := 0, locals := 105 }) (PX D cI cJ [(mq, .inr (6, [.ref mw, .int (nI slip), .int (nI h), .int (nI kd), .ref ms, .int (nI cnt), .ref ml, .int (nI nl), .ref mh, .int (nI hn), .ref mr, .int (nI rm), .ref mst, .long (lN lo), .ref mn, .ref mth, .long (lN lon), .ref mld, .ref mpk, .ref mcm])), (mw, .inl (cI, 3, .inl (nF w))), (ml, .inl (cI, 28, .inl (nF lg))), (mr, .inl (cI, 6, .inl (nF rw1))), (mst, .inl (cJ, 64, .inr (.inl (lF st0)))), (mn, .inl (cJ, 8, .inr (.inl (lF n0)))), (mth, .inl (cJ, 8, .inr (.inl (lF th0))))] sz [.ref mq, .int p0, .int p1, .int p2, .int p3]) (QWl D (S := (Nat → Nat) × Nat × Nat × (Nat → Nat) × Nat × (Nat → Nat) × (Nat → Nat)) [(mq, .inr (6, [.ref mw, .int (nI slip), .int (nI h), .int (nI kd), .ref ms, .int (nI cnt), .ref ml, .int (nI nl), .ref mh, .int (nI hn), .ref mr, .int (nI rm), .ref mst, .long (lN lo), .ref mn, .ref mth, .long (lN lon), .ref mld, .ref mpk, .ref mcm])), (mw, .inl (cI, 3, .inl (nF w))), (ml, .inl (cI, 28, .inl (nF lg))), (mr, .inl (cI, 6, .inl (nF rw1))), (mst, .inl (cJ, 64, .inr (.inl (lF st0)))), (mn, .inl (cJ, 8, .inr (.inl (lF n0)))), (mth, .inl (cJ, 8, .inr (.inl (lF th0))))] sz (fun r u => r = aLv (rfL (inR p0 0 7 && inR p2 0 7) (inR p3 0 1) h p1) (fwd (stp w slip kd num h) (tN p0) (tN p1) (tN p2)) (wh w h (tN p1)) p3 ∧ (∀ j, j < 6 → u.1 j < 6)) (fun u => [(mq, .inr (6, [.ref mw, .int (nI slip), .int (nI h), .int (nI kd), .ref ms, .int (nI cnt), .ref ml, .int (nI nl), .ref mh, .int (nI hn), .ref mr, .int (nI (u.2.1)), .ref mst, .long (lN (u.2.2.1)), .ref mn, .ref mth, .long (lN (u.2.2.2.2.1)), .ref mld, .ref mpk, .ref mcm])), (mw, .inl (cI, 3, .inl (nF w))), (ml, .inl (cI, 28, .inl (nF lg))), (mr, .inl (cI, 6, .inl (nF u.1))), (mst, .inl (cJ, 64, .inr (.inl (lF u.2.2.2.1)))), (mn, .inl (cJ, 8, .inr (.inl (lF u.2.2.2.2.2.1)))), (mth, .inl (cJ, 8, .inr (.inl (lF u.2.2.2.2.2.2))))])) 0 0 (va_A [(mq, .inr (6, [.ref mw, .int (nI slip), .int (nI h), .int (nI kd), .ref ms, .int (nI cnt), .ref ml, .int (nI nl), .ref mh, .int (nI hn), .ref mr, .int (nI rm), .ref mst, .long (lN lo), .ref mn, .ref mth, .long (lN lon), .ref mld, .ref mpk, .ref mcm])), (mw, .inl (cI, 3, .inl (nF w))), (ml, .inl (cI, 28, .inl (nF lg))), (mr, .inl (cI, 6, .inl (nF rw1))), (mst, .inl (cJ, 64, .inr (.inl (lF st0)))), (mn, .inl (cJ, 8, .inr (.inl (lF n0)))), (mth, .inl (cJ, 8, .inr (.inl (lF th0))))] sz) := by
  refine met_X (cc := cX6_after) (maxL := 5) (ret := (some .long)) (by decide) rfl (Nat.le_of_ble_eq_true rfl) ?_
  intro p e s m args below meth c Q ls A hQ hAe hAt hKB hP hD hA hl
  obtain ⟨hx, hb, hr, hml, hlk, hts, hown, hnm⟩ := hAt
  have hown : s.vm.findClass RX6 = some m.cls := hown
  have hS : va_S A s.heap s.heap [] := va_S.rf
  have hl : lv_has ls 5 [(0, .ref mq), (1, .int p0), (2, .int p1), (3, .int p2), (4, .int p3)] := hl
  have kl117 := hts (.constantLong RX6 117 ((-1000000000000000001))) (by decide +kernel)
  have kl122 := hts (.constantLong RX6 122 ((-1000000000000000002))) (by decide +kernel)
  have hiX6 : ∀ w ∈ u_ws RX6 TX6 20, w ∈ wsX6_after := by decide +kernel
  have fl48 := hts (.fieldLink RX6 48 "TaughtTonguesModel" "hearsIs" "I") (by decide +kernel)
  have fl29 := hts (.fieldLink RX6 29 "TaughtTonguesModel" "now" "[J") (by decide +kernel)
  have fl159 := hts (.fieldLink RX6 159 "TaughtTonguesModel" "lowerNow" "J") (by decide +kernel)
  have kl165 := hts (.constantLong RX6 165 ((-1000000000000000003))) (by decide +kernel)
  refine lv_iload_n hx hb dX6_after_0 rfl (lv_at hl 1 rfl) ?_
  have hPc := hP.sub (ws' := []) [] rfl
  refine r_calli hP hS (va_runS (As := [.int p0]) (rest := []) ⟨hx, hb, hml, hown, hts⟩ (m_X6_isTongue l D cI cJ p0) (va_cwS 1 hts gX6_after_X6_isTongue rfl rfl rfl (by decide +kernel) ⟨Nat.le_of_ble_eq_true rfl, Nat.le_of_ble_eq_true rfl⟩) ⟨PR.blind, fun U hU hW => ⟨rfl, hKB.warm hW, by rw [hU]; exact hPc⟩⟩ rfl rfl hl.1 rfl (lv_room (Nat.le_of_ble_eq_true rfl)) dX6_after_1 ⟨Nat.le_of_ble_eq_true rfl, Nat.le_of_ble_eq_true rfl⟩) (fun r1 H locs hw1 hP hS => ?_)
  have hw1 : r1 = bI (inR p0 0 7) := hw1
  subst hw1
  refine r_bif_eq (b := inR p0 0 7) (tgt := 14) hx hb dX6_after_4 (by decide) (fun c4 => ?_) (fun c4 => ?_)
  · skip
    refine lv_ldc2 hx hb hown kl117 dX6_after_14 ?_
    exact w_lret hx hb hr hlk hQ hAe (rw1, rm, lo, st0, lon, n0, th0) hP hD hS (by refine ⟨?_, hr6⟩; first | (simp only [c4, Bool.false_and, Bool.and_false, Bool.true_and, Bool.and_true]; rw [rfLf1]; done) | (simp only [c4, c11, Bool.false_and, Bool.and_false, Bool.true_and, Bool.and_true]; rw [rfLf1]; done)) dX6_after_17
  refine lv_iload_n hx hb dX6_after_7 rfl (lv_at hl 3 rfl) ?_
  have hPc := hP.sub (ws' := []) [] rfl
  refine r_calli hP hS (va_runS (As := [.int p2]) (rest := []) ⟨hx, hb, hml, hown, hts⟩ (m_X6_isTongue l D cI cJ p2) (va_cwS 1 hts gX6_after_X6_isTongue rfl rfl rfl (by decide +kernel) ⟨Nat.le_of_ble_eq_true rfl, Nat.le_of_ble_eq_true rfl⟩) ⟨PR.blind, fun U hU hW => ⟨rfl, hKB.warm hW, by rw [hU]; exact hPc⟩⟩ rfl rfl hl.1 rfl (lv_room (Nat.le_of_ble_eq_true rfl)) dX6_after_8 ⟨Nat.le_of_ble_eq_true rfl, Nat.le_of_ble_eq_true rfl⟩) (fun r2 H locs hw8 hP hS => ?_)
  have hw8 : r2 = bI (inR p2 0 7) := hw8
  subst hw8
  refine r_bif_ne (b := inR p2 0 7) (tgt := 18) hx hb dX6_after_11 (by decide) (fun c11 => ?_) (fun c11 => ?_)
  · skip
    refine lv_iload_n hx hb dX6_after_18 rfl (lv_at hl 2 rfl) ?_
    have hPc := hP.sub (ws' := []) [] rfl
    refine r_calli hP hS (va_runS (As := [.int p1]) (rest := []) ⟨hx, hb, hml, hown, hts⟩ (m_X6_isLives l D cI cJ p1) (va_cwS 1 hts gX6_after_X6_isLives rfl rfl rfl (by decide +kernel) ⟨Nat.le_of_ble_eq_true rfl, Nat.le_of_ble_eq_true rfl⟩) ⟨PR.blind, fun U hU hW => ⟨rfl, hKB.warm hW, by rw [hU]; exact hPc⟩⟩ rfl rfl hl.1 rfl (lv_room (Nat.le_of_ble_eq_true rfl)) dX6_after_19 ⟨Nat.le_of_ble_eq_true rfl, Nat.le_of_ble_eq_true rfl⟩) (fun r3 H locs hw19 hP hS => ?_)
    have hw19 : r3 = bI (inR p1 1 4) := hw19
    subst hw19
    refine r_bif_eq (b := inR p1 1 4) (tgt := 33) hx hb dX6_after_22 (by decide) (fun c22 => ?_) (fun c22 => ?_)
    · skip
      refine lv_ldc2 hx hb hown kl122 dX6_after_33 ?_
      exact w_lret hx hb hr hlk hQ hAe (rw1, rm, lo, st0, lon, n0, th0) hP hD hS (by refine ⟨?_, hr6⟩; simp only [c4, c11, Bool.and_self]; rw [rfLf2]; first | (rw [c22, Bool.and_false]; done) | (rw [c30, Bool.false_and]; done)) dX6_after_36
    refine lv_iload hx hb dX6_after_25 (lv_at hl 4 rfl) ?_
    have hPc := hP.sub (ws' := []) [] rfl
    refine r_calli hP hS (va_runS (As := [.int p3]) (rest := []) ⟨hx, hb, hml, hown, hts⟩ (m_X6_isPart l D cI cJ p3) (va_cwS 1 hts gX6_after_X6_isPart rfl rfl rfl (by decide +kernel) ⟨Nat.le_of_ble_eq_true rfl, Nat.le_of_ble_eq_true rfl⟩) ⟨PR.blind, fun U hU hW => ⟨rfl, hKB.warm hW, by rw [hU]; exact hPc⟩⟩ rfl rfl hl.1 rfl (lv_room (Nat.le_of_ble_eq_true rfl)) dX6_after_27 ⟨Nat.le_of_ble_eq_true rfl, Nat.le_of_ble_eq_true rfl⟩) (fun r4 H locs hw27 hP hS => ?_)
    have hw27 : r4 = bI (inR p3 0 1) := hw27
    subst hw27
    refine r_bif_ne (b := inR p3 0 1) (tgt := 37) hx hb dX6_after_30 (by decide) (fun c30 => ?_) (fun c30 => ?_)
    · skip
      obtain ⟨V0, -, hV0, rfl⟩ := inR_t (by decide) (by decide) (c4)
      obtain ⟨V2, -, hV2, rfl⟩ := inR_t (by decide) (by decide) (c11)
      obtain ⟨V1, -, hV1, rfl⟩ := inR_t (by decide) (by decide) (c22)
      obtain ⟨V3, -, hV3, rfl⟩ := inR_t (by decide) (by decide) (c30)
      refine lv_aload_n hx hb dX6_after_37 rfl (lv_at hl 0 rfl) ?_
      refine va_get (D := D) (ci := 6) (v := .int (nI h)) (C := RX6) (T := TX6) (N := 20) hx hb hts hiX6 hown hKB.1 hP 0 rfl rfl 2 (by decide) fl48 (fun _ h9 => h9) rfl dX6_after_38 ?_
      refine lv_iload_n hx hb dX6_after_41 rfl (lv_at hl 2 rfl) ?_
      refine r_imul (a := h) (b := V1) hx hb dX6_after_42  ?_
      refine lv_bipush (v := nI (8)) hx hb dX6_after_43 (by decide) ?_
      refine r_icmp_le (a := h * V1) (b := 8) (tgt := 52) hx hb dX6_after_45 (by decide) (Nat.lt_of_le_of_lt (Nat.mul_le_mul hh.2 hV1) (by decide)) (by decide)  (fun c45 => ?_) (fun c45 => ?_)
      · skip
        have hWb : wh w h V1 < 2 ^ 63 := Nat.lt_of_le_of_lt (wh_lt hw c45) (by decide)
        refine lv_aload_n hx hb dX6_after_52 rfl (lv_at hl 0 rfl) ?_
        refine lv_iconst (v := nI (0)) hx hb dX6_after_53 (by decide) ?_
        refine lv_iconst (v := nI (0)) hx hb dX6_after_54 (by decide) ?_
        have hPc := hP.sub (ws' := [(mq, .inr (6, [.ref mw, .int (nI slip), .int (nI h), .int (nI kd), .ref ms, .int (nI cnt), .ref ml, .int (nI nl), .ref mh, .int (nI hn), .ref mr, .int (nI rm), .ref mst, .long (lN lo), .ref mn, .ref mth, .long (lN lon), .ref mld, .ref mpk, .ref mcm])), (mw, .inl (cI, 3, .inl (nF w))), (ml, .inl (cI, 28, .inl (nF lg))), (mr, .inl (cI, 6, .inl (nF rw1))), (mst, .inl (cJ, 64, .inr (.inl (lF st0))))]) [0, 1, 2, 3, 4] rfl
        have hDc := hD.sub (ws' := [(mq, .inr (6, [.ref mw, .int (nI slip), .int (nI h), .int (nI kd), .ref ms, .int (nI cnt), .ref ml, .int (nI nl), .ref mh, .int (nI hn), .ref mr, .int (nI rm), .ref mst, .long (lN lo), .ref mn, .ref mth, .long (lN lon), .ref mld, .ref mpk, .ref mcm])), (mw, .inl (cI, 3, .inl (nF w))), (ml, .inl (cI, 28, .inl (nF lg))), (mr, .inl (cI, 6, .inl (nF rw1))), (mst, .inl (cJ, 64, .inr (.inl (lF st0))))]) [0, 1, 2, 3, 4] (by decide) rfl
        have hFc := va_free (wc := [(mq, .inr (6, [.ref mw, .int (nI slip), .int (nI h), .int (nI kd), .ref ms, .int (nI cnt), .ref ml, .int (nI nl), .ref mh, .int (nI hn), .ref mr, .int (nI rm), .ref mst, .long (lN lo), .ref mn, .ref mth, .long (lN lon), .ref mld, .ref mpk, .ref mcm])), (mw, .inl (cI, 3, .inl (nF w))), (ml, .inl (cI, 28, .inl (nF lg))), (mr, .inl (cI, 6, .inl (nF rw1))), (mst, .inl (cJ, 64, .inr (.inl (lF st0))))]) hD hS hA [0, 1, 2, 3, 4] rfl
        refine w_callv (wc := [(mq, .inr (6, [.ref mw, .int (nI slip), .int (nI h), .int (nI kd), .ref ms, .int (nI cnt), .ref ml, .int (nI nl), .ref mh, .int (nI hn), .ref mr, .int (nI rm), .ref mst, .long (lN lo), .ref mn, .ref mth, .long (lN lon), .ref mld, .ref mpk, .ref mcm])), (mw, .inl (cI, 3, .inl (nF w))), (ml, .inl (cI, 28, .inl (nF lg))), (mr, .inl (cI, 6, .inl (nF rw1))), (mst, .inl (cJ, 64, .inr (.inl (lF st0))))]) (wr := [(mn, .inl (cJ, 8, .inr (.inl (lF n0)))), (mth, .inl (cJ, 8, .inr (.inl (lF th0))))]) hP hD hS [0, 1, 2, 3, 4] [5, 6] rfl rfl (by decide) (by decide) hFc (va_runV (As := [.int (nI 0), .int (nI 0)]) (rest := []) ⟨hx, hb, hml, hown, hts⟩ (m_X6_findSteps l D cI cJ _ mq mw slip h kd ms cnt ml nl mh hn mr rm mst lo mn mth lon mld mpk mcm w lg num rw1 st0 0 0 (by omega) (by omega) (by assumption) (by assumption) (by assumption) (by assumption) (by assumption) (by assumption) (by assumption) (by assumption) (by assumption)) (cwV 2 hts gX6_after_X6_findSteps rfl rfl rfl (by decide +kernel) ⟨Nat.le_of_ble_eq_true rfl, Nat.le_of_ble_eq_true rfl⟩) ⟨PX.blind, va_recv hKB.1 hP (ci := 6) (q0 := 0) rfl rfl, fun U hU hW => ⟨rfl, by rw [hU], hKB.warm hW, by rw [hU]; exact hPc, hDc.weaken (fun _ _ _ _ => trivial)⟩⟩ rfl rfl hl.1 rfl (lv_room (Nat.le_of_ble_eq_true rfl)) dX6_after_55 ⟨Nat.le_of_ble_eq_true rfl, Nat.le_of_ble_eq_true rfl⟩) (fun u55 H locs hw55 hP hD hS => ?_)
        have hP : va_P D vwCl [(mn, .inl (cJ, 8, .inr (.inl (lF n0)))), (mth, .inl (cJ, 8, .inr (.inl (lF th0)))), (mq, .inr (6, [.ref mw, .int (nI slip), .int (nI h), .int (nI kd), .ref ms, .int (nI cnt), .ref ml, .int (nI nl), .ref mh, .int (nI hn), .ref mr, .int (nI h), .ref mst, .long (lN (lowN w h)), .ref mn, .ref mth, .long (lN lon), .ref mld, .ref mpk, .ref mcm])), (mw, .inl (cI, 3, .inl (nF w))), (ml, .inl (cI, 28, .inl (nF lg))), (mr, .inl (cI, 6, .inl (nF u55))), (mst, .inl (cJ, 64, .inr (.inl (lF (fun i => rwF w slip kd num h 0 (i / 8) 0 (i % 8))))))] _ := hP
        have hD : va_D A [(mn, .inl (cJ, 8, .inr (.inl (lF n0)))), (mth, .inl (cJ, 8, .inr (.inl (lF th0)))), (mq, .inr (6, [.ref mw, .int (nI slip), .int (nI h), .int (nI kd), .ref ms, .int (nI cnt), .ref ml, .int (nI nl), .ref mh, .int (nI hn), .ref mr, .int (nI h), .ref mst, .long (lN (lowN w h)), .ref mn, .ref mth, .long (lN lon), .ref mld, .ref mpk, .ref mcm])), (mw, .inl (cI, 3, .inl (nF w))), (ml, .inl (cI, 28, .inl (nF lg))), (mr, .inl (cI, 6, .inl (nF u55))), (mst, .inl (cJ, 64, .inr (.inl (lF (fun i => rwF w slip kd num h 0 (i / 8) 0 (i % 8))))))] := hD
        have hw55 : (∀ j, j < 6 → u55 j < 6) := hw55
        have hE55 := hw55
        have hP : va_P D vwCl [(mn, .inl (cJ, 8, .inr (.inl (lF n0)))), (mth, .inl (cJ, 8, .inr (.inl (lF th0)))), (mq, .inr (6, [.ref mw, .int (nI slip), .int (nI h), .int (nI kd), .ref ms, .int (nI cnt), .ref ml, .int (nI nl), .ref mh, .int (nI hn), .ref mr, .int (nI h), .ref mst, .long (lN (lowN w h)), .ref mn, .ref mth, .long (lN lon), .ref mld, .ref mpk, .ref mcm])), (mw, .inl (cI, 3, .inl (nF w))), (ml, .inl (cI, 28, .inl (nF lg))), (mr, .inl (cI, 6, .inl (nF u55))), (mst, .inl (cJ, 64, .inr (.inl (lF (fun i => rwF w slip kd num h 0 (i / 8) 0 (i % 8))))))] _ := hP
        have hD : va_D A [(mn, .inl (cJ, 8, .inr (.inl (lF n0)))), (mth, .inl (cJ, 8, .inr (.inl (lF th0)))), (mq, .inr (6, [.ref mw, .int (nI slip), .int (nI h), .int (nI kd), .ref ms, .int (nI cnt), .ref ml, .int (nI nl), .ref mh, .int (nI hn), .ref mr, .int (nI h), .ref mst, .long (lN (lowN w h)), .ref mn, .ref mth, .long (lN lon), .ref mld, .ref mpk, .ref mcm])), (mw, .inl (cI, 3, .inl (nF w))), (ml, .inl (cI, 28, .inl (nF lg))), (mr, .inl (cI, 6, .inl (nF u55))), (mst, .inl (cJ, 64, .inr (.inl (lF (fun i => rwF w slip kd num h 0 (i / 8) 0 (i % 8))))))] := hD
        have hr9 := hE55
        have hP := P_arrJ hP 6 (g := (lF (stp w slip kd num h))) rfl (fun i hi => congrArg lN (stp_b0 hh.2))
        have hD := D_arrJ hD 6 (g := (lF (stp w slip kd num h))) rfl
        have hP : va_P D vwCl [(mn, .inl (cJ, 8, .inr (.inl (lF n0)))), (mth, .inl (cJ, 8, .inr (.inl (lF th0)))), (mq, .inr (6, [.ref mw, .int (nI slip), .int (nI h), .int (nI kd), .ref ms, .int (nI cnt), .ref ml, .int (nI nl), .ref mh, .int (nI hn), .ref mr, .int (nI h), .ref mst, .long (lN (lowN w h)), .ref mn, .ref mth, .long (lN lon), .ref mld, .ref mpk, .ref mcm])), (mw, .inl (cI, 3, .inl (nF w))), (ml, .inl (cI, 28, .inl (nF lg))), (mr, .inl (cI, 6, .inl (nF u55))), (mst, .inl (cJ, 64, .inr (.inl (lF (stp w slip kd num h)))))] _ := hP
        have hD : va_D A [(mn, .inl (cJ, 8, .inr (.inl (lF n0)))), (mth, .inl (cJ, 8, .inr (.inl (lF th0)))), (mq, .inr (6, [.ref mw, .int (nI slip), .int (nI h), .int (nI kd), .ref ms, .int (nI cnt), .ref ml, .int (nI nl), .ref mh, .int (nI hn), .ref mr, .int (nI h), .ref mst, .long (lN (lowN w h)), .ref mn, .ref mth, .long (lN lon), .ref mld, .ref mpk, .ref mcm])), (mw, .inl (cI, 3, .inl (nF w))), (ml, .inl (cI, 28, .inl (nF lg))), (mr, .inl (cI, 6, .inl (nF u55))), (mst, .inl (cJ, 64, .inr (.inl (lF (stp w slip kd num h)))))] := hD
        refine lv_aload_n hx hb dX6_after_58 rfl (lv_at hl 0 rfl) ?_
        refine lv_iload_n hx hb dX6_after_59 rfl (lv_at hl 1 rfl) ?_
        refine lv_iload_n hx hb dX6_after_60 rfl (lv_at hl 2 rfl) ?_
        have hPc := hP.sub (ws' := [(mq, .inr (6, [.ref mw, .int (nI slip), .int (nI h), .int (nI kd), .ref ms, .int (nI cnt), .ref ml, .int (nI nl), .ref mh, .int (nI hn), .ref mr, .int (nI h), .ref mst, .long (lN (lowN w h)), .ref mn, .ref mth, .long (lN lon), .ref mld, .ref mpk, .ref mcm])), (mst, .inl (cJ, 64, .inr (.inl (lF (stp w slip kd num h))))), (mn, .inl (cJ, 8, .inr (.inl (lF n0)))), (mth, .inl (cJ, 8, .inr (.inl (lF th0))))]) [2, 6, 0, 1] rfl
        have hDc := hD.sub (ws' := [(mq, .inr (6, [.ref mw, .int (nI slip), .int (nI h), .int (nI kd), .ref ms, .int (nI cnt), .ref ml, .int (nI nl), .ref mh, .int (nI hn), .ref mr, .int (nI h), .ref mst, .long (lN (lowN w h)), .ref mn, .ref mth, .long (lN lon), .ref mld, .ref mpk, .ref mcm])), (mst, .inl (cJ, 64, .inr (.inl (lF (stp w slip kd num h))))), (mn, .inl (cJ, 8, .inr (.inl (lF n0)))), (mth, .inl (cJ, 8, .inr (.inl (lF th0))))]) [2, 6, 0, 1] (by decide) rfl
        have hFc := va_free (wc := [(mq, .inr (6, [.ref mw, .int (nI slip), .int (nI h), .int (nI kd), .ref ms, .int (nI cnt), .ref ml, .int (nI nl), .ref mh, .int (nI hn), .ref mr, .int (nI h), .ref mst, .long (lN (lowN w h)), .ref mn, .ref mth, .long (lN lon), .ref mld, .ref mpk, .ref mcm])), (mst, .inl (cJ, 64, .inr (.inl (lF (stp w slip kd num h))))), (mn, .inl (cJ, 8, .inr (.inl (lF n0)))), (mth, .inl (cJ, 8, .inr (.inl (lF th0))))]) hD hS hA [2, 6, 0, 1] rfl
        refine w_callv (wc := [(mq, .inr (6, [.ref mw, .int (nI slip), .int (nI h), .int (nI kd), .ref ms, .int (nI cnt), .ref ml, .int (nI nl), .ref mh, .int (nI hn), .ref mr, .int (nI h), .ref mst, .long (lN (lowN w h)), .ref mn, .ref mth, .long (lN lon), .ref mld, .ref mpk, .ref mcm])), (mst, .inl (cJ, 64, .inr (.inl (lF (stp w slip kd num h))))), (mn, .inl (cJ, 8, .inr (.inl (lF n0)))), (mth, .inl (cJ, 8, .inr (.inl (lF th0))))]) (wr := [(mw, .inl (cI, 3, .inl (nF w))), (ml, .inl (cI, 28, .inl (nF lg))), (mr, .inl (cI, 6, .inl (nF u55)))]) hP hD hS [2, 6, 0, 1] [3, 4, 5] rfl rfl (by decide) (by decide) hFc (va_runV (As := [.int (nI V0), .int (nI V1)]) (rest := []) ⟨hx, hb, hml, hown, hts⟩ (m_X6_live l D cI cJ _ mq mw slip h kd ms cnt ml nl mh hn mr h mst (lowN w h) mn mth lon mld mpk mcm (stp w slip kd num h) n0 th0 V0 V1 (by omega) (by omega)) (cwV 2 hts gX6_after_X6_live rfl rfl rfl (by decide +kernel) ⟨Nat.le_of_ble_eq_true rfl, Nat.le_of_ble_eq_true rfl⟩) ⟨PX.blind, va_recv hKB.1 hP (ci := 6) (q0 := 2) rfl rfl, fun U hU hW => ⟨rfl, by rw [hU], hKB.warm hW, by rw [hU]; exact hPc, hDc.weaken (fun _ _ _ _ => trivial)⟩⟩ rfl rfl hl.1 rfl (lv_room (Nat.le_of_ble_eq_true rfl)) dX6_after_61 ⟨Nat.le_of_ble_eq_true rfl, Nat.le_of_ble_eq_true rfl⟩) (fun u61 H locs hw61 hP hD hS => ?_)
        have hP : va_P D vwCl [(mw, .inl (cI, 3, .inl (nF w))), (ml, .inl (cI, 28, .inl (nF lg))), (mr, .inl (cI, 6, .inl (nF u55))), (mq, .inr (6, [.ref mw, .int (nI slip), .int (nI h), .int (nI kd), .ref ms, .int (nI cnt), .ref ml, .int (nI nl), .ref mh, .int (nI hn), .ref mr, .int (nI h), .ref mst, .long (lN ((lowN w h))), .ref mn, .ref mth, .long (lN (pw (lowN w h) V1)), .ref mld, .ref mpk, .ref mcm])), (mst, .inl (cJ, 64, .inr (.inl (lF (stp w slip kd num h))))), (mn, .inl (cJ, 8, .inr (.inl (lF (fwd (stp w slip kd num h) V0 V1))))), (mth, .inl (cJ, 8, .inr (.inl (lF u61))))] _ := hP
        have hD : va_D A [(mw, .inl (cI, 3, .inl (nF w))), (ml, .inl (cI, 28, .inl (nF lg))), (mr, .inl (cI, 6, .inl (nF u55))), (mq, .inr (6, [.ref mw, .int (nI slip), .int (nI h), .int (nI kd), .ref ms, .int (nI cnt), .ref ml, .int (nI nl), .ref mh, .int (nI hn), .ref mr, .int (nI h), .ref mst, .long (lN ((lowN w h))), .ref mn, .ref mth, .long (lN (pw (lowN w h) V1)), .ref mld, .ref mpk, .ref mcm])), (mst, .inl (cJ, 64, .inr (.inl (lF (stp w slip kd num h))))), (mn, .inl (cJ, 8, .inr (.inl (lF (fwd (stp w slip kd num h) V0 V1))))), (mth, .inl (cJ, 8, .inr (.inl (lF u61))))] := hD
        refine lv_aload_n hx hb dX6_after_64 rfl (lv_at hl 0 rfl) ?_
        refine va_get (D := D) (ci := 6) (v := .ref mn) (C := RX6) (T := TX6) (N := 20) hx hb hts hiX6 hown hKB.1 hP 3 rfl rfl 14 (by decide) fl29 (fun _ h9 => h9) rfl dX6_after_65 ?_
        refine lv_iload_n hx hb dX6_after_68 rfl (lv_at hl 3 rfl) ?_
        refine r_lald (i := V2) (v := lN ((fwd (stp w slip kd num h) V0 V1) V2)) hx hb hKB.1 hP 5 1 rfl rfl (by omega) (by decide) (rfl) dX6_after_69 ?_
        refine lv_aload_n hx hb dX6_after_70 rfl (lv_at hl 0 rfl) ?_
        refine va_get (D := D) (ci := 6) (v := .long (lN (pw (lowN w h) V1))) (C := RX6) (T := TX6) (N := 20) hx hb hts hiX6 hown hKB.1 hP 3 rfl rfl 16 (by decide) fl159 (fun _ h9 => h9) rfl dX6_after_71 ?_
        refine lv_iload hx hb dX6_after_74 (lv_at hl 4 rfl) ?_
        have hPc := hP.sub (ws' := []) [] rfl
        refine r_calll hP hS (va_runS (As := [.long (lN ((fwd (stp w slip kd num h) V0 V1) V2)), .long (lN (pw (lowN w h) V1)), .int (nI V3)]) (rest := []) ⟨hx, hb, hml, hown, hts⟩ (m_X6_lowest l D cI cJ ((fwd (stp w slip kd num h) V0 V1) V2) (pw (lowN w h) V1) V3 (Nat.lt_of_le_of_lt (fwd_le hh.2 hsl (by omega) (by omega)) hWb) (by rw [low_wh]; exact hWb) (hV3)) (va_cwS 3 hts gX6_after_X6_lowest rfl rfl rfl (by decide +kernel) ⟨Nat.le_of_ble_eq_true rfl, Nat.le_of_ble_eq_true rfl⟩) ⟨PR.blind, fun U hU hW => ⟨rfl, hKB.warm hW, by rw [hU]; exact hPc⟩⟩ rfl rfl hl.1 rfl (lv_room (Nat.le_of_ble_eq_true rfl)) dX6_after_76 ⟨Nat.le_of_ble_eq_true rfl, Nat.le_of_ble_eq_true rfl⟩) (fun r7 H locs hw76 hP hS => ?_)
        have hw76 : r7 = lN (lwst ((fwd (stp w slip kd num h) V0 V1) V2) (pw (lowN w h) V1) V3) := hw76
        subst hw76
        exact w_lret hx hb hr hlk hQ hAe (u55, h, (lowN w h), stp w slip kd num h, pw (lowN w h) V1, fwd (stp w slip kd num h) V0 V1, u61) (hP.sub [3, 0, 1, 2, 4, 5, 6] rfl) (hD.sub [3, 0, 1, 2, 4, 5, 6] (by decide) rfl) hS (by refine ⟨?_, hr9⟩; simp only [c4, c11, Bool.and_self]; rw [rfLok (by rw [c22, c30]; rfl) (by rw [tN_n (show V1 < 2 ^ 31 by omega)]; omega), low_wh, tN_n (show V0 < 2 ^ 31 by omega), tN_n (show V1 < 2 ^ 31 by omega), tN_n (show V2 < 2 ^ 31 by omega), tN_n (show V3 < 2 ^ 31 by omega)]) dX6_after_79
      refine lv_ldc2 hx hb hown kl165 dX6_after_48 ?_
      exact w_lret hx hb hr hlk hQ hAe (rw1, rm, lo, st0, lon, n0, th0) hP hD hS (by refine ⟨?_, hr6⟩; simp only [c4, c11, Bool.and_self]; rw [rfLf3 (by rw [c22, c30]; rfl) (by rw [tN_n (show V1 < 2 ^ 31 by omega)]; omega)]) dX6_after_51
    refine lv_ldc2 hx hb hown kl122 dX6_after_33 ?_
    exact w_lret hx hb hr hlk hQ hAe (rw1, rm, lo, st0, lon, n0, th0) hP hD hS (by refine ⟨?_, hr6⟩; simp only [c4, c11, Bool.and_self]; rw [rfLf2]; first | (rw [c22, Bool.and_false]; done) | (rw [c30, Bool.false_and]; done)) dX6_after_36
  refine lv_ldc2 hx hb hown kl117 dX6_after_14 ?_
  exact w_lret hx hb hr hlk hQ hAe (rw1, rm, lo, st0, lon, n0, th0) hP hD hS (by refine ⟨?_, hr6⟩; first | (simp only [c4, Bool.false_and, Bool.and_false, Bool.true_and, Bool.and_true]; rw [rfLf1]; done) | (simp only [c4, c11, Bool.false_and, Bool.and_false, Bool.true_and, Bool.and_true]; rw [rfLf1]; done)) dX6_after_17


set_option maxHeartbeats 1000000 in
set_option maxRecDepth 100000 in
theorem m_X6_taken (l : Launch) (D : va_G) (cI cJ : ClassId) (mq : Nat) (mw : Nat) (slip : Nat) (h : Nat) (kd : Nat) (ms : Nat) (cnt : Nat) (ml : Nat) (nl : Nat) (mh : Nat) (hn : Nat) (mr : Nat) (rm : Nat) (mst : Nat) (lo : Nat) (mn : Nat) (mth : Nat) (lon : Nat) (mld : Nat) (mpk : Nat) (mcm : Nat) (lg : Nat → Nat) (num : Nat → Nat) (rw1 : Nat → Nat) (hnl7 : nl ≤ 7) (hlg : okL lg nl) (hbf : ∀ t, t < 8 → bfM lg t nl 0 = num t) (hsl : slip ≤ 12) (hnum : ∀ j, j < 8 → num j < 10) (hrm : rm ≤ 6) (hr6 : ∀ j, j < 6 → rw1 j < 6) (hkd : kd < 3) : Met l yX6_taken wsX6_taken ({ frames := 2, cells := 0, slots := 0, locals := 49 }) (PR D cI cJ [(mq, .inr (6, [.ref mw, .int (nI slip), .int (nI h), .int (nI kd), .ref ms, .int (nI cnt), .ref ml, .int (nI nl), .ref mh, .int (nI hn), .ref mr, .int (nI rm), .ref mst, .long (lN lo), .ref mn, .ref mth, .long (lN lon), .ref mld, .ref mpk, .ref mcm])), (ml, .inl (cI, 28, .inl (nF lg))), (mr, .inl (cI, 6, .inl (nF rw1)))] [.ref mq]) (QRi (fun r => r = nI (tkM num slip kd rw1 rm))) 0 0 NA := by
  refine met_R (cc := cX6_taken) (maxL := 7) (ret := (some .int)) (by decide) rfl (Nat.le_of_ble_eq_true rfl) ?_
  intro p e s m args below meth c Q ls hQ hAt hKB hP hl
  obtain ⟨hx, hb, hr, hml, hlk, hts, hown, hnm⟩ := hAt
  have hown : s.vm.findClass RX6 = some m.cls := hown
  have hS : va_S NA s.heap s.heap [] := va_S.rf
  have hl : lv_has ls 7 [(0, .ref mq)] := hl
  have hiX6 : ∀ w ∈ u_ws RX6 TX6 20, w ∈ wsX6_taken := by decide +kernel
  have fl65 := hts (.fieldLink RX6 65 "TaughtTonguesModel" "learnerIs" "I") (by decide +kernel)
  have hlb : ∀ t, t < 8 → lkR num slip rw1 rm t < 2 ^ 63 := fun t ht => Nat.lt_trans (lkM_lt hsl (hnum t ht) hrm) (by decide)
  refine lv_aload_n hx hb dX6_taken_0 rfl (lv_at hl 0 rfl) ?_
  refine va_get (D := D) (ci := 6) (v := .int (nI kd)) (C := RX6) (T := TX6) (N := 20) hx hb hts hiX6 hown hKB.1 hP 0 rfl rfl 3 (by decide) fl65 (fun _ h9 => h9) rfl dX6_taken_1 ?_
  refine lv_iconst (v := nI (1)) hx hb dX6_taken_4 (by decide) ?_
  refine r_icmp_ne (a := kd) (b := 1) (tgt := 32) hx hb dX6_taken_5 (by decide) (by omega) (by omega)  (fun c5 => ?_) (fun c5 => ?_)
  · skip
    have hlz : kd = 1 → ∀ j, j < 8 → alM rw1 rm j = false := by first | exact fun h => absurd h c5 | exact fun _ j hj => hno j (by omega)
    refine lv_iconst (v := nI (0)) hx hb dX6_taken_32 (by decide) ?_
    refine lv_istore_n (lv' := [(1, .int (nI 0)), (0, .ref mq)]) hx hb dX6_taken_33 rfl hl (by decide) rfl (fun ls hl => ?_)
    refine lv_aload_n hx hb dX6_taken_34 rfl (lv_at hl 1 rfl) ?_
    refine lv_iconst (v := nI (0)) hx hb dX6_taken_35 (by decide) ?_
    have hPc := hP.sub (ws' := [(mq, .inr (6, [.ref mw, .int (nI slip), .int (nI h), .int (nI kd), .ref ms, .int (nI cnt), .ref ml, .int (nI nl), .ref mh, .int (nI hn), .ref mr, .int (nI rm), .ref mst, .long (lN lo), .ref mn, .ref mth, .long (lN lon), .ref mld, .ref mpk, .ref mcm])), (ml, .inl (cI, 28, .inl (nF lg))), (mr, .inl (cI, 6, .inl (nF rw1)))]) [0, 1, 2] rfl
    refine r_calll hP hS (va_runV (As := [.int (nI 0)]) (rest := []) ⟨hx, hb, hml, hown, hts⟩ (m_X6_likenessOf l D cI cJ mq mw slip h kd ms cnt ml nl mh hn mr rm mst lo mn mth lon mld mpk mcm lg num rw1 0 (by omega) (by assumption) (by assumption) (by assumption) (by assumption) (by assumption) (by assumption) (by assumption)) (cwV 1 hts gX6_taken_X6_likenessOf rfl rfl rfl (by decide +kernel) ⟨Nat.le_of_ble_eq_true rfl, Nat.le_of_ble_eq_true rfl⟩) ⟨PR.blind, va_recv hKB.1 hP (ci := 6) (q0 := 0) rfl rfl, fun U hU hW => ⟨rfl, hKB.warm hW, by rw [hU]; exact hPc⟩⟩ rfl rfl hl.1 rfl (lv_room (Nat.le_of_ble_eq_true rfl)) dX6_taken_36 ⟨Nat.le_of_ble_eq_true rfl, Nat.le_of_ble_eq_true rfl⟩) (fun r1 H locs hw36 hP hS => ?_)
    have hw36 : r1 = lN (lkM num slip rw1 0 rm) := hw36
    subst hw36
    refine lv_topl (fun z2 ez2 => ?_)
    obtain rfl : z2 = lN (lkR num slip rw1 rm 0) := ez2.trans (rfl)
    refine lv_lstore_n (lv' := [(2, .long (lN (lkR num slip rw1 rm 0))), (1, .int (nI 0)), (0, .ref mq)]) hx hb dX6_taken_39 rfl hl (by decide) rfl (fun ls hl => ?_)
    refine lv_iconst (v := nI (1)) hx hb dX6_taken_40 (by decide) ?_
    refine lv_istore (lv' := [(4, .int (nI 1)), (2, .long (lN (lkR num slip rw1 rm 0))), (1, .int (nI 0)), (0, .ref mq)]) hx hb dX6_taken_41 hl (by decide) rfl (fun ls hl => ?_)
    have hl := lv_ch hl 2 (v2 := .int (nI (bst (lkR num slip rw1 rm) kd 1))) (l2 := [(4, .int (nI 1)), (2, .long (lN (lkR num slip rw1 rm 0))), (1, .int (nI (bst (lkR num slip rw1 rm) kd 1))), (0, .ref mq)]) rfl (congrArg Value.int (congrArg nI bst_1.symm)) rfl
    have hl := lv_ch hl 1 (v2 := .long (lN (lkR num slip rw1 rm (bst (lkR num slip rw1 rm) kd 1)))) (l2 := [(4, .int (nI 1)), (2, .long (lN (lkR num slip rw1 rm (bst (lkR num slip rw1 rm) kd 1)))), (1, .int (nI (bst (lkR num slip rw1 rm) kd 1))), (0, .ref mq)]) rfl (congrArg Value.long (congrArg lN (by rw [bst_1]))) rfl
    have L43 : ∀ (n : Nat) (k : Nat) (H : Heap) (locs : List Loc) (ls : Array Slot), 8 - k < n → (1 ≤ k ∧ k ≤ 8) → va_P D vwCl [(mq, .inr (6, [.ref mw, .int (nI slip), .int (nI h), .int (nI kd), .ref ms, .int (nI cnt), .ref ml, .int (nI nl), .ref mh, .int (nI hn), .ref mr, .int (nI rm), .ref mst, .long (lN lo), .ref mn, .ref mth, .long (lN lon), .ref mld, .ref mpk, .ref mcm])), (ml, .inl (cI, 28, .inl (nF lg))), (mr, .inl (cI, 6, .inl (nF rw1)))] H → va_S NA s.heap H locs → lv_has ls 7 [(4, .int (nI k)), (2, .long (lN (lkR num slip rw1 rm (bst (lkR num slip rw1 rm) kd k)))), (1, .int (nI (bst (lkR num slip rw1 rm) kd k))), (0, .ref mq)] → W p l e ({ frames := 2, cells := 0, slots := 0, locals := 49 }) s m args below meth c H locs 0 0 Q (F0 m 43 ls []) := by
      intro n
      induction n with
      | zero => intro k H locs ls hm; exact absurd hm (Nat.not_lt_zero _)
      | succ n ih43 =>
        intro k H locs ls hm hk hP hS hl
        refine lv_iload hx hb dX6_taken_43 (lv_at hl 0 rfl) ?_
        refine lv_bipush (v := nI (8)) hx hb dX6_taken_45 (by decide) ?_
        refine r_icmp_ge (a := k) (b := 8) (tgt := 104) hx hb dX6_taken_47 (by decide) (by omega) (by omega)  (fun c47 => ?_) (fun c47 => ?_)
        · skip
          obtain rfl : 8 = k := by omega
          refine lv_iload_n hx hb dX6_taken_104 rfl (lv_at hl 2 rfl) ?_
          exact r_iret hx hb hr hlk hQ hS (by rw [tkM_eq, tk_bst hlz]) dX6_taken_105
        have hbl := bst_lt (lk := lkR num slip rw1 rm) (kd := kd) k (by omega)
        have hlb1 := hlb _ (show bst (lkR num slip rw1 rm) kd k < 8 by omega)
        have hlb2 := hlb k c47
        refine lv_aload_n hx hb dX6_taken_50 rfl (lv_at hl 3 rfl) ?_
        refine lv_iload hx hb dX6_taken_51 (lv_at hl 0 rfl) ?_
        have hPc := hP.sub (ws' := [(mq, .inr (6, [.ref mw, .int (nI slip), .int (nI h), .int (nI kd), .ref ms, .int (nI cnt), .ref ml, .int (nI nl), .ref mh, .int (nI hn), .ref mr, .int (nI rm), .ref mst, .long (lN lo), .ref mn, .ref mth, .long (lN lon), .ref mld, .ref mpk, .ref mcm])), (ml, .inl (cI, 28, .inl (nF lg))), (mr, .inl (cI, 6, .inl (nF rw1)))]) [0, 1, 2] rfl
        refine r_calll hP hS (va_runV (As := [.int (nI k)]) (rest := []) ⟨hx, hb, hml, hown, hts⟩ (m_X6_likenessOf l D cI cJ mq mw slip h kd ms cnt ml nl mh hn mr rm mst lo mn mth lon mld mpk mcm lg num rw1 k (by omega) (by assumption) (by assumption) (by assumption) (by assumption) (by assumption) (by assumption) (by assumption)) (cwV 1 hts gX6_taken_X6_likenessOf rfl rfl rfl (by decide +kernel) ⟨Nat.le_of_ble_eq_true rfl, Nat.le_of_ble_eq_true rfl⟩) ⟨PR.blind, va_recv hKB.1 hP (ci := 6) (q0 := 0) rfl rfl, fun U hU hW => ⟨rfl, hKB.warm hW, by rw [hU]; exact hPc⟩⟩ rfl rfl hl.1 rfl (lv_room (Nat.le_of_ble_eq_true rfl)) dX6_taken_53 ⟨Nat.le_of_ble_eq_true rfl, Nat.le_of_ble_eq_true rfl⟩) (fun r3 H locs hw53 hP hS => ?_)
        have hw53 : r3 = lN (lkM num slip rw1 k rm) := hw53
        subst hw53
        refine lv_topl (fun z4 ez4 => ?_)
        obtain rfl : z4 = lN (lkR num slip rw1 rm k) := ez4.trans (rfl)
        refine lv_lstore (lv' := [(5, .long (lN (lkR num slip rw1 rm k))), (4, .int (nI k)), (2, .long (lN (lkR num slip rw1 rm (bst (lkR num slip rw1 rm) kd k)))), (1, .int (nI (bst (lkR num slip rw1 rm) kd k))), (0, .ref mq)]) hx hb dX6_taken_56 hl (by decide) rfl (fun ls hl => ?_)
        refine lv_lload hx hb dX6_taken_58 (lv_at hl 0 rfl) ?_
        refine lv_lload_n hx hb dX6_taken_60 rfl (lv_at hl 2 rfl) ?_
        refine r_lcmp_gt (x := lN (lkR num slip rw1 rm k)) (y := lN (lkR num slip rw1 rm (bst (lkR num slip rw1 rm) kd k))) (tgt := 92) hx hb dX6_taken_61 dX6_taken_62 (by decide) (fun c61 => ?_) (fun c61 => ?_)
        · skip
          refine lv_lload hx hb dX6_taken_92 (lv_at hl 0 rfl) ?_
          refine lv_lstore_n (lv' := [(2, .long (lN (lkR num slip rw1 rm k))), (5, .long (lN (lkR num slip rw1 rm k))), (4, .int (nI k)), (1, .int (nI (bst (lkR num slip rw1 rm) kd k))), (0, .ref mq)]) hx hb dX6_taken_94 rfl hl (by decide) rfl (fun ls hl => ?_)
          refine lv_iload hx hb dX6_taken_95 (lv_at hl 2 rfl) ?_
          refine lv_istore_n (lv' := [(1, .int (nI k)), (2, .long (lN (lkR num slip rw1 rm k))), (5, .long (lN (lkR num slip rw1 rm k))), (4, .int (nI k)), (0, .ref mq)]) hx hb dX6_taken_97 rfl hl (by decide) rfl (fun ls hl => ?_)
          have hl := lv_ch hl 0 (v2 := .int (nI (bst (lkR num slip rw1 rm) kd (k + 1)))) (l2 := [(1, .int (nI (bst (lkR num slip rw1 rm) kd (k + 1)))), (2, .long (lN (lkR num slip rw1 rm k))), (5, .long (lN (lkR num slip rw1 rm k))), (4, .int (nI k)), (0, .ref mq)]) rfl (congrArg Value.int (congrArg nI (tk_step (lk := lkR num slip rw1 rm) (kd := kd) (k := k) hlb1 hlb2 (by first | exact Or.inl ⟨rfl, Or.inl c61⟩ | exact Or.inl ⟨rfl, Or.inr ⟨c68, c77, c89⟩⟩)))) rfl
          have hl := lv_ch hl 1 (v2 := .long (lN (lkR num slip rw1 rm (bst (lkR num slip rw1 rm) kd (k + 1))))) (l2 := [(1, .int (nI (bst (lkR num slip rw1 rm) kd (k + 1)))), (2, .long (lN (lkR num slip rw1 rm (bst (lkR num slip rw1 rm) kd (k + 1))))), (5, .long (lN (lkR num slip rw1 rm k))), (4, .int (nI k)), (0, .ref mq)]) rfl (congrArg Value.long (congrArg lN (tk_step2 (lk := lkR num slip rw1 rm) (kd := kd) (k := k) (x := 0) hlb1 hlb2 (by first | exact Or.inl ⟨rfl, Or.inl c61⟩ | exact Or.inl ⟨rfl, Or.inr ⟨c68, c77, c89⟩⟩)))) rfl
          refine lv_iinc (v := nI (k + 1)) (lv' := [(4, .int (nI (k + 1))), (1, .int (nI (bst (lkR num slip rw1 rm) kd (k + 1)))), (2, .long (lN (lkR num slip rw1 rm (bst (lkR num slip rw1 rm) kd (k + 1))))), (5, .long (lN (lkR num slip rw1 rm k))), (0, .ref mq)]) hx hb dX6_taken_98 hl (k := 3) rfl (n_inc _ 1) (by decide) rfl (fun ls hl => ?_)
          refine lv_goto (tgt := 43) hx hb dX6_taken_101 (by decide) ?_
          exact ih43 (k + 1) _ _ _ (by omega) (by omega) hP hS (lv_sub hl [0, 2, 1, 4] rfl)
        refine lv_lload hx hb dX6_taken_65 (lv_at hl 0 rfl) ?_
        refine lv_lload_n hx hb dX6_taken_67 rfl (lv_at hl 2 rfl) ?_
        refine r_lcmp_ne (x := lN (lkR num slip rw1 rm k)) (y := lN (lkR num slip rw1 rm (bst (lkR num slip rw1 rm) kd k))) (tgt := 98) hx hb dX6_taken_68 dX6_taken_69 (by decide) (fun c68 => ?_) (fun c68 => ?_)
        · skip
          have hl := lv_ch hl 3 (v2 := .int (nI (bst (lkR num slip rw1 rm) kd (k + 1)))) (l2 := [(5, .long (lN (lkR num slip rw1 rm k))), (4, .int (nI k)), (2, .long (lN (lkR num slip rw1 rm (bst (lkR num slip rw1 rm) kd k)))), (1, .int (nI (bst (lkR num slip rw1 rm) kd (k + 1)))), (0, .ref mq)]) rfl (congrArg Value.int (congrArg nI (tk_step (lk := lkR num slip rw1 rm) (kd := kd) (k := k) hlb1 hlb2 (by first | exact Or.inr ⟨rfl, c61, Or.inl c68⟩ | exact Or.inr ⟨rfl, c61, Or.inr (Or.inl c77)⟩ | exact Or.inr ⟨rfl, c61, Or.inr (Or.inr (Nat.not_lt.mpr c89))⟩)))) rfl
          have hl := lv_ch hl 2 (v2 := .long (lN (lkR num slip rw1 rm (bst (lkR num slip rw1 rm) kd (k + 1))))) (l2 := [(5, .long (lN (lkR num slip rw1 rm k))), (4, .int (nI k)), (2, .long (lN (lkR num slip rw1 rm (bst (lkR num slip rw1 rm) kd (k + 1))))), (1, .int (nI (bst (lkR num slip rw1 rm) kd (k + 1)))), (0, .ref mq)]) rfl (congrArg Value.long (congrArg lN (tk_step2 (lk := lkR num slip rw1 rm) (kd := kd) (k := k) (x := 0) hlb1 hlb2 (by first | exact Or.inr ⟨rfl, c61, Or.inl c68⟩ | exact Or.inr ⟨rfl, c61, Or.inr (Or.inl c77)⟩ | exact Or.inr ⟨rfl, c61, Or.inr (Or.inr (Nat.not_lt.mpr c89))⟩)))) rfl
          refine lv_iinc (v := nI (k + 1)) (lv' := [(4, .int (nI (k + 1))), (5, .long (lN (lkR num slip rw1 rm k))), (2, .long (lN (lkR num slip rw1 rm (bst (lkR num slip rw1 rm) kd (k + 1))))), (1, .int (nI (bst (lkR num slip rw1 rm) kd (k + 1)))), (0, .ref mq)]) hx hb dX6_taken_98 hl (k := 1) rfl (n_inc _ 1) (by decide) rfl (fun ls hl => ?_)
          refine lv_goto (tgt := 43) hx hb dX6_taken_101 (by decide) ?_
          exact ih43 (k + 1) _ _ _ (by omega) (by omega) hP hS (lv_sub hl [0, 2, 3, 4] rfl)
        refine lv_aload_n hx hb dX6_taken_72 rfl (lv_at hl 4 rfl) ?_
        refine va_get (D := D) (ci := 6) (v := .int (nI kd)) (C := RX6) (T := TX6) (N := 20) hx hb hts hiX6 hown hKB.1 hP 0 rfl rfl 3 (by decide) fl65 (fun _ h9 => h9) rfl dX6_taken_73 ?_
        refine lv_iconst (v := nI (2)) hx hb dX6_taken_76 (by decide) ?_
        refine r_icmp_ne (a := kd) (b := 2) (tgt := 98) hx hb dX6_taken_77 (by decide) (by omega) (by omega)  (fun c77 => ?_) (fun c77 => ?_)
        · skip
          have hl := lv_ch hl 3 (v2 := .int (nI (bst (lkR num slip rw1 rm) kd (k + 1)))) (l2 := [(5, .long (lN (lkR num slip rw1 rm k))), (4, .int (nI k)), (2, .long (lN (lkR num slip rw1 rm (bst (lkR num slip rw1 rm) kd k)))), (1, .int (nI (bst (lkR num slip rw1 rm) kd (k + 1)))), (0, .ref mq)]) rfl (congrArg Value.int (congrArg nI (tk_step (lk := lkR num slip rw1 rm) (kd := kd) (k := k) hlb1 hlb2 (by first | exact Or.inr ⟨rfl, c61, Or.inl c68⟩ | exact Or.inr ⟨rfl, c61, Or.inr (Or.inl c77)⟩ | exact Or.inr ⟨rfl, c61, Or.inr (Or.inr (Nat.not_lt.mpr c89))⟩)))) rfl
          have hl := lv_ch hl 2 (v2 := .long (lN (lkR num slip rw1 rm (bst (lkR num slip rw1 rm) kd (k + 1))))) (l2 := [(5, .long (lN (lkR num slip rw1 rm k))), (4, .int (nI k)), (2, .long (lN (lkR num slip rw1 rm (bst (lkR num slip rw1 rm) kd (k + 1))))), (1, .int (nI (bst (lkR num slip rw1 rm) kd (k + 1)))), (0, .ref mq)]) rfl (congrArg Value.long (congrArg lN (tk_step2 (lk := lkR num slip rw1 rm) (kd := kd) (k := k) (x := 0) hlb1 hlb2 (by first | exact Or.inr ⟨rfl, c61, Or.inl c68⟩ | exact Or.inr ⟨rfl, c61, Or.inr (Or.inl c77)⟩ | exact Or.inr ⟨rfl, c61, Or.inr (Or.inr (Nat.not_lt.mpr c89))⟩)))) rfl
          refine lv_iinc (v := nI (k + 1)) (lv' := [(4, .int (nI (k + 1))), (5, .long (lN (lkR num slip rw1 rm k))), (2, .long (lN (lkR num slip rw1 rm (bst (lkR num slip rw1 rm) kd (k + 1))))), (1, .int (nI (bst (lkR num slip rw1 rm) kd (k + 1)))), (0, .ref mq)]) hx hb dX6_taken_98 hl (k := 1) rfl (n_inc _ 1) (by decide) rfl (fun ls hl => ?_)
          refine lv_goto (tgt := 43) hx hb dX6_taken_101 (by decide) ?_
          exact ih43 (k + 1) _ _ _ (by omega) (by omega) hP hS (lv_sub hl [0, 2, 3, 4] rfl)
        refine lv_iload hx hb dX6_taken_80 (lv_at hl 1 rfl) ?_
        have hPc := hP.sub (ws' := []) [] rfl
        refine r_calli hP hS (va_runS (As := [.int (nI k)]) (rest := []) ⟨hx, hb, hml, hown, hts⟩ (m_X6_ones l D cI cJ k (by omega)) (va_cwS 1 hts gX6_taken_X6_ones rfl rfl rfl (by decide +kernel) ⟨Nat.le_of_ble_eq_true rfl, Nat.le_of_ble_eq_true rfl⟩) ⟨PR.blind, fun U hU hW => ⟨rfl, hKB.warm hW, by rw [hU]; exact hPc⟩⟩ rfl rfl hl.1 rfl (lv_room (Nat.le_of_ble_eq_true rfl)) dX6_taken_82 ⟨Nat.le_of_ble_eq_true rfl, Nat.le_of_ble_eq_true rfl⟩) (fun r5 H locs hw82 hP hS => ?_)
        have hw82 : r5 = nI (on k) := hw82
        subst hw82
        refine lv_iload_n hx hb dX6_taken_85 rfl (lv_at hl 3 rfl) ?_
        have hPc := hP.sub (ws' := []) [] rfl
        refine r_calli hP hS (va_runS (As := [.int (nI (bst (lkR num slip rw1 rm) kd k))]) (rest := [.int (nI (on k))]) ⟨hx, hb, hml, hown, hts⟩ (m_X6_ones l D cI cJ (bst (lkR num slip rw1 rm) kd k) (by omega)) (va_cwS 1 hts gX6_taken_X6_ones rfl rfl rfl (by decide +kernel) ⟨Nat.le_of_ble_eq_true rfl, Nat.le_of_ble_eq_true rfl⟩) ⟨PR.blind, fun U hU hW => ⟨rfl, hKB.warm hW, by rw [hU]; exact hPc⟩⟩ rfl rfl hl.1 rfl (lv_room (Nat.le_of_ble_eq_true rfl)) dX6_taken_86 ⟨Nat.le_of_ble_eq_true rfl, Nat.le_of_ble_eq_true rfl⟩) (fun r6 H locs hw86 hP hS => ?_)
        have hw86 : r6 = nI (on (bst (lkR num slip rw1 rm) kd k)) := hw86
        subst hw86
        refine r_icmp_ge (a := on k) (b := on (bst (lkR num slip rw1 rm) kd k)) (tgt := 98) hx hb dX6_taken_89 (by decide) (on_lt _) (on_lt _)  (fun c89 => ?_) (fun c89 => ?_)
        · skip
          have hl := lv_ch hl 3 (v2 := .int (nI (bst (lkR num slip rw1 rm) kd (k + 1)))) (l2 := [(5, .long (lN (lkR num slip rw1 rm k))), (4, .int (nI k)), (2, .long (lN (lkR num slip rw1 rm (bst (lkR num slip rw1 rm) kd k)))), (1, .int (nI (bst (lkR num slip rw1 rm) kd (k + 1)))), (0, .ref mq)]) rfl (congrArg Value.int (congrArg nI (tk_step (lk := lkR num slip rw1 rm) (kd := kd) (k := k) hlb1 hlb2 (by first | exact Or.inr ⟨rfl, c61, Or.inl c68⟩ | exact Or.inr ⟨rfl, c61, Or.inr (Or.inl c77)⟩ | exact Or.inr ⟨rfl, c61, Or.inr (Or.inr (Nat.not_lt.mpr c89))⟩)))) rfl
          have hl := lv_ch hl 2 (v2 := .long (lN (lkR num slip rw1 rm (bst (lkR num slip rw1 rm) kd (k + 1))))) (l2 := [(5, .long (lN (lkR num slip rw1 rm k))), (4, .int (nI k)), (2, .long (lN (lkR num slip rw1 rm (bst (lkR num slip rw1 rm) kd (k + 1))))), (1, .int (nI (bst (lkR num slip rw1 rm) kd (k + 1)))), (0, .ref mq)]) rfl (congrArg Value.long (congrArg lN (tk_step2 (lk := lkR num slip rw1 rm) (kd := kd) (k := k) (x := 0) hlb1 hlb2 (by first | exact Or.inr ⟨rfl, c61, Or.inl c68⟩ | exact Or.inr ⟨rfl, c61, Or.inr (Or.inl c77)⟩ | exact Or.inr ⟨rfl, c61, Or.inr (Or.inr (Nat.not_lt.mpr c89))⟩)))) rfl
          refine lv_iinc (v := nI (k + 1)) (lv' := [(4, .int (nI (k + 1))), (5, .long (lN (lkR num slip rw1 rm k))), (2, .long (lN (lkR num slip rw1 rm (bst (lkR num slip rw1 rm) kd (k + 1))))), (1, .int (nI (bst (lkR num slip rw1 rm) kd (k + 1)))), (0, .ref mq)]) hx hb dX6_taken_98 hl (k := 1) rfl (n_inc _ 1) (by decide) rfl (fun ls hl => ?_)
          refine lv_goto (tgt := 43) hx hb dX6_taken_101 (by decide) ?_
          exact ih43 (k + 1) _ _ _ (by omega) (by omega) hP hS (lv_sub hl [0, 2, 3, 4] rfl)
        refine lv_lload hx hb dX6_taken_92 (lv_at hl 0 rfl) ?_
        refine lv_lstore_n (lv' := [(2, .long (lN (lkR num slip rw1 rm k))), (5, .long (lN (lkR num slip rw1 rm k))), (4, .int (nI k)), (1, .int (nI (bst (lkR num slip rw1 rm) kd k))), (0, .ref mq)]) hx hb dX6_taken_94 rfl hl (by decide) rfl (fun ls hl => ?_)
        refine lv_iload hx hb dX6_taken_95 (lv_at hl 2 rfl) ?_
        refine lv_istore_n (lv' := [(1, .int (nI k)), (2, .long (lN (lkR num slip rw1 rm k))), (5, .long (lN (lkR num slip rw1 rm k))), (4, .int (nI k)), (0, .ref mq)]) hx hb dX6_taken_97 rfl hl (by decide) rfl (fun ls hl => ?_)
        have hl := lv_ch hl 0 (v2 := .int (nI (bst (lkR num slip rw1 rm) kd (k + 1)))) (l2 := [(1, .int (nI (bst (lkR num slip rw1 rm) kd (k + 1)))), (2, .long (lN (lkR num slip rw1 rm k))), (5, .long (lN (lkR num slip rw1 rm k))), (4, .int (nI k)), (0, .ref mq)]) rfl (congrArg Value.int (congrArg nI (tk_step (lk := lkR num slip rw1 rm) (kd := kd) (k := k) hlb1 hlb2 (by first | exact Or.inl ⟨rfl, Or.inl c61⟩ | exact Or.inl ⟨rfl, Or.inr ⟨c68, c77, c89⟩⟩)))) rfl
        have hl := lv_ch hl 1 (v2 := .long (lN (lkR num slip rw1 rm (bst (lkR num slip rw1 rm) kd (k + 1))))) (l2 := [(1, .int (nI (bst (lkR num slip rw1 rm) kd (k + 1)))), (2, .long (lN (lkR num slip rw1 rm (bst (lkR num slip rw1 rm) kd (k + 1))))), (5, .long (lN (lkR num slip rw1 rm k))), (4, .int (nI k)), (0, .ref mq)]) rfl (congrArg Value.long (congrArg lN (tk_step2 (lk := lkR num slip rw1 rm) (kd := kd) (k := k) (x := 0) hlb1 hlb2 (by first | exact Or.inl ⟨rfl, Or.inl c61⟩ | exact Or.inl ⟨rfl, Or.inr ⟨c68, c77, c89⟩⟩)))) rfl
        refine lv_iinc (v := nI (k + 1)) (lv' := [(4, .int (nI (k + 1))), (1, .int (nI (bst (lkR num slip rw1 rm) kd (k + 1)))), (2, .long (lN (lkR num slip rw1 rm (bst (lkR num slip rw1 rm) kd (k + 1))))), (5, .long (lN (lkR num slip rw1 rm k))), (0, .ref mq)]) hx hb dX6_taken_98 hl (k := 3) rfl (n_inc _ 1) (by decide) rfl (fun ls hl => ?_)
        refine lv_goto (tgt := 43) hx hb dX6_taken_101 (by decide) ?_
        exact ih43 (k + 1) _ _ _ (by omega) (by omega) hP hS (lv_sub hl [0, 2, 1, 4] rfl)
    exact L43 (8 - 1 + 1) 1 _ _ _ (Nat.lt_succ_self _) (by omega) hP hS hl
  refine lv_iconst (v := nI (0)) hx hb dX6_taken_8 (by decide) ?_
  refine lv_istore_n (lv' := [(1, .int (nI 0)), (0, .ref mq)]) hx hb dX6_taken_9 rfl hl (by decide) rfl (fun ls hl => ?_)
  have L10 : ∀ (n : Nat) (k : Nat) (H : Heap) (locs : List Loc) (ls : Array Slot), 8 - k < n → (k ≤ 8) → (∀ j, j < k → alM rw1 rm j = false) → va_P D vwCl [(mq, .inr (6, [.ref mw, .int (nI slip), .int (nI h), .int (nI kd), .ref ms, .int (nI cnt), .ref ml, .int (nI nl), .ref mh, .int (nI hn), .ref mr, .int (nI rm), .ref mst, .long (lN lo), .ref mn, .ref mth, .long (lN lon), .ref mld, .ref mpk, .ref mcm])), (ml, .inl (cI, 28, .inl (nF lg))), (mr, .inl (cI, 6, .inl (nF rw1)))] H → va_S NA s.heap H locs → lv_has ls 7 [(1, .int (nI k)), (0, .ref mq)] → W p l e ({ frames := 2, cells := 0, slots := 0, locals := 49 }) s m args below meth c H locs 0 0 Q (F0 m 10 ls []) := by
    intro n
    induction n with
    | zero => intro k H locs ls hm; exact absurd hm (Nat.not_lt_zero _)
    | succ n ih10 =>
      intro k H locs ls hm hk hno hP hS hl
      refine lv_iload_n hx hb dX6_taken_10 rfl (lv_at hl 0 rfl) ?_
      refine lv_bipush (v := nI (8)) hx hb dX6_taken_11 (by decide) ?_
      refine r_icmp_ge (a := k) (b := 8) (tgt := 32) hx hb dX6_taken_13 (by decide) (by omega) (by omega)  (fun c13 => ?_) (fun c13 => ?_)
      · skip
        have hlz : kd = 1 → ∀ j, j < 8 → alM rw1 rm j = false := by first | exact fun h => absurd h c5 | exact fun _ j hj => hno j (by omega)
        refine lv_iconst (v := nI (0)) hx hb dX6_taken_32 (by decide) ?_
        refine lv_istore_n (lv' := [(1, .int (nI 0)), (0, .ref mq)]) hx hb dX6_taken_33 rfl hl (by decide) rfl (fun ls hl => ?_)
        refine lv_aload_n hx hb dX6_taken_34 rfl (lv_at hl 1 rfl) ?_
        refine lv_iconst (v := nI (0)) hx hb dX6_taken_35 (by decide) ?_
        have hPc := hP.sub (ws' := [(mq, .inr (6, [.ref mw, .int (nI slip), .int (nI h), .int (nI kd), .ref ms, .int (nI cnt), .ref ml, .int (nI nl), .ref mh, .int (nI hn), .ref mr, .int (nI rm), .ref mst, .long (lN lo), .ref mn, .ref mth, .long (lN lon), .ref mld, .ref mpk, .ref mcm])), (ml, .inl (cI, 28, .inl (nF lg))), (mr, .inl (cI, 6, .inl (nF rw1)))]) [0, 1, 2] rfl
        refine r_calll hP hS (va_runV (As := [.int (nI 0)]) (rest := []) ⟨hx, hb, hml, hown, hts⟩ (m_X6_likenessOf l D cI cJ mq mw slip h kd ms cnt ml nl mh hn mr rm mst lo mn mth lon mld mpk mcm lg num rw1 0 (by omega) (by assumption) (by assumption) (by assumption) (by assumption) (by assumption) (by assumption) (by assumption)) (cwV 1 hts gX6_taken_X6_likenessOf rfl rfl rfl (by decide +kernel) ⟨Nat.le_of_ble_eq_true rfl, Nat.le_of_ble_eq_true rfl⟩) ⟨PR.blind, va_recv hKB.1 hP (ci := 6) (q0 := 0) rfl rfl, fun U hU hW => ⟨rfl, hKB.warm hW, by rw [hU]; exact hPc⟩⟩ rfl rfl hl.1 rfl (lv_room (Nat.le_of_ble_eq_true rfl)) dX6_taken_36 ⟨Nat.le_of_ble_eq_true rfl, Nat.le_of_ble_eq_true rfl⟩) (fun r7 H locs hw36 hP hS => ?_)
        have hw36 : r7 = lN (lkM num slip rw1 0 rm) := hw36
        subst hw36
        refine lv_topl (fun z8 ez8 => ?_)
        obtain rfl : z8 = lN (lkR num slip rw1 rm 0) := ez8.trans (rfl)
        refine lv_lstore_n (lv' := [(2, .long (lN (lkR num slip rw1 rm 0))), (1, .int (nI 0)), (0, .ref mq)]) hx hb dX6_taken_39 rfl hl (by decide) rfl (fun ls hl => ?_)
        refine lv_iconst (v := nI (1)) hx hb dX6_taken_40 (by decide) ?_
        refine lv_istore (lv' := [(4, .int (nI 1)), (2, .long (lN (lkR num slip rw1 rm 0))), (1, .int (nI 0)), (0, .ref mq)]) hx hb dX6_taken_41 hl (by decide) rfl (fun ls hl => ?_)
        have hl := lv_ch hl 2 (v2 := .int (nI (bst (lkR num slip rw1 rm) kd 1))) (l2 := [(4, .int (nI 1)), (2, .long (lN (lkR num slip rw1 rm 0))), (1, .int (nI (bst (lkR num slip rw1 rm) kd 1))), (0, .ref mq)]) rfl (congrArg Value.int (congrArg nI bst_1.symm)) rfl
        have hl := lv_ch hl 1 (v2 := .long (lN (lkR num slip rw1 rm (bst (lkR num slip rw1 rm) kd 1)))) (l2 := [(4, .int (nI 1)), (2, .long (lN (lkR num slip rw1 rm (bst (lkR num slip rw1 rm) kd 1)))), (1, .int (nI (bst (lkR num slip rw1 rm) kd 1))), (0, .ref mq)]) rfl (congrArg Value.long (congrArg lN (by rw [bst_1]))) rfl
        have L43 : ∀ (n : Nat) (k : Nat) (H : Heap) (locs : List Loc) (ls : Array Slot), 8 - k < n → (1 ≤ k ∧ k ≤ 8) → va_P D vwCl [(mq, .inr (6, [.ref mw, .int (nI slip), .int (nI h), .int (nI kd), .ref ms, .int (nI cnt), .ref ml, .int (nI nl), .ref mh, .int (nI hn), .ref mr, .int (nI rm), .ref mst, .long (lN lo), .ref mn, .ref mth, .long (lN lon), .ref mld, .ref mpk, .ref mcm])), (ml, .inl (cI, 28, .inl (nF lg))), (mr, .inl (cI, 6, .inl (nF rw1)))] H → va_S NA s.heap H locs → lv_has ls 7 [(4, .int (nI k)), (2, .long (lN (lkR num slip rw1 rm (bst (lkR num slip rw1 rm) kd k)))), (1, .int (nI (bst (lkR num slip rw1 rm) kd k))), (0, .ref mq)] → W p l e ({ frames := 2, cells := 0, slots := 0, locals := 49 }) s m args below meth c H locs 0 0 Q (F0 m 43 ls []) := by
          intro n
          induction n with
          | zero => intro k H locs ls hm; exact absurd hm (Nat.not_lt_zero _)
          | succ n ih43 =>
            intro k H locs ls hm hk hP hS hl
            refine lv_iload hx hb dX6_taken_43 (lv_at hl 0 rfl) ?_
            refine lv_bipush (v := nI (8)) hx hb dX6_taken_45 (by decide) ?_
            refine r_icmp_ge (a := k) (b := 8) (tgt := 104) hx hb dX6_taken_47 (by decide) (by omega) (by omega)  (fun c47 => ?_) (fun c47 => ?_)
            · skip
              obtain rfl : 8 = k := by omega
              refine lv_iload_n hx hb dX6_taken_104 rfl (lv_at hl 2 rfl) ?_
              exact r_iret hx hb hr hlk hQ hS (by rw [tkM_eq, tk_bst hlz]) dX6_taken_105
            have hbl := bst_lt (lk := lkR num slip rw1 rm) (kd := kd) k (by omega)
            have hlb1 := hlb _ (show bst (lkR num slip rw1 rm) kd k < 8 by omega)
            have hlb2 := hlb k c47
            refine lv_aload_n hx hb dX6_taken_50 rfl (lv_at hl 3 rfl) ?_
            refine lv_iload hx hb dX6_taken_51 (lv_at hl 0 rfl) ?_
            have hPc := hP.sub (ws' := [(mq, .inr (6, [.ref mw, .int (nI slip), .int (nI h), .int (nI kd), .ref ms, .int (nI cnt), .ref ml, .int (nI nl), .ref mh, .int (nI hn), .ref mr, .int (nI rm), .ref mst, .long (lN lo), .ref mn, .ref mth, .long (lN lon), .ref mld, .ref mpk, .ref mcm])), (ml, .inl (cI, 28, .inl (nF lg))), (mr, .inl (cI, 6, .inl (nF rw1)))]) [0, 1, 2] rfl
            refine r_calll hP hS (va_runV (As := [.int (nI k)]) (rest := []) ⟨hx, hb, hml, hown, hts⟩ (m_X6_likenessOf l D cI cJ mq mw slip h kd ms cnt ml nl mh hn mr rm mst lo mn mth lon mld mpk mcm lg num rw1 k (by omega) (by assumption) (by assumption) (by assumption) (by assumption) (by assumption) (by assumption) (by assumption)) (cwV 1 hts gX6_taken_X6_likenessOf rfl rfl rfl (by decide +kernel) ⟨Nat.le_of_ble_eq_true rfl, Nat.le_of_ble_eq_true rfl⟩) ⟨PR.blind, va_recv hKB.1 hP (ci := 6) (q0 := 0) rfl rfl, fun U hU hW => ⟨rfl, hKB.warm hW, by rw [hU]; exact hPc⟩⟩ rfl rfl hl.1 rfl (lv_room (Nat.le_of_ble_eq_true rfl)) dX6_taken_53 ⟨Nat.le_of_ble_eq_true rfl, Nat.le_of_ble_eq_true rfl⟩) (fun r9 H locs hw53 hP hS => ?_)
            have hw53 : r9 = lN (lkM num slip rw1 k rm) := hw53
            subst hw53
            refine lv_topl (fun z10 ez10 => ?_)
            obtain rfl : z10 = lN (lkR num slip rw1 rm k) := ez10.trans (rfl)
            refine lv_lstore (lv' := [(5, .long (lN (lkR num slip rw1 rm k))), (4, .int (nI k)), (2, .long (lN (lkR num slip rw1 rm (bst (lkR num slip rw1 rm) kd k)))), (1, .int (nI (bst (lkR num slip rw1 rm) kd k))), (0, .ref mq)]) hx hb dX6_taken_56 hl (by decide) rfl (fun ls hl => ?_)
            refine lv_lload hx hb dX6_taken_58 (lv_at hl 0 rfl) ?_
            refine lv_lload_n hx hb dX6_taken_60 rfl (lv_at hl 2 rfl) ?_
            refine r_lcmp_gt (x := lN (lkR num slip rw1 rm k)) (y := lN (lkR num slip rw1 rm (bst (lkR num slip rw1 rm) kd k))) (tgt := 92) hx hb dX6_taken_61 dX6_taken_62 (by decide) (fun c61 => ?_) (fun c61 => ?_)
            · skip
              refine lv_lload hx hb dX6_taken_92 (lv_at hl 0 rfl) ?_
              refine lv_lstore_n (lv' := [(2, .long (lN (lkR num slip rw1 rm k))), (5, .long (lN (lkR num slip rw1 rm k))), (4, .int (nI k)), (1, .int (nI (bst (lkR num slip rw1 rm) kd k))), (0, .ref mq)]) hx hb dX6_taken_94 rfl hl (by decide) rfl (fun ls hl => ?_)
              refine lv_iload hx hb dX6_taken_95 (lv_at hl 2 rfl) ?_
              refine lv_istore_n (lv' := [(1, .int (nI k)), (2, .long (lN (lkR num slip rw1 rm k))), (5, .long (lN (lkR num slip rw1 rm k))), (4, .int (nI k)), (0, .ref mq)]) hx hb dX6_taken_97 rfl hl (by decide) rfl (fun ls hl => ?_)
              have hl := lv_ch hl 0 (v2 := .int (nI (bst (lkR num slip rw1 rm) kd (k + 1)))) (l2 := [(1, .int (nI (bst (lkR num slip rw1 rm) kd (k + 1)))), (2, .long (lN (lkR num slip rw1 rm k))), (5, .long (lN (lkR num slip rw1 rm k))), (4, .int (nI k)), (0, .ref mq)]) rfl (congrArg Value.int (congrArg nI (tk_step (lk := lkR num slip rw1 rm) (kd := kd) (k := k) hlb1 hlb2 (by first | exact Or.inl ⟨rfl, Or.inl c61⟩ | exact Or.inl ⟨rfl, Or.inr ⟨c68, c77, c89⟩⟩)))) rfl
              have hl := lv_ch hl 1 (v2 := .long (lN (lkR num slip rw1 rm (bst (lkR num slip rw1 rm) kd (k + 1))))) (l2 := [(1, .int (nI (bst (lkR num slip rw1 rm) kd (k + 1)))), (2, .long (lN (lkR num slip rw1 rm (bst (lkR num slip rw1 rm) kd (k + 1))))), (5, .long (lN (lkR num slip rw1 rm k))), (4, .int (nI k)), (0, .ref mq)]) rfl (congrArg Value.long (congrArg lN (tk_step2 (lk := lkR num slip rw1 rm) (kd := kd) (k := k) (x := 0) hlb1 hlb2 (by first | exact Or.inl ⟨rfl, Or.inl c61⟩ | exact Or.inl ⟨rfl, Or.inr ⟨c68, c77, c89⟩⟩)))) rfl
              refine lv_iinc (v := nI (k + 1)) (lv' := [(4, .int (nI (k + 1))), (1, .int (nI (bst (lkR num slip rw1 rm) kd (k + 1)))), (2, .long (lN (lkR num slip rw1 rm (bst (lkR num slip rw1 rm) kd (k + 1))))), (5, .long (lN (lkR num slip rw1 rm k))), (0, .ref mq)]) hx hb dX6_taken_98 hl (k := 3) rfl (n_inc _ 1) (by decide) rfl (fun ls hl => ?_)
              refine lv_goto (tgt := 43) hx hb dX6_taken_101 (by decide) ?_
              exact ih43 (k + 1) _ _ _ (by omega) (by omega) hP hS (lv_sub hl [0, 2, 1, 4] rfl)
            refine lv_lload hx hb dX6_taken_65 (lv_at hl 0 rfl) ?_
            refine lv_lload_n hx hb dX6_taken_67 rfl (lv_at hl 2 rfl) ?_
            refine r_lcmp_ne (x := lN (lkR num slip rw1 rm k)) (y := lN (lkR num slip rw1 rm (bst (lkR num slip rw1 rm) kd k))) (tgt := 98) hx hb dX6_taken_68 dX6_taken_69 (by decide) (fun c68 => ?_) (fun c68 => ?_)
            · skip
              have hl := lv_ch hl 3 (v2 := .int (nI (bst (lkR num slip rw1 rm) kd (k + 1)))) (l2 := [(5, .long (lN (lkR num slip rw1 rm k))), (4, .int (nI k)), (2, .long (lN (lkR num slip rw1 rm (bst (lkR num slip rw1 rm) kd k)))), (1, .int (nI (bst (lkR num slip rw1 rm) kd (k + 1)))), (0, .ref mq)]) rfl (congrArg Value.int (congrArg nI (tk_step (lk := lkR num slip rw1 rm) (kd := kd) (k := k) hlb1 hlb2 (by first | exact Or.inr ⟨rfl, c61, Or.inl c68⟩ | exact Or.inr ⟨rfl, c61, Or.inr (Or.inl c77)⟩ | exact Or.inr ⟨rfl, c61, Or.inr (Or.inr (Nat.not_lt.mpr c89))⟩)))) rfl
              have hl := lv_ch hl 2 (v2 := .long (lN (lkR num slip rw1 rm (bst (lkR num slip rw1 rm) kd (k + 1))))) (l2 := [(5, .long (lN (lkR num slip rw1 rm k))), (4, .int (nI k)), (2, .long (lN (lkR num slip rw1 rm (bst (lkR num slip rw1 rm) kd (k + 1))))), (1, .int (nI (bst (lkR num slip rw1 rm) kd (k + 1)))), (0, .ref mq)]) rfl (congrArg Value.long (congrArg lN (tk_step2 (lk := lkR num slip rw1 rm) (kd := kd) (k := k) (x := 0) hlb1 hlb2 (by first | exact Or.inr ⟨rfl, c61, Or.inl c68⟩ | exact Or.inr ⟨rfl, c61, Or.inr (Or.inl c77)⟩ | exact Or.inr ⟨rfl, c61, Or.inr (Or.inr (Nat.not_lt.mpr c89))⟩)))) rfl
              refine lv_iinc (v := nI (k + 1)) (lv' := [(4, .int (nI (k + 1))), (5, .long (lN (lkR num slip rw1 rm k))), (2, .long (lN (lkR num slip rw1 rm (bst (lkR num slip rw1 rm) kd (k + 1))))), (1, .int (nI (bst (lkR num slip rw1 rm) kd (k + 1)))), (0, .ref mq)]) hx hb dX6_taken_98 hl (k := 1) rfl (n_inc _ 1) (by decide) rfl (fun ls hl => ?_)
              refine lv_goto (tgt := 43) hx hb dX6_taken_101 (by decide) ?_
              exact ih43 (k + 1) _ _ _ (by omega) (by omega) hP hS (lv_sub hl [0, 2, 3, 4] rfl)
            refine lv_aload_n hx hb dX6_taken_72 rfl (lv_at hl 4 rfl) ?_
            refine va_get (D := D) (ci := 6) (v := .int (nI kd)) (C := RX6) (T := TX6) (N := 20) hx hb hts hiX6 hown hKB.1 hP 0 rfl rfl 3 (by decide) fl65 (fun _ h9 => h9) rfl dX6_taken_73 ?_
            refine lv_iconst (v := nI (2)) hx hb dX6_taken_76 (by decide) ?_
            refine r_icmp_ne (a := kd) (b := 2) (tgt := 98) hx hb dX6_taken_77 (by decide) (by omega) (by omega)  (fun c77 => ?_) (fun c77 => ?_)
            · skip
              have hl := lv_ch hl 3 (v2 := .int (nI (bst (lkR num slip rw1 rm) kd (k + 1)))) (l2 := [(5, .long (lN (lkR num slip rw1 rm k))), (4, .int (nI k)), (2, .long (lN (lkR num slip rw1 rm (bst (lkR num slip rw1 rm) kd k)))), (1, .int (nI (bst (lkR num slip rw1 rm) kd (k + 1)))), (0, .ref mq)]) rfl (congrArg Value.int (congrArg nI (tk_step (lk := lkR num slip rw1 rm) (kd := kd) (k := k) hlb1 hlb2 (by first | exact Or.inr ⟨rfl, c61, Or.inl c68⟩ | exact Or.inr ⟨rfl, c61, Or.inr (Or.inl c77)⟩ | exact Or.inr ⟨rfl, c61, Or.inr (Or.inr (Nat.not_lt.mpr c89))⟩)))) rfl
              have hl := lv_ch hl 2 (v2 := .long (lN (lkR num slip rw1 rm (bst (lkR num slip rw1 rm) kd (k + 1))))) (l2 := [(5, .long (lN (lkR num slip rw1 rm k))), (4, .int (nI k)), (2, .long (lN (lkR num slip rw1 rm (bst (lkR num slip rw1 rm) kd (k + 1))))), (1, .int (nI (bst (lkR num slip rw1 rm) kd (k + 1)))), (0, .ref mq)]) rfl (congrArg Value.long (congrArg lN (tk_step2 (lk := lkR num slip rw1 rm) (kd := kd) (k := k) (x := 0) hlb1 hlb2 (by first | exact Or.inr ⟨rfl, c61, Or.inl c68⟩ | exact Or.inr ⟨rfl, c61, Or.inr (Or.inl c77)⟩ | exact Or.inr ⟨rfl, c61, Or.inr (Or.inr (Nat.not_lt.mpr c89))⟩)))) rfl
              refine lv_iinc (v := nI (k + 1)) (lv' := [(4, .int (nI (k + 1))), (5, .long (lN (lkR num slip rw1 rm k))), (2, .long (lN (lkR num slip rw1 rm (bst (lkR num slip rw1 rm) kd (k + 1))))), (1, .int (nI (bst (lkR num slip rw1 rm) kd (k + 1)))), (0, .ref mq)]) hx hb dX6_taken_98 hl (k := 1) rfl (n_inc _ 1) (by decide) rfl (fun ls hl => ?_)
              refine lv_goto (tgt := 43) hx hb dX6_taken_101 (by decide) ?_
              exact ih43 (k + 1) _ _ _ (by omega) (by omega) hP hS (lv_sub hl [0, 2, 3, 4] rfl)
            refine lv_iload hx hb dX6_taken_80 (lv_at hl 1 rfl) ?_
            have hPc := hP.sub (ws' := []) [] rfl
            refine r_calli hP hS (va_runS (As := [.int (nI k)]) (rest := []) ⟨hx, hb, hml, hown, hts⟩ (m_X6_ones l D cI cJ k (by omega)) (va_cwS 1 hts gX6_taken_X6_ones rfl rfl rfl (by decide +kernel) ⟨Nat.le_of_ble_eq_true rfl, Nat.le_of_ble_eq_true rfl⟩) ⟨PR.blind, fun U hU hW => ⟨rfl, hKB.warm hW, by rw [hU]; exact hPc⟩⟩ rfl rfl hl.1 rfl (lv_room (Nat.le_of_ble_eq_true rfl)) dX6_taken_82 ⟨Nat.le_of_ble_eq_true rfl, Nat.le_of_ble_eq_true rfl⟩) (fun r11 H locs hw82 hP hS => ?_)
            have hw82 : r11 = nI (on k) := hw82
            subst hw82
            refine lv_iload_n hx hb dX6_taken_85 rfl (lv_at hl 3 rfl) ?_
            have hPc := hP.sub (ws' := []) [] rfl
            refine r_calli hP hS (va_runS (As := [.int (nI (bst (lkR num slip rw1 rm) kd k))]) (rest := [.int (nI (on k))]) ⟨hx, hb, hml, hown, hts⟩ (m_X6_ones l D cI cJ (bst (lkR num slip rw1 rm) kd k) (by omega)) (va_cwS 1 hts gX6_taken_X6_ones rfl rfl rfl (by decide +kernel) ⟨Nat.le_of_ble_eq_true rfl, Nat.le_of_ble_eq_true rfl⟩) ⟨PR.blind, fun U hU hW => ⟨rfl, hKB.warm hW, by rw [hU]; exact hPc⟩⟩ rfl rfl hl.1 rfl (lv_room (Nat.le_of_ble_eq_true rfl)) dX6_taken_86 ⟨Nat.le_of_ble_eq_true rfl, Nat.le_of_ble_eq_true rfl⟩) (fun r12 H locs hw86 hP hS => ?_)
            have hw86 : r12 = nI (on (bst (lkR num slip rw1 rm) kd k)) := hw86
            subst hw86
            refine r_icmp_ge (a := on k) (b := on (bst (lkR num slip rw1 rm) kd k)) (tgt := 98) hx hb dX6_taken_89 (by decide) (on_lt _) (on_lt _)  (fun c89 => ?_) (fun c89 => ?_)
            · skip
              have hl := lv_ch hl 3 (v2 := .int (nI (bst (lkR num slip rw1 rm) kd (k + 1)))) (l2 := [(5, .long (lN (lkR num slip rw1 rm k))), (4, .int (nI k)), (2, .long (lN (lkR num slip rw1 rm (bst (lkR num slip rw1 rm) kd k)))), (1, .int (nI (bst (lkR num slip rw1 rm) kd (k + 1)))), (0, .ref mq)]) rfl (congrArg Value.int (congrArg nI (tk_step (lk := lkR num slip rw1 rm) (kd := kd) (k := k) hlb1 hlb2 (by first | exact Or.inr ⟨rfl, c61, Or.inl c68⟩ | exact Or.inr ⟨rfl, c61, Or.inr (Or.inl c77)⟩ | exact Or.inr ⟨rfl, c61, Or.inr (Or.inr (Nat.not_lt.mpr c89))⟩)))) rfl
              have hl := lv_ch hl 2 (v2 := .long (lN (lkR num slip rw1 rm (bst (lkR num slip rw1 rm) kd (k + 1))))) (l2 := [(5, .long (lN (lkR num slip rw1 rm k))), (4, .int (nI k)), (2, .long (lN (lkR num slip rw1 rm (bst (lkR num slip rw1 rm) kd (k + 1))))), (1, .int (nI (bst (lkR num slip rw1 rm) kd (k + 1)))), (0, .ref mq)]) rfl (congrArg Value.long (congrArg lN (tk_step2 (lk := lkR num slip rw1 rm) (kd := kd) (k := k) (x := 0) hlb1 hlb2 (by first | exact Or.inr ⟨rfl, c61, Or.inl c68⟩ | exact Or.inr ⟨rfl, c61, Or.inr (Or.inl c77)⟩ | exact Or.inr ⟨rfl, c61, Or.inr (Or.inr (Nat.not_lt.mpr c89))⟩)))) rfl
              refine lv_iinc (v := nI (k + 1)) (lv' := [(4, .int (nI (k + 1))), (5, .long (lN (lkR num slip rw1 rm k))), (2, .long (lN (lkR num slip rw1 rm (bst (lkR num slip rw1 rm) kd (k + 1))))), (1, .int (nI (bst (lkR num slip rw1 rm) kd (k + 1)))), (0, .ref mq)]) hx hb dX6_taken_98 hl (k := 1) rfl (n_inc _ 1) (by decide) rfl (fun ls hl => ?_)
              refine lv_goto (tgt := 43) hx hb dX6_taken_101 (by decide) ?_
              exact ih43 (k + 1) _ _ _ (by omega) (by omega) hP hS (lv_sub hl [0, 2, 3, 4] rfl)
            refine lv_lload hx hb dX6_taken_92 (lv_at hl 0 rfl) ?_
            refine lv_lstore_n (lv' := [(2, .long (lN (lkR num slip rw1 rm k))), (5, .long (lN (lkR num slip rw1 rm k))), (4, .int (nI k)), (1, .int (nI (bst (lkR num slip rw1 rm) kd k))), (0, .ref mq)]) hx hb dX6_taken_94 rfl hl (by decide) rfl (fun ls hl => ?_)
            refine lv_iload hx hb dX6_taken_95 (lv_at hl 2 rfl) ?_
            refine lv_istore_n (lv' := [(1, .int (nI k)), (2, .long (lN (lkR num slip rw1 rm k))), (5, .long (lN (lkR num slip rw1 rm k))), (4, .int (nI k)), (0, .ref mq)]) hx hb dX6_taken_97 rfl hl (by decide) rfl (fun ls hl => ?_)
            have hl := lv_ch hl 0 (v2 := .int (nI (bst (lkR num slip rw1 rm) kd (k + 1)))) (l2 := [(1, .int (nI (bst (lkR num slip rw1 rm) kd (k + 1)))), (2, .long (lN (lkR num slip rw1 rm k))), (5, .long (lN (lkR num slip rw1 rm k))), (4, .int (nI k)), (0, .ref mq)]) rfl (congrArg Value.int (congrArg nI (tk_step (lk := lkR num slip rw1 rm) (kd := kd) (k := k) hlb1 hlb2 (by first | exact Or.inl ⟨rfl, Or.inl c61⟩ | exact Or.inl ⟨rfl, Or.inr ⟨c68, c77, c89⟩⟩)))) rfl
            have hl := lv_ch hl 1 (v2 := .long (lN (lkR num slip rw1 rm (bst (lkR num slip rw1 rm) kd (k + 1))))) (l2 := [(1, .int (nI (bst (lkR num slip rw1 rm) kd (k + 1)))), (2, .long (lN (lkR num slip rw1 rm (bst (lkR num slip rw1 rm) kd (k + 1))))), (5, .long (lN (lkR num slip rw1 rm k))), (4, .int (nI k)), (0, .ref mq)]) rfl (congrArg Value.long (congrArg lN (tk_step2 (lk := lkR num slip rw1 rm) (kd := kd) (k := k) (x := 0) hlb1 hlb2 (by first | exact Or.inl ⟨rfl, Or.inl c61⟩ | exact Or.inl ⟨rfl, Or.inr ⟨c68, c77, c89⟩⟩)))) rfl
            refine lv_iinc (v := nI (k + 1)) (lv' := [(4, .int (nI (k + 1))), (1, .int (nI (bst (lkR num slip rw1 rm) kd (k + 1)))), (2, .long (lN (lkR num slip rw1 rm (bst (lkR num slip rw1 rm) kd (k + 1))))), (5, .long (lN (lkR num slip rw1 rm k))), (0, .ref mq)]) hx hb dX6_taken_98 hl (k := 3) rfl (n_inc _ 1) (by decide) rfl (fun ls hl => ?_)
            refine lv_goto (tgt := 43) hx hb dX6_taken_101 (by decide) ?_
            exact ih43 (k + 1) _ _ _ (by omega) (by omega) hP hS (lv_sub hl [0, 2, 1, 4] rfl)
        exact L43 (8 - 1 + 1) 1 _ _ _ (Nat.lt_succ_self _) (by omega) hP hS hl
      refine lv_aload_n hx hb dX6_taken_16 rfl (lv_at hl 1 rfl) ?_
      refine lv_iload_n hx hb dX6_taken_17 rfl (lv_at hl 0 rfl) ?_
      have hPc := hP.sub (ws' := [(mq, .inr (6, [.ref mw, .int (nI slip), .int (nI h), .int (nI kd), .ref ms, .int (nI cnt), .ref ml, .int (nI nl), .ref mh, .int (nI hn), .ref mr, .int (nI rm), .ref mst, .long (lN lo), .ref mn, .ref mth, .long (lN lon), .ref mld, .ref mpk, .ref mcm])), (mr, .inl (cI, 6, .inl (nF rw1)))]) [0, 2] rfl
      refine r_calli hP hS (va_runV (As := [.int (nI k)]) (rest := []) ⟨hx, hb, hml, hown, hts⟩ (m_X6_hasAll l D cI cJ mq mw slip h kd ms cnt ml nl mh hn mr rm mst lo mn mth lon mld mpk mcm rw1 k (by omega) (by assumption) (by assumption)) (cwV 1 hts gX6_taken_X6_hasAll rfl rfl rfl (by decide +kernel) ⟨Nat.le_of_ble_eq_true rfl, Nat.le_of_ble_eq_true rfl⟩) ⟨PR.blind, va_recv hKB.1 hP (ci := 6) (q0 := 0) rfl rfl, fun U hU hW => ⟨rfl, hKB.warm hW, by rw [hU]; exact hPc⟩⟩ rfl rfl hl.1 rfl (lv_room (Nat.le_of_ble_eq_true rfl)) dX6_taken_18 ⟨Nat.le_of_ble_eq_true rfl, Nat.le_of_ble_eq_true rfl⟩) (fun r13 H locs hw18 hP hS => ?_)
      have hw18 : r13 = bI (alM rw1 rm k) := hw18
      subst hw18
      refine r_bif_eq (b := alM rw1 rm k) (tgt := 26) hx hb dX6_taken_21 (by decide) (fun c21 => ?_) (fun c21 => ?_)
      · skip
        refine lv_iinc (v := nI (k + 1)) (lv' := [(1, .int (nI (k + 1))), (0, .ref mq)]) hx hb dX6_taken_26 hl (k := 0) rfl (n_inc _ 1) (by decide) rfl (fun ls hl => ?_)
        refine lv_goto (tgt := 10) hx hb dX6_taken_29 (by decide) ?_
        exact ih10 (k + 1) _ _ _ (by omega) (by omega) (nh_s hno c21) hP hS hl
      refine lv_iload_n hx hb dX6_taken_24 rfl (lv_at hl 0 rfl) ?_
      exact r_iret hx hb hr hlk hQ hS (by rw [tkM_eq, tk_lazy c5 c13 hno c21]) dX6_taken_25
  exact L10 (8 - 0 + 1) 0 _ _ _ (Nat.lt_succ_self _) (by omega) (fun j hj => absurd hj (Nat.not_lt_zero j)) hP hS hl

set_option maxHeartbeats 4000000 in
set_option maxRecDepth 100000 in
theorem m_X6_takes (l : Launch) (D : va_G) (cI cJ : ClassId) (sz : Nat) (mq : Nat) (mw : Nat) (slip : Nat) (h : Nat) (kd : Nat) (ms : Nat) (cnt : Nat) (ml : Nat) (nl : Nat) (mh : Nat) (hn : Nat) (mr : Nat) (rm : Nat) (mst : Nat) (lo : Nat) (mn : Nat) (mth : Nat) (lon : Nat) (mld : Nat) (mpk : Nat) (mcm : Nat) (lg : Nat → Nat) (num : Nat → Nat) (hs : Nat → Nat) (rw1 : Nat → Nat) (hnl7 : nl ≤ 7) (hlg : okL lg nl) (hbf : ∀ t, t < 8 → bfM lg t nl 0 = num t) (hsl : slip ≤ 12) (hnum : ∀ j, j < 8 → num j < 10) (hn6 : hn ≤ 6) (hh6 : ∀ j, j < 6 → hs j < 6) (hkd : kd < 3) : Met l yX6_takes wsX6_takes ({ frames := 3, cells := 0, slots := 0, locals := 75 }) (PX D cI cJ [(mq, .inr (6, [.ref mw, .int (nI slip), .int (nI h), .int (nI kd), .ref ms, .int (nI cnt), .ref ml, .int (nI nl), .ref mh, .int (nI hn), .ref mr, .int (nI rm), .ref mst, .long (lN lo), .ref mn, .ref mth, .long (lN lon), .ref mld, .ref mpk, .ref mcm])), (ml, .inl (cI, 28, .inl (nF lg))), (mh, .inl (cI, 6, .inl (nF hs))), (mr, .inl (cI, 6, .inl (nF rw1)))] sz [.ref mq]) (QWi D (S := Unit) [(mq, .inr (6, [.ref mw, .int (nI slip), .int (nI h), .int (nI kd), .ref ms, .int (nI cnt), .ref ml, .int (nI nl), .ref mh, .int (nI hn), .ref mr, .int (nI rm), .ref mst, .long (lN lo), .ref mn, .ref mth, .long (lN lon), .ref mld, .ref mpk, .ref mcm])), (ml, .inl (cI, 28, .inl (nF lg))), (mh, .inl (cI, 6, .inl (nF hs))), (mr, .inl (cI, 6, .inl (nF rw1)))] sz (fun r _ => r = nI (tkM num slip kd hs hn)) (fun _ => [(mq, .inr (6, [.ref mw, .int (nI slip), .int (nI h), .int (nI kd), .ref ms, .int (nI cnt), .ref ml, .int (nI nl), .ref mh, .int (nI hn), .ref mr, .int (nI hn), .ref mst, .long (lN lo), .ref mn, .ref mth, .long (lN lon), .ref mld, .ref mpk, .ref mcm])), (ml, .inl (cI, 28, .inl (nF lg))), (mh, .inl (cI, 6, .inl (nF hs))), (mr, .inl (cI, 6, .inl (nF hs)))])) 0 0 (va_A [(mq, .inr (6, [.ref mw, .int (nI slip), .int (nI h), .int (nI kd), .ref ms, .int (nI cnt), .ref ml, .int (nI nl), .ref mh, .int (nI hn), .ref mr, .int (nI rm), .ref mst, .long (lN lo), .ref mn, .ref mth, .long (lN lon), .ref mld, .ref mpk, .ref mcm])), (ml, .inl (cI, 28, .inl (nF lg))), (mh, .inl (cI, 6, .inl (nF hs))), (mr, .inl (cI, 6, .inl (nF rw1)))] sz) := by
  refine met_X (cc := cX6_takes) (maxL := 1) (ret := (some .int)) (by decide) rfl (Nat.le_of_ble_eq_true rfl) ?_
  intro p e s m args below meth c Q ls A hQ hAe hAt hKB hP hD hA hl
  obtain ⟨hx, hb, hr, hml, hlk, hts, hown, hnm⟩ := hAt
  have hown : s.vm.findClass RX6 = some m.cls := hown
  have hS : va_S A s.heap s.heap [] := va_S.rf
  have hl : lv_has ls 1 [(0, .ref mq)] := hl
  refine lv_aload_n hx hb dX6_takes_0 rfl (lv_at hl 0 rfl) ?_
  have hPc := hP.sub (ws' := [(mq, .inr (6, [.ref mw, .int (nI slip), .int (nI h), .int (nI kd), .ref ms, .int (nI cnt), .ref ml, .int (nI nl), .ref mh, .int (nI hn), .ref mr, .int (nI rm), .ref mst, .long (lN lo), .ref mn, .ref mth, .long (lN lon), .ref mld, .ref mpk, .ref mcm])), (mh, .inl (cI, 6, .inl (nF hs))), (mr, .inl (cI, 6, .inl (nF rw1)))]) [0, 2, 3] rfl
  have hDc := hD.sub (ws' := [(mq, .inr (6, [.ref mw, .int (nI slip), .int (nI h), .int (nI kd), .ref ms, .int (nI cnt), .ref ml, .int (nI nl), .ref mh, .int (nI hn), .ref mr, .int (nI rm), .ref mst, .long (lN lo), .ref mn, .ref mth, .long (lN lon), .ref mld, .ref mpk, .ref mcm])), (mh, .inl (cI, 6, .inl (nF hs))), (mr, .inl (cI, 6, .inl (nF rw1)))]) [0, 2, 3] (by decide) rfl
  have hFc := va_free (wc := [(mq, .inr (6, [.ref mw, .int (nI slip), .int (nI h), .int (nI kd), .ref ms, .int (nI cnt), .ref ml, .int (nI nl), .ref mh, .int (nI hn), .ref mr, .int (nI rm), .ref mst, .long (lN lo), .ref mn, .ref mth, .long (lN lon), .ref mld, .ref mpk, .ref mcm])), (mh, .inl (cI, 6, .inl (nF hs))), (mr, .inl (cI, 6, .inl (nF rw1)))]) hD hS hA [0, 2, 3] rfl
  refine w_callv (wc := [(mq, .inr (6, [.ref mw, .int (nI slip), .int (nI h), .int (nI kd), .ref ms, .int (nI cnt), .ref ml, .int (nI nl), .ref mh, .int (nI hn), .ref mr, .int (nI rm), .ref mst, .long (lN lo), .ref mn, .ref mth, .long (lN lon), .ref mld, .ref mpk, .ref mcm])), (mh, .inl (cI, 6, .inl (nF hs))), (mr, .inl (cI, 6, .inl (nF rw1)))]) (wr := [(ml, .inl (cI, 28, .inl (nF lg)))]) hP hD hS [0, 2, 3] [1] rfl rfl (by decide) (by decide) hFc (va_runV (As := []) (rest := []) ⟨hx, hb, hml, hown, hts⟩ (m_X6_layHeard l D cI cJ _ mq mw slip h kd ms cnt ml nl mh hn mr rm mst lo mn mth lon mld mpk mcm hs rw1) (cwV 0 hts gX6_takes_X6_layHeard rfl rfl rfl (by decide +kernel) ⟨Nat.le_of_ble_eq_true rfl, Nat.le_of_ble_eq_true rfl⟩) ⟨PX.blind, va_recv hKB.1 hP (ci := 6) (q0 := 0) rfl rfl, fun U hU hW => ⟨rfl, by rw [hU], hKB.warm hW, by rw [hU]; exact hPc, hDc.weaken (fun _ _ _ _ => trivial)⟩⟩ rfl rfl hl.1 rfl (lv_room (Nat.le_of_ble_eq_true rfl)) dX6_takes_1 ⟨Nat.le_of_ble_eq_true rfl, Nat.le_of_ble_eq_true rfl⟩) (fun u1 H locs hw1 hP hD hS => ?_)
  have hP : va_P D vwCl [(ml, .inl (cI, 28, .inl (nF lg))), (mq, .inr (6, [.ref mw, .int (nI slip), .int (nI h), .int (nI kd), .ref ms, .int (nI cnt), .ref ml, .int (nI nl), .ref mh, .int (nI hn), .ref mr, .int (nI hn), .ref mst, .long (lN lo), .ref mn, .ref mth, .long (lN lon), .ref mld, .ref mpk, .ref mcm])), (mh, .inl (cI, 6, .inl (nF hs))), (mr, .inl (cI, 6, .inl (nF hs)))] _ := hP
  have hD : va_D A [(ml, .inl (cI, 28, .inl (nF lg))), (mq, .inr (6, [.ref mw, .int (nI slip), .int (nI h), .int (nI kd), .ref ms, .int (nI cnt), .ref ml, .int (nI nl), .ref mh, .int (nI hn), .ref mr, .int (nI hn), .ref mst, .long (lN lo), .ref mn, .ref mth, .long (lN lon), .ref mld, .ref mpk, .ref mcm])), (mh, .inl (cI, 6, .inl (nF hs))), (mr, .inl (cI, 6, .inl (nF hs)))] := hD
  refine lv_aload_n hx hb dX6_takes_4 rfl (lv_at hl 0 rfl) ?_
  have hPc := hP.sub (ws' := [(mq, .inr (6, [.ref mw, .int (nI slip), .int (nI h), .int (nI kd), .ref ms, .int (nI cnt), .ref ml, .int (nI nl), .ref mh, .int (nI hn), .ref mr, .int (nI hn), .ref mst, .long (lN lo), .ref mn, .ref mth, .long (lN lon), .ref mld, .ref mpk, .ref mcm])), (ml, .inl (cI, 28, .inl (nF lg))), (mr, .inl (cI, 6, .inl (nF hs)))]) [1, 0, 3] rfl
  refine r_calli hP hS (va_runV (As := []) (rest := []) ⟨hx, hb, hml, hown, hts⟩ (m_X6_taken l D cI cJ mq mw slip h kd ms cnt ml nl mh hn mr hn mst lo mn mth lon mld mpk mcm lg num hs (by assumption) (by assumption) (by assumption) (by assumption) (by assumption) (hn6) (hh6) (by assumption)) (cwV 0 hts gX6_takes_X6_taken rfl rfl rfl (by decide +kernel) ⟨Nat.le_of_ble_eq_true rfl, Nat.le_of_ble_eq_true rfl⟩) ⟨PR.blind, va_recv hKB.1 hP (ci := 6) (q0 := 1) rfl rfl, fun U hU hW => ⟨rfl, hKB.warm hW, by rw [hU]; exact hPc⟩⟩ rfl rfl hl.1 rfl (lv_room (Nat.le_of_ble_eq_true rfl)) dX6_takes_5 ⟨Nat.le_of_ble_eq_true rfl, Nat.le_of_ble_eq_true rfl⟩) (fun r2 H locs hw5 hP hS => ?_)
  have hw5 : r2 = nI (tkM num slip kd hs hn) := hw5
  subst hw5
  exact w_iret hx hb hr hlk hQ hAe () (hP.sub [1, 0, 2, 3] rfl) (hD.sub [1, 0, 2, 3] (by decide) rfl) hS (rfl) dX6_takes_8


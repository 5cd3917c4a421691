set_option maxHeartbeats 4000000 in
set_option maxRecDepth 100000 in
theorem m_X0_init (l : Launch) (D : va_G) (cI cJ : ClassId) (sz : Nat) (q : Nat) : Met l yX0_init wsX0_init ({ frames := 1, cells := 1, slots := 6, locals := 12 }) (PX D cI cJ [(q, .inr (0, [.null, .int 0]))] sz [.ref q]) (QWv D (S := Nat) [(q, .inr (0, [.null, .int 0]))] sz (fun _ => True) (fun qt => [(q, .inr (0, [.ref qt, .int (nI 0)])), (qt, .inl (cI, 6, .inl (nF (fun _ => 0))))])) 1 6 (va_A [(q, .inr (0, [.null, .int 0]))] sz) := by
  refine met_X (cc := cX0_init) (maxL := 1) (ret := none) (by decide) rfl (Nat.le_of_ble_eq_true rfl) ?_
  intro p e s m args below meth c Q ls A hQ hAe hAt hKB hP hD hA hl
  obtain ⟨hx, hb, hr, hml, hlk, hts, hown, hnm⟩ := hAt
  have hown : s.vm.findClass RX0 = some m.cls := hown
  have hS : va_S A s.heap s.heap [] := va_S.rf
  have hl : lv_has ls 1 [(0, .ref q)] := hl
  have oi1 := hts (.methodLink RX0 3 objectInit) (by decide +kernel)
  have oi2 := hts (.instanceMethod objectInit) (by decide +kernel)
  have oi3 := hts (.code objectInit ⟨#[0xb1]⟩ 1 none) (by decide +kernel)
  have acI := hts (.arrayClass .int) (by decide +kernel)
  have hiX0 : ∀ w ∈ u_ws RX0 TX0 2, w ∈ wsX0_init := by decide +kernel
  have fl9 := hts (.fieldLink RX0 9 "TaughtTongues$Counts" "times" "[I") (by decide +kernel)
  have fl15 := hts (.fieldLink RX0 15 "TaughtTongues$Counts" "all" "I") (by decide +kernel)
  refine lv_aload_n hx hb dX0_init_0 rfl (lv_at hl 0 rfl) ?_
  refine W.objInit hx hb hown oi1 oi2 oi3 rfl (by rw [hml]; exact hl.1) rfl dX0_init_1 (Nat.le_of_ble_eq_true rfl) (Nat.le_of_ble_eq_true rfl) ?_
  refine W.eq (g2 := F0 m 4 ls []) rfl ?_
  refine lv_aload_n hx hb dX0_init_4 rfl (lv_at hl 0 rfl) ?_
  refine lv_bipush (v := nI (6)) hx hb dX0_init_5 (by decide) ?_
  refine r_newI (n := 6) hx hb acI hKB.1 hP hD hS hA (by decide) (by decide) (Nat.le_of_ble_eq_true rfl) (Nat.le_of_ble_eq_true rfl) dX0_init_7 (fun qt H hP hD hS => ?_)
  have hP : va_P D vwCl [(q, .inr (0, [.null, .int 0])), (qt, .inl (cI, 6, .inl (fun _ => 0)))] _ := hP
  have hD : va_D A [(q, .inr (0, [.null, .int 0])), (qt, .inl (cI, 6, .inl (fun _ => 0)))] := hD
  refine W.widen (k := 1) (n := 6) (by decide) (by decide) ?_
  refine va_putF (D := D) (ci := 0) (v := .ref qt) (ty := .array .int) (C := RX0) (T := TX0) (N := 2) hx hb hts hiX0 tyX0 tyX0_ok nmX0 hown hKB.1 hP hD hS 0 rfl rfl 0 (by decide) fl9 (fun _ h9 => h9) rfl hnm rfl (by decide +kernel) rfl rfl (Nat.le_of_ble_eq_true rfl) dX0_init_9 (fun H locs hP hD hS => ?_)
  have hP : va_P D vwCl [(q, .inr (0, [.ref qt, .int 0])), (qt, .inl (cI, 6, .inl (fun _ => 0)))] _ := hP
  have hD : va_D A [(q, .inr (0, [.ref qt, .int 0])), (qt, .inl (cI, 6, .inl (fun _ => 0)))] := hD
  refine lv_aload_n hx hb dX0_init_12 rfl (lv_at hl 0 rfl) ?_
  refine lv_iconst (v := nI (0)) hx hb dX0_init_13 (by decide) ?_
  refine va_put (D := D) (ci := 0) (v := .int (nI 0)) (ty := .int) (C := RX0) (T := TX0) (N := 2) hx hb hts hiX0 tyX0 tyX0_ok nmX0 hown hKB.1 hP hD hS 0 rfl rfl 1 (by decide) fl15 (fun _ h9 => h9) rfl (by decide +kernel) rfl rfl (Nat.le_of_ble_eq_true rfl) dX0_init_14 (fun H locs hP hD hS => ?_)
  have hP : va_P D vwCl [(q, .inr (0, [.ref qt, .int (nI 0)])), (qt, .inl (cI, 6, .inl (fun _ => 0)))] _ := hP
  have hD : va_D A [(q, .inr (0, [.ref qt, .int (nI 0)])), (qt, .inl (cI, 6, .inl (fun _ => 0)))] := hD
  exact w_vret hx hb hr hlk hQ hAe qt hP hD hS (trivial) dX0_init_17

set_option maxHeartbeats 4000000 in
set_option maxRecDepth 100000 in
theorem m_X0_add (l : Launch) (D : va_G) (cI cJ : ClassId) (sz : Nat) (q : Nat) (qt : Nat) (al : Nat) (tn : Nat → Nat) (sy : Nat) (hsy : sy < 6) : Met l yX0_add wsX0_add ({ frames := 0, cells := 0, slots := 0, locals := 0 }) (PX D cI cJ [(q, .inr (0, [.ref qt, .int (nI al)])), (qt, .inl (cI, 6, .inl (nF tn)))] sz [.ref q, .int (nI sy)]) (QWv D (S := Unit) [(q, .inr (0, [.ref qt, .int (nI al)])), (qt, .inl (cI, 6, .inl (nF tn)))] sz (fun _ => True) (fun _ => [(q, .inr (0, [.ref qt, .int (nI (al + 1))])), (qt, .inl (cI, 6, .inl (nF (nu tn sy (tn sy + 1)))))])) 0 0 (va_A [(q, .inr (0, [.ref qt, .int (nI al)])), (qt, .inl (cI, 6, .inl (nF tn)))] sz) := by
  refine met_X (cc := cX0_add) (maxL := 2) (ret := none) (by decide) rfl (Nat.le_of_ble_eq_true rfl) ?_
  intro p e s m args below meth c Q ls A hQ hAe hAt hKB hP hD hA hl
  obtain ⟨hx, hb, hr, hml, hlk, hts, hown, hnm⟩ := hAt
  have hown : s.vm.findClass RX0 = some m.cls := hown
  have hS : va_S A s.heap s.heap [] := va_S.rf
  have hl : lv_has ls 2 [(0, .ref q), (1, .int (nI sy))] := hl
  have hiX0 : ∀ w ∈ u_ws RX0 TX0 2, w ∈ wsX0_add := by decide +kernel
  have fl9 := hts (.fieldLink RX0 9 "TaughtTongues$Counts" "times" "[I") (by decide +kernel)
  have fl15 := hts (.fieldLink RX0 15 "TaughtTongues$Counts" "all" "I") (by decide +kernel)
  refine lv_aload_n hx hb dX0_add_0 rfl (lv_at hl 0 rfl) ?_
  refine va_get (D := D) (ci := 0) (v := .ref qt) (C := RX0) (T := TX0) (N := 2) hx hb hts hiX0 hown hKB.1 hP 0 rfl rfl 0 (by decide) fl9 (fun _ h9 => h9) rfl dX0_add_1 ?_
  refine lv_iload_n hx hb dX0_add_4 rfl (lv_at hl 1 rfl) ?_
  refine lv_dup2_11 hx hb dX0_add_5 rfl rfl ?_
  refine r_iald (i := sy) (v := nI (tn sy)) hx hb hKB.1 hP 1 0 rfl rfl (by omega) (by decide) (rfl) dX0_add_6 ?_
  refine lv_iconst (v := nI (1)) hx hb dX0_add_7 (by decide) ?_
  refine r_iadd (a := tn sy) (b := 1) hx hb dX0_add_8  ?_
  refine r_iastN (i := sy) hx hb hKB.1 hP hD hS 1 0 rfl rfl (by omega) (by decide) dX0_add_9 (fun H locs hP hD hS => ?_)
  have hP : va_P D vwCl [(q, .inr (0, [.ref qt, .int (nI al)])), (qt, .inl (cI, 6, .inl (nF (nu tn sy ((tn sy) + 1)))))] _ := hP
  have hD : va_D A [(q, .inr (0, [.ref qt, .int (nI al)])), (qt, .inl (cI, 6, .inl (nF (nu tn sy ((tn sy) + 1)))))] := hD
  refine lv_aload_n hx hb dX0_add_10 rfl (lv_at hl 0 rfl) ?_
  refine lv_dup hx hb dX0_add_11 rfl ?_
  refine va_get (D := D) (ci := 0) (v := .int (nI al)) (C := RX0) (T := TX0) (N := 2) hx hb hts hiX0 hown hKB.1 hP 0 rfl rfl 1 (by decide) fl15 (fun _ h9 => h9) rfl dX0_add_12 ?_
  refine lv_iconst (v := nI (1)) hx hb dX0_add_15 (by decide) ?_
  refine r_iadd (a := al) (b := 1) hx hb dX0_add_16  ?_
  refine va_put (D := D) (ci := 0) (v := .int (nI (al + 1))) (ty := .int) (C := RX0) (T := TX0) (N := 2) hx hb hts hiX0 tyX0 tyX0_ok nmX0 hown hKB.1 hP hD hS 0 rfl rfl 1 (by decide) fl15 (fun _ h9 => h9) rfl (by decide +kernel) rfl rfl (Nat.le_of_ble_eq_true rfl) dX0_add_17 (fun H locs hP hD hS => ?_)
  have hP : va_P D vwCl [(q, .inr (0, [.ref qt, .int (nI (al + 1))])), (qt, .inl (cI, 6, .inl (nF (nu tn sy ((tn sy) + 1)))))] _ := hP
  have hD : va_D A [(q, .inr (0, [.ref qt, .int (nI (al + 1))])), (qt, .inl (cI, 6, .inl (nF (nu tn sy ((tn sy) + 1)))))] := hD
  exact w_vret hx hb hr hlk hQ hAe () hP hD hS (trivial) dX0_add_20

set_option maxHeartbeats 4000000 in
set_option maxRecDepth 100000 in
theorem m_X0_clear (l : Launch) (D : va_G) (cI cJ : ClassId) (sz : Nat) (q : Nat) (qt : Nat) (al : Nat) (tn : Nat → Nat) : Met l yX0_clear wsX0_clear ({ frames := 1, cells := 0, slots := 0, locals := 23 }) (PX D cI cJ [(q, .inr (0, [.ref qt, .int (nI al)])), (qt, .inl (cI, 6, .inl (nF tn)))] sz [.ref q]) (QWv D (S := Unit) [(q, .inr (0, [.ref qt, .int (nI al)])), (qt, .inl (cI, 6, .inl (nF tn)))] sz (fun _ => True) (fun _ => [(q, .inr (0, [.ref qt, .int (nI 0)])), (qt, .inl (cI, 6, .inl (nF (nfl tn 0 6))))])) 0 0 (va_A [(q, .inr (0, [.ref qt, .int (nI al)])), (qt, .inl (cI, 6, .inl (nF tn)))] sz) := by
  refine met_X (cc := cX0_clear) (maxL := 1) (ret := none) (by decide) rfl (Nat.le_of_ble_eq_true rfl) ?_
  intro p e s m args below meth c Q ls A hQ hAe hAt hKB hP hD hA hl
  obtain ⟨hx, hb, hr, hml, hlk, hts, hown, hnm⟩ := hAt
  have hown : s.vm.findClass RX0 = some m.cls := hown
  have hS : va_S A s.heap s.heap [] := va_S.rf
  have hl : lv_has ls 1 [(0, .ref q)] := hl
  have hiX0 : ∀ w ∈ u_ws RX0 TX0 2, w ∈ wsX0_clear := by decide +kernel
  have fl9 := hts (.fieldLink RX0 9 "TaughtTongues$Counts" "times" "[I") (by decide +kernel)
  have fl15 := hts (.fieldLink RX0 15 "TaughtTongues$Counts" "all" "I") (by decide +kernel)
  refine lv_aload_n hx hb dX0_clear_0 rfl (lv_at hl 0 rfl) ?_
  refine va_get (D := D) (ci := 0) (v := .ref qt) (C := RX0) (T := TX0) (N := 2) hx hb hts hiX0 hown hKB.1 hP 0 rfl rfl 0 (by decide) fl9 (fun _ h9 => h9) rfl dX0_clear_1 ?_
  refine lv_iconst (v := nI (0)) hx hb dX0_clear_4 (by decide) ?_
  have hPc := hP.sub (ws' := [(qt, .inl (cI, 6, .inl (nF tn)))]) [1] rfl
  have hDc := hD.sub (ws' := [(qt, .inl (cI, 6, .inl (nF tn)))]) [1] (by decide) rfl
  have hFc := va_free (wc := [(qt, .inl (cI, 6, .inl (nF tn)))]) hD hS hA [1] rfl
  refine w_callv (wc := [(qt, .inl (cI, 6, .inl (nF tn)))]) (wr := [(q, .inr (0, [.ref qt, .int (nI al)]))]) hP hD hS [1] [0] rfl rfl (by decide) (by decide) hFc (va_runS (As := [.ref qt, .int (nI 0)]) (rest := []) ⟨hx, hb, hml, hown, hts⟩ (m_J7_fill_53178 l D cI cJ _ qt 6 (nF tn) (nI (0)) (by decide)) (va_cwS 2 hts gX0_clear_J7_fill_53178 rfl rfl rfl (by decide +kernel) ⟨Nat.le_of_ble_eq_true rfl, Nat.le_of_ble_eq_true rfl⟩) ⟨PX.blind, fun U hU hW => ⟨rfl, by rw [hU], hKB.warm hW, by rw [hU]; exact hPc, hDc.weaken (fun _ _ _ _ => trivial)⟩⟩ rfl rfl hl.1 rfl (lv_room (Nat.le_of_ble_eq_true rfl)) dX0_clear_5 ⟨Nat.le_of_ble_eq_true rfl, Nat.le_of_ble_eq_true rfl⟩) (fun u5 H locs hw5 hP hD hS => ?_)
  have hP : va_P D vwCl [(q, .inr (0, [.ref qt, .int (nI al)])), (qt, .inl (cI, 6, .inl (fillN (nF tn) (nI (0)) 6)))] _ := hP
  have hD : va_D A [(q, .inr (0, [.ref qt, .int (nI al)])), (qt, .inl (cI, 6, .inl (fillN (nF tn) (nI (0)) 6)))] := hD
  have hw2 : fillN (nF tn) (nI (0)) 6 = nF (nfl tn 0 6) := nF_fill tn 0 6
  rw [hw2] at hP hD
  refine lv_aload_n hx hb dX0_clear_8 rfl (lv_at hl 0 rfl) ?_
  refine lv_iconst (v := nI (0)) hx hb dX0_clear_9 (by decide) ?_
  refine va_put (D := D) (ci := 0) (v := .int (nI 0)) (ty := .int) (C := RX0) (T := TX0) (N := 2) hx hb hts hiX0 tyX0 tyX0_ok nmX0 hown hKB.1 hP hD hS 0 rfl rfl 1 (by decide) fl15 (fun _ h9 => h9) rfl (by decide +kernel) rfl rfl (Nat.le_of_ble_eq_true rfl) dX0_clear_10 (fun H locs hP hD hS => ?_)
  have hP : va_P D vwCl [(q, .inr (0, [.ref qt, .int (nI 0)])), (qt, .inl (cI, 6, .inl (nF (nfl tn 0 6))))] _ := hP
  have hD : va_D A [(q, .inr (0, [.ref qt, .int (nI 0)])), (qt, .inl (cI, 6, .inl (nF (nfl tn 0 6))))] := hD
  exact w_vret hx hb hr hlk hQ hAe () hP hD hS (trivial) dX0_clear_13

set_option maxHeartbeats 4000000 in
set_option maxRecDepth 100000 in
theorem m_X0_sharedWith (l : Launch) (D : va_G) (cI cJ : ClassId) (q : Nat) (qt : Nat) (al : Nat) (tn : Nat → Nat) (t : Nat) (ht : t < 8) : Met l yX0_sharedWith wsX0_sharedWith ({ frames := 1, cells := 0, slots := 0, locals := 21 }) (PR D cI cJ [(q, .inr (0, [.ref qt, .int (nI al)])), (qt, .inl (cI, 6, .inl (nF tn)))] [.ref q, .int (nI t)]) (QRi (fun r => r = nI (shw tn t 3))) 0 0 NA := by
  refine met_R (cc := cX0_sharedWith) (maxL := 4) (ret := (some .int)) (by decide) rfl (Nat.le_of_ble_eq_true rfl) ?_
  intro p e s m args below meth c Q ls hQ hAt hKB hP hl
  obtain ⟨hx, hb, hr, hml, hlk, hts, hown, hnm⟩ := hAt
  have hown : s.vm.findClass RX0 = some m.cls := hown
  have hS : va_S NA s.heap s.heap [] := va_S.rf
  have hl : lv_has ls 4 [(0, .ref q), (1, .int (nI t))] := hl
  have hiX0 : ∀ w ∈ u_ws RX0 TX0 2, w ∈ wsX0_sharedWith := by decide +kernel
  have fl9 := hts (.fieldLink RX0 9 "TaughtTongues$Counts" "times" "[I") (by decide +kernel)
  have inX5 := hts (.initialized RX5) (by decide +kernel)
  have st_X5_formOf := hts (.static yX5_formOf) (by decide +kernel)
  refine lv_iconst (v := nI (0)) hx hb dX0_sharedWith_0 (by decide) ?_
  refine lv_istore_n (lv' := [(2, .int (nI 0)), (0, .ref q), (1, .int (nI t))]) hx hb dX0_sharedWith_1 rfl hl (by decide) rfl (fun ls hl => ?_)
  refine lv_iconst (v := nI (0)) hx hb dX0_sharedWith_2 (by decide) ?_
  refine lv_istore_n (lv' := [(3, .int (nI 0)), (2, .int (nI 0)), (0, .ref q), (1, .int (nI t))]) hx hb dX0_sharedWith_3 rfl hl (by decide) rfl (fun ls hl => ?_)
  have L4 : ∀ (n : Nat) (k : Nat) (H : Heap) (locs : List Loc) (ls : Array Slot), 3 - k < n → (k ≤ 3) → va_P D vwCl [(q, .inr (0, [.ref qt, .int (nI al)])), (qt, .inl (cI, 6, .inl (nF tn)))] H → va_S NA s.heap H locs → lv_has ls 4 [(3, .int (nI k)), (2, .int (nI (shw tn t k))), (0, .ref q), (1, .int (nI t))] → W p l e ({ frames := 1, cells := 0, slots := 0, locals := 21 }) s m args below meth c H locs 0 0 Q (F0 m 4 ls []) := by
    intro n
    induction n with
    | zero => intro k H locs ls hm; exact absurd hm (Nat.not_lt_zero _)
    | succ n ih4 =>
      intro k H locs ls hm hk hP hS hl
      refine lv_iload_n hx hb dX0_sharedWith_4 rfl (lv_at hl 0 rfl) ?_
      refine lv_iconst (v := nI (3)) hx hb dX0_sharedWith_5 (by decide) ?_
      refine r_icmp_ge (a := k) (b := 3) (tgt := 32) hx hb dX0_sharedWith_6 (by decide) (by omega) (by omega)  (fun c6 => ?_) (fun c6 => ?_)
      · skip
        obtain rfl : k = 3 := by omega
        refine lv_iload_n hx hb dX0_sharedWith_32 rfl (lv_at hl 1 rfl) ?_
        exact r_iret hx hb hr hlk hQ hS (rfl) dX0_sharedWith_33
      refine lv_iload_n hx hb dX0_sharedWith_9 rfl (lv_at hl 1 rfl) ?_
      refine lv_aload_n hx hb dX0_sharedWith_10 rfl (lv_at hl 2 rfl) ?_
      refine va_get (D := D) (ci := 0) (v := .ref qt) (C := RX0) (T := TX0) (N := 2) hx hb hts hiX0 hown hKB.1 hP 0 rfl rfl 0 (by decide) fl9 (fun _ h9 => h9) rfl dX0_sharedWith_11 ?_
      refine lv_iconst (v := nI (2)) hx hb dX0_sharedWith_14 (by decide) ?_
      refine lv_iload_n hx hb dX0_sharedWith_15 rfl (lv_at hl 0 rfl) ?_
      refine r_imul (a := 2) (b := k) hx hb dX0_sharedWith_16  ?_
      refine lv_iload_n hx hb dX0_sharedWith_17 rfl (lv_at hl 3 rfl) ?_
      refine lv_iload_n hx hb dX0_sharedWith_18 rfl (lv_at hl 0 rfl) ?_
      have hPc := hP.sub (ws' := []) [] rfl
      refine r_calli hP hS (va_runSN (As := [.int (nI t), .int (nI k)]) (rest := [.int (nI (2 * k)), .ref qt, .int (nI (shw tn t k))]) ⟨hx, hb, hml, hown, hts⟩ (m_X5_formOf l D cI cJ t k (by omega) (by omega)) (⟨va_cnB 2 hts gX0_sharedWith_X5_formOf_n25 rfl rfl rfl (hKB.2.m (q := ("TaughtTongues$Counts", 25, yX5_formOf)) 3 rfl) inX5 (by decide +kernel) ⟨Nat.le_of_ble_eq_true rfl, Nat.le_of_ble_eq_true rfl⟩, st_X5_formOf, trivial⟩) ⟨PR.blind, fun U hU hW => ⟨rfl, hKB.warm hW, by rw [hU]; exact hPc⟩⟩ rfl rfl hl.1 rfl (lv_room (Nat.le_of_ble_eq_true rfl)) dX0_sharedWith_19 ⟨Nat.le_of_ble_eq_true rfl, Nat.le_of_ble_eq_true rfl⟩) (fun r1 H locs hw19 hP hS => ?_)
      have hw19 : r1 = nI (fo t k) := hw19
      subst hw19
      refine r_iadd (a := 2 * k) (b := fo t k) hx hb dX0_sharedWith_22  ?_
      refine r_iald (i := (2 * k) + (fo t k)) (v := nI (tn ((2 * k) + (fo t k)))) hx hb hKB.1 hP 1 0 rfl rfl (by have := fo_le t k; omega) (by decide) (rfl) dX0_sharedWith_23 ?_
      refine r_iadd (a := shw tn t k) (b := tn ((2 * k) + (fo t k))) hx hb dX0_sharedWith_24  ?_
      refine lv_istore_n (lv' := [(2, .int (nI ((shw tn t k) + (tn ((2 * k) + (fo t k)))))), (3, .int (nI k)), (0, .ref q), (1, .int (nI t))]) hx hb dX0_sharedWith_25 rfl hl (by decide) rfl (fun ls hl => ?_)
      refine lv_iinc (v := nI (k + 1)) (lv' := [(3, .int (nI (k + 1))), (2, .int (nI ((shw tn t k) + (tn ((2 * k) + (fo t k)))))), (0, .ref q), (1, .int (nI t))]) hx hb dX0_sharedWith_26 hl (k := 1) rfl (n_inc _ 1) (by decide) rfl (fun ls hl => ?_)
      refine lv_goto (tgt := 4) hx hb dX0_sharedWith_29 (by decide) ?_
      exact ih4 (k + 1) _ _ _ (by omega) (by omega) hP hS hl
  exact L4 (3 - 0 + 1) 0 _ _ _ (Nat.lt_succ_self _) (by omega) hP hS hl

set_option maxHeartbeats 4000000 in
set_option maxRecDepth 100000 in
theorem m_X1_init (l : Launch) (D : va_G) (cI cJ : ClassId) (sz : Nat) (lq : Nat) : Met l yX1_init wsX1_init ({ frames := 1, cells := 1, slots := 8, locals := 12 }) (PX D cI cJ [(lq, .inr (1, [.null, .int 0, .int 0]))] sz [.ref lq]) (QWv D (S := Nat) [(lq, .inr (1, [.null, .int 0, .int 0]))] sz (fun _ => True) (fun nq => [(lq, .inr (1, [.ref nq, .int (nI 1), .int (nI 0)])), (nq, .inl (cI, 8, .inl (nF (nu (nu (nu (nu (nu (nu (nu (nu (fun _ => 0) 0 1) 1 1) 2 1) 3 1) 4 1) 5 1) 6 1) 7 1))))])) 1 8 (va_A [(lq, .inr (1, [.null, .int 0, .int 0]))] sz) := by
  refine met_X (cc := cX1_init) (maxL := 1) (ret := none) (by decide) rfl (Nat.le_of_ble_eq_true rfl) ?_
  intro p e s m args below meth c Q ls A hQ hAe hAt hKB hP hD hA hl
  obtain ⟨hx, hb, hr, hml, hlk, hts, hown, hnm⟩ := hAt
  have hown : s.vm.findClass RX1 = some m.cls := hown
  have hS : va_S A s.heap s.heap [] := va_S.rf
  have hl : lv_has ls 1 [(0, .ref lq)] := hl
  have oi1 := hts (.methodLink RX1 3 objectInit) (by decide +kernel)
  have oi2 := hts (.instanceMethod objectInit) (by decide +kernel)
  have oi3 := hts (.code objectInit ⟨#[0xb1]⟩ 1 none) (by decide +kernel)
  have acI := hts (.arrayClass .int) (by decide +kernel)
  have hiX1 : ∀ w ∈ u_ws RX1 TX1 3, w ∈ wsX1_init := by decide +kernel
  have fl9 := hts (.fieldLink RX1 9 "TaughtTongues$Learner" "numbers" "[I") (by decide +kernel)
  have fl15 := hts (.fieldLink RX1 15 "TaughtTongues$Learner" "slip" "I") (by decide +kernel)
  have fl19 := hts (.fieldLink RX1 19 "TaughtTongues$Learner" "kind" "I") (by decide +kernel)
  refine lv_aload_n hx hb dX1_init_0 rfl (lv_at hl 0 rfl) ?_
  refine W.objInit hx hb hown oi1 oi2 oi3 rfl (by rw [hml]; exact hl.1) rfl dX1_init_1 (Nat.le_of_ble_eq_true rfl) (Nat.le_of_ble_eq_true rfl) ?_
  refine W.eq (g2 := F0 m 4 ls []) rfl ?_
  refine lv_aload_n hx hb dX1_init_4 rfl (lv_at hl 0 rfl) ?_
  refine lv_bipush (v := nI (8)) hx hb dX1_init_5 (by decide) ?_
  refine r_newI (n := 8) hx hb acI hKB.1 hP hD hS hA (by decide) (by decide) (Nat.le_of_ble_eq_true rfl) (Nat.le_of_ble_eq_true rfl) dX1_init_7 (fun nq H hP hD hS => ?_)
  have hP : va_P D vwCl [(lq, .inr (1, [.null, .int 0, .int 0])), (nq, .inl (cI, 8, .inl (fun _ => 0)))] _ := hP
  have hD : va_D A [(lq, .inr (1, [.null, .int 0, .int 0])), (nq, .inl (cI, 8, .inl (fun _ => 0)))] := hD
  refine W.widen (k := 1) (n := 8) (by decide) (by decide) ?_
  refine lv_dup hx hb dX1_init_9 rfl ?_
  refine lv_iconst (v := nI (0)) hx hb dX1_init_10 (by decide) ?_
  refine lv_iconst (v := nI (1)) hx hb dX1_init_11 (by decide) ?_
  have hP : va_P D vwCl [(lq, .inr (1, [.null, .int 0, .int 0])), (nq, .inl (cI, 8, .inl (nF (fun _ => 0))))] _ := hP
  have hD : va_D A [(lq, .inr (1, [.null, .int 0, .int 0])), (nq, .inl (cI, 8, .inl (nF (fun _ => 0))))] := hD
  refine r_iastN (i := 0) hx hb hKB.1 hP hD hS 1 0 rfl rfl (by omega) (by decide) dX1_init_12 (fun H locs hP hD hS => ?_)
  have hP : va_P D vwCl [(lq, .inr (1, [.null, .int 0, .int 0])), (nq, .inl (cI, 8, .inl (nF (nu (fun _ => 0) 0 1))))] _ := hP
  have hD : va_D A [(lq, .inr (1, [.null, .int 0, .int 0])), (nq, .inl (cI, 8, .inl (nF (nu (fun _ => 0) 0 1))))] := hD
  refine lv_dup hx hb dX1_init_13 rfl ?_
  refine lv_iconst (v := nI (1)) hx hb dX1_init_14 (by decide) ?_
  refine lv_iconst (v := nI (1)) hx hb dX1_init_15 (by decide) ?_
  refine r_iastN (i := 1) hx hb hKB.1 hP hD hS 1 0 rfl rfl (by omega) (by decide) dX1_init_16 (fun H locs hP hD hS => ?_)
  have hP : va_P D vwCl [(lq, .inr (1, [.null, .int 0, .int 0])), (nq, .inl (cI, 8, .inl (nF (nu (nu (fun _ => 0) 0 1) 1 1))))] _ := hP
  have hD : va_D A [(lq, .inr (1, [.null, .int 0, .int 0])), (nq, .inl (cI, 8, .inl (nF (nu (nu (fun _ => 0) 0 1) 1 1))))] := hD
  refine lv_dup hx hb dX1_init_17 rfl ?_
  refine lv_iconst (v := nI (2)) hx hb dX1_init_18 (by decide) ?_
  refine lv_iconst (v := nI (1)) hx hb dX1_init_19 (by decide) ?_
  refine r_iastN (i := 2) hx hb hKB.1 hP hD hS 1 0 rfl rfl (by omega) (by decide) dX1_init_20 (fun H locs hP hD hS => ?_)
  have hP : va_P D vwCl [(lq, .inr (1, [.null, .int 0, .int 0])), (nq, .inl (cI, 8, .inl (nF (nu (nu (nu (fun _ => 0) 0 1) 1 1) 2 1))))] _ := hP
  have hD : va_D A [(lq, .inr (1, [.null, .int 0, .int 0])), (nq, .inl (cI, 8, .inl (nF (nu (nu (nu (fun _ => 0) 0 1) 1 1) 2 1))))] := hD
  refine lv_dup hx hb dX1_init_21 rfl ?_
  refine lv_iconst (v := nI (3)) hx hb dX1_init_22 (by decide) ?_
  refine lv_iconst (v := nI (1)) hx hb dX1_init_23 (by decide) ?_
  refine r_iastN (i := 3) hx hb hKB.1 hP hD hS 1 0 rfl rfl (by omega) (by decide) dX1_init_24 (fun H locs hP hD hS => ?_)
  have hP : va_P D vwCl [(lq, .inr (1, [.null, .int 0, .int 0])), (nq, .inl (cI, 8, .inl (nF (nu (nu (nu (nu (fun _ => 0) 0 1) 1 1) 2 1) 3 1))))] _ := hP
  have hD : va_D A [(lq, .inr (1, [.null, .int 0, .int 0])), (nq, .inl (cI, 8, .inl (nF (nu (nu (nu (nu (fun _ => 0) 0 1) 1 1) 2 1) 3 1))))] := hD
  refine lv_dup hx hb dX1_init_25 rfl ?_
  refine lv_iconst (v := nI (4)) hx hb dX1_init_26 (by decide) ?_
  refine lv_iconst (v := nI (1)) hx hb dX1_init_27 (by decide) ?_
  refine r_iastN (i := 4) hx hb hKB.1 hP hD hS 1 0 rfl rfl (by omega) (by decide) dX1_init_28 (fun H locs hP hD hS => ?_)
  have hP : va_P D vwCl [(lq, .inr (1, [.null, .int 0, .int 0])), (nq, .inl (cI, 8, .inl (nF (nu (nu (nu (nu (nu (fun _ => 0) 0 1) 1 1) 2 1) 3 1) 4 1))))] _ := hP
  have hD : va_D A [(lq, .inr (1, [.null, .int 0, .int 0])), (nq, .inl (cI, 8, .inl (nF (nu (nu (nu (nu (nu (fun _ => 0) 0 1) 1 1) 2 1) 3 1) 4 1))))] := hD
  refine lv_dup hx hb dX1_init_29 rfl ?_
  refine lv_iconst (v := nI (5)) hx hb dX1_init_30 (by decide) ?_
  refine lv_iconst (v := nI (1)) hx hb dX1_init_31 (by decide) ?_
  refine r_iastN (i := 5) hx hb hKB.1 hP hD hS 1 0 rfl rfl (by omega) (by decide) dX1_init_32 (fun H locs hP hD hS => ?_)
  have hP : va_P D vwCl [(lq, .inr (1, [.null, .int 0, .int 0])), (nq, .inl (cI, 8, .inl (nF (nu (nu (nu (nu (nu (nu (fun _ => 0) 0 1) 1 1) 2 1) 3 1) 4 1) 5 1))))] _ := hP
  have hD : va_D A [(lq, .inr (1, [.null, .int 0, .int 0])), (nq, .inl (cI, 8, .inl (nF (nu (nu (nu (nu (nu (nu (fun _ => 0) 0 1) 1 1) 2 1) 3 1) 4 1) 5 1))))] := hD
  refine lv_dup hx hb dX1_init_33 rfl ?_
  refine lv_bipush (v := nI (6)) hx hb dX1_init_34 (by decide) ?_
  refine lv_iconst (v := nI (1)) hx hb dX1_init_36 (by decide) ?_
  refine r_iastN (i := 6) hx hb hKB.1 hP hD hS 1 0 rfl rfl (by omega) (by decide) dX1_init_37 (fun H locs hP hD hS => ?_)
  have hP : va_P D vwCl [(lq, .inr (1, [.null, .int 0, .int 0])), (nq, .inl (cI, 8, .inl (nF (nu (nu (nu (nu (nu (nu (nu (fun _ => 0) 0 1) 1 1) 2 1) 3 1) 4 1) 5 1) 6 1))))] _ := hP
  have hD : va_D A [(lq, .inr (1, [.null, .int 0, .int 0])), (nq, .inl (cI, 8, .inl (nF (nu (nu (nu (nu (nu (nu (nu (fun _ => 0) 0 1) 1 1) 2 1) 3 1) 4 1) 5 1) 6 1))))] := hD
  refine lv_dup hx hb dX1_init_38 rfl ?_
  refine lv_bipush (v := nI (7)) hx hb dX1_init_39 (by decide) ?_
  refine lv_iconst (v := nI (1)) hx hb dX1_init_41 (by decide) ?_
  refine r_iastN (i := 7) hx hb hKB.1 hP hD hS 1 0 rfl rfl (by omega) (by decide) dX1_init_42 (fun H locs hP hD hS => ?_)
  have hP : va_P D vwCl [(lq, .inr (1, [.null, .int 0, .int 0])), (nq, .inl (cI, 8, .inl (nF (nu (nu (nu (nu (nu (nu (nu (nu (fun _ => 0) 0 1) 1 1) 2 1) 3 1) 4 1) 5 1) 6 1) 7 1))))] _ := hP
  have hD : va_D A [(lq, .inr (1, [.null, .int 0, .int 0])), (nq, .inl (cI, 8, .inl (nF (nu (nu (nu (nu (nu (nu (nu (nu (fun _ => 0) 0 1) 1 1) 2 1) 3 1) 4 1) 5 1) 6 1) 7 1))))] := hD
  refine va_putF (D := D) (ci := 1) (v := .ref nq) (ty := .array .int) (C := RX1) (T := TX1) (N := 3) hx hb hts hiX1 tyX1 tyX1_ok nmX1 hown hKB.1 hP hD hS 0 rfl rfl 0 (by decide) fl9 (fun _ h9 => h9) rfl hnm rfl (by decide +kernel) rfl rfl (Nat.le_of_ble_eq_true rfl) dX1_init_43 (fun H locs hP hD hS => ?_)
  have hP : va_P D vwCl [(lq, .inr (1, [.ref nq, .int 0, .int 0])), (nq, .inl (cI, 8, .inl (nF (nu (nu (nu (nu (nu (nu (nu (nu (fun _ => 0) 0 1) 1 1) 2 1) 3 1) 4 1) 5 1) 6 1) 7 1))))] _ := hP
  have hD : va_D A [(lq, .inr (1, [.ref nq, .int 0, .int 0])), (nq, .inl (cI, 8, .inl (nF (nu (nu (nu (nu (nu (nu (nu (nu (fun _ => 0) 0 1) 1 1) 2 1) 3 1) 4 1) 5 1) 6 1) 7 1))))] := hD
  refine lv_aload_n hx hb dX1_init_46 rfl (lv_at hl 0 rfl) ?_
  refine lv_iconst (v := nI (1)) hx hb dX1_init_47 (by decide) ?_
  refine va_put (D := D) (ci := 1) (v := .int (nI 1)) (ty := .int) (C := RX1) (T := TX1) (N := 3) hx hb hts hiX1 tyX1 tyX1_ok nmX1 hown hKB.1 hP hD hS 0 rfl rfl 1 (by decide) fl15 (fun _ h9 => h9) rfl (by decide +kernel) rfl rfl (Nat.le_of_ble_eq_true rfl) dX1_init_48 (fun H locs hP hD hS => ?_)
  have hP : va_P D vwCl [(lq, .inr (1, [.ref nq, .int (nI 1), .int 0])), (nq, .inl (cI, 8, .inl (nF (nu (nu (nu (nu (nu (nu (nu (nu (fun _ => 0) 0 1) 1 1) 2 1) 3 1) 4 1) 5 1) 6 1) 7 1))))] _ := hP
  have hD : va_D A [(lq, .inr (1, [.ref nq, .int (nI 1), .int 0])), (nq, .inl (cI, 8, .inl (nF (nu (nu (nu (nu (nu (nu (nu (nu (fun _ => 0) 0 1) 1 1) 2 1) 3 1) 4 1) 5 1) 6 1) 7 1))))] := hD
  refine lv_aload_n hx hb dX1_init_51 rfl (lv_at hl 0 rfl) ?_
  refine lv_iconst (v := nI (0)) hx hb dX1_init_52 (by decide) ?_
  refine va_put (D := D) (ci := 1) (v := .int (nI 0)) (ty := .int) (C := RX1) (T := TX1) (N := 3) hx hb hts hiX1 tyX1 tyX1_ok nmX1 hown hKB.1 hP hD hS 0 rfl rfl 2 (by decide) fl19 (fun _ h9 => h9) rfl (by decide +kernel) rfl rfl (Nat.le_of_ble_eq_true rfl) dX1_init_53 (fun H locs hP hD hS => ?_)
  have hP : va_P D vwCl [(lq, .inr (1, [.ref nq, .int (nI 1), .int (nI 0)])), (nq, .inl (cI, 8, .inl (nF (nu (nu (nu (nu (nu (nu (nu (nu (fun _ => 0) 0 1) 1 1) 2 1) 3 1) 4 1) 5 1) 6 1) 7 1))))] _ := hP
  have hD : va_D A [(lq, .inr (1, [.ref nq, .int (nI 1), .int (nI 0)])), (nq, .inl (cI, 8, .inl (nF (nu (nu (nu (nu (nu (nu (nu (nu (fun _ => 0) 0 1) 1 1) 2 1) 3 1) 4 1) 5 1) 6 1) 7 1))))] := hD
  exact w_vret hx hb hr hlk hQ hAe nq hP hD hS (trivial) dX1_init_56

set_option maxHeartbeats 4000000 in
set_option maxRecDepth 100000 in
theorem m_X1_likenessBy (l : Launch) (D : va_G) (cI cJ : ClassId) (lq : Nat) (nq : Nat) (slip : Nat) (kd : Nat) (num : Nat → Nat) (t : Nat) (sh : Nat) (ot : Nat) (ht : t < 8) (hsl : slip ≤ 12) (hnum : ∀ j, j < 8 → num j < 10) (hsh : sh < 2 ^ 31) (hot : ot < 2 ^ 31) : Met l yX1_likenessBy wsX1_likenessBy ({ frames := 1, cells := 0, slots := 0, locals := 25 }) (PR D cI cJ [(lq, .inr (1, [.ref nq, .int (nI slip), .int (nI kd)])), (nq, .inl (cI, 8, .inl (nF num)))] [.ref lq, .int (nI t), .int (nI sh), .int (nI ot)]) (QRl (fun r => r = lN (num t * pw (12 - slip) sh * pw slip ot))) 0 0 NA := by
  refine met_R (cc := cX1_likenessBy) (maxL := 4) (ret := (some .long)) (by decide) rfl (Nat.le_of_ble_eq_true rfl) ?_
  intro p e s m args below meth c Q ls hQ hAt hKB hP hl
  obtain ⟨hx, hb, hr, hml, hlk, hts, hown, hnm⟩ := hAt
  have hown : s.vm.findClass RX1 = some m.cls := hown
  have hS : va_S NA s.heap s.heap [] := va_S.rf
  have hl : lv_has ls 4 [(0, .ref lq), (1, .int (nI t)), (2, .int (nI sh)), (3, .int (nI ot))] := hl
  have hiX1 : ∀ w ∈ u_ws RX1 TX1 3, w ∈ wsX1_likenessBy := by decide +kernel
  have fl9 := hts (.fieldLink RX1 9 "TaughtTongues$Learner" "numbers" "[I") (by decide +kernel)
  have fl15 := hts (.fieldLink RX1 15 "TaughtTongues$Learner" "slip" "I") (by decide +kernel)
  have inX5 := hts (.initialized RX5) (by decide +kernel)
  have st_X5_power := hts (.static yX5_power) (by decide +kernel)
  refine lv_aload_n hx hb dX1_likenessBy_0 rfl (lv_at hl 0 rfl) ?_
  refine va_get (D := D) (ci := 1) (v := .ref nq) (C := RX1) (T := TX1) (N := 3) hx hb hts hiX1 hown hKB.1 hP 0 rfl rfl 0 (by decide) fl9 (fun _ h9 => h9) rfl dX1_likenessBy_1 ?_
  refine lv_iload_n hx hb dX1_likenessBy_4 rfl (lv_at hl 1 rfl) ?_
  refine r_iald (i := t) (v := nI (num t)) hx hb hKB.1 hP 1 0 rfl rfl (by omega) (by decide) (rfl) dX1_likenessBy_5 ?_
  refine r_i2l (a := num t) hx hb dX1_likenessBy_6 (by have := hnum t ht; omega) ?_
  refine lv_bipush (v := nI (12)) hx hb dX1_likenessBy_7 (by decide) ?_
  refine lv_aload_n hx hb dX1_likenessBy_9 rfl (lv_at hl 0 rfl) ?_
  refine va_get (D := D) (ci := 1) (v := .int (nI slip)) (C := RX1) (T := TX1) (N := 3) hx hb hts hiX1 hown hKB.1 hP 0 rfl rfl 1 (by decide) fl15 (fun _ h9 => h9) rfl dX1_likenessBy_10 ?_
  refine r_isub (a := 12) (b := slip) hx hb dX1_likenessBy_13 (by omega) ?_
  refine r_i2l (a := 12 - slip) hx hb dX1_likenessBy_14 (by omega) ?_
  refine lv_iload_n hx hb dX1_likenessBy_15 rfl (lv_at hl 2 rfl) ?_
  have hPc := hP.sub (ws' := []) [] rfl
  refine r_calll hP hS (va_runSN (As := [.long (lN (12 - slip)), .int (nI sh)]) (rest := [.long (lN (num t))]) ⟨hx, hb, hml, hown, hts⟩ (m_X5_power l D cI cJ (12 - slip) sh (by omega)) (⟨va_cnB 2 hts gX1_likenessBy_X5_power_n35 rfl rfl rfl (hKB.2.m (q := ("TaughtTongues$Learner", 35, yX5_power)) 4 rfl) inX5 (by decide +kernel) ⟨Nat.le_of_ble_eq_true rfl, Nat.le_of_ble_eq_true rfl⟩, st_X5_power, trivial⟩) ⟨PR.blind, fun U hU hW => ⟨rfl, hKB.warm hW, by rw [hU]; exact hPc⟩⟩ rfl rfl hl.1 rfl (lv_room (Nat.le_of_ble_eq_true rfl)) dX1_likenessBy_16 ⟨Nat.le_of_ble_eq_true rfl, Nat.le_of_ble_eq_true rfl⟩) (fun r1 H locs hw16 hP hS => ?_)
  have hw16 : r1 = lN (pw (12 - slip) sh) := hw16
  subst hw16
  refine r_lmul (a := num t) (b := pw (12 - slip) sh) hx hb dX1_likenessBy_19  ?_
  refine lv_aload_n hx hb dX1_likenessBy_20 rfl (lv_at hl 0 rfl) ?_
  refine va_get (D := D) (ci := 1) (v := .int (nI slip)) (C := RX1) (T := TX1) (N := 3) hx hb hts hiX1 hown hKB.1 hP 0 rfl rfl 1 (by decide) fl15 (fun _ h9 => h9) rfl dX1_likenessBy_21 ?_
  refine r_i2l (a := slip) hx hb dX1_likenessBy_24 (by omega) ?_
  refine lv_iload_n hx hb dX1_likenessBy_25 rfl (lv_at hl 3 rfl) ?_
  have hPc := hP.sub (ws' := []) [] rfl
  refine r_calll hP hS (va_runSN (As := [.long (lN slip), .int (nI ot)]) (rest := [.long (lN ((num t) * (pw (12 - slip) sh)))]) ⟨hx, hb, hml, hown, hts⟩ (m_X5_power l D cI cJ slip ot (by omega)) (⟨va_cnB 2 hts gX1_likenessBy_X5_power_n35 rfl rfl rfl (hKB.2.m (q := ("TaughtTongues$Learner", 35, yX5_power)) 4 rfl) inX5 (by decide +kernel) ⟨Nat.le_of_ble_eq_true rfl, Nat.le_of_ble_eq_true rfl⟩, st_X5_power, trivial⟩) ⟨PR.blind, fun U hU hW => ⟨rfl, hKB.warm hW, by rw [hU]; exact hPc⟩⟩ rfl rfl hl.1 rfl (lv_room (Nat.le_of_ble_eq_true rfl)) dX1_likenessBy_26 ⟨Nat.le_of_ble_eq_true rfl, Nat.le_of_ble_eq_true rfl⟩) (fun r2 H locs hw26 hP hS => ?_)
  have hw26 : r2 = lN (pw slip ot) := hw26
  subst hw26
  refine r_lmul (a := (num t) * (pw (12 - slip) sh)) (b := pw slip ot) hx hb dX1_likenessBy_29  ?_
  exact r_lret hx hb hr hlk hQ hS (rfl) dX1_likenessBy_30

set_option maxHeartbeats 4000000 in
set_option maxRecDepth 100000 in
theorem m_X1_likenessOf (l : Launch) (D : va_G) (cI cJ : ClassId) (lq : Nat) (nq : Nat) (slip : Nat) (kd : Nat) (num : Nat → Nat) (cq : Nat) (tq : Nat) (al : Nat) (tn : Nat → Nat) (t : Nat) (ht : t < 8) (hsl : slip ≤ 12) (hnum : ∀ j, j < 8 → num j < 10) (hal : al ≤ 6) (hsh : ∀ j, j < 8 → shw tn j 3 ≤ al) : Met l yX1_likenessOf wsX1_likenessOf ({ frames := 2, cells := 0, slots := 0, locals := 48 }) (PR D cI cJ [(lq, .inr (1, [.ref nq, .int (nI slip), .int (nI kd)])), (nq, .inl (cI, 8, .inl (nF num))), (cq, .inr (0, [.ref tq, .int (nI al)])), (tq, .inl (cI, 6, .inl (nF tn)))] [.ref lq, .int (nI t), .ref cq]) (QRl (fun r => r = lN (lkC num slip tn al t))) 0 0 NA := by
  refine met_R (cc := cX1_likenessOf) (maxL := 4) (ret := (some .long)) (by decide) rfl (Nat.le_of_ble_eq_true rfl) ?_
  intro p e s m args below meth c Q ls hQ hAt hKB hP hl
  obtain ⟨hx, hb, hr, hml, hlk, hts, hown, hnm⟩ := hAt
  have hown : s.vm.findClass RX1 = some m.cls := hown
  have hS : va_S NA s.heap s.heap [] := va_S.rf
  have hl : lv_has ls 4 [(0, .ref lq), (1, .int (nI t)), (2, .ref cq)] := hl
  have hiX0 : ∀ w ∈ u_ws RX0 TX0 2, w ∈ wsX1_likenessOf := by decide +kernel
  have hs1 := hsh t ht
  refine lv_aload_n hx hb dX1_likenessOf_0 rfl (lv_at hl 2 rfl) ?_
  refine lv_iload_n hx hb dX1_likenessOf_1 rfl (lv_at hl 1 rfl) ?_
  have hPc := hP.sub (ws' := [(cq, .inr (0, [.ref tq, .int (nI al)])), (tq, .inl (cI, 6, .inl (nF tn)))]) [2, 3] rfl
  refine r_calli hP hS (va_runV (As := [.int (nI t)]) (rest := []) ⟨hx, hb, hml, hown, hts⟩ (m_X0_sharedWith l D cI cJ cq tq al tn t (by omega)) (cwV 1 hts gX1_likenessOf_X0_sharedWith rfl rfl rfl (by decide +kernel) ⟨Nat.le_of_ble_eq_true rfl, Nat.le_of_ble_eq_true rfl⟩) ⟨PR.blind, va_recv hKB.1 hP (ci := 0) (q0 := 2) rfl rfl, fun U hU hW => ⟨rfl, hKB.warm hW, by rw [hU]; exact hPc⟩⟩ rfl rfl hl.1 rfl (lv_room (Nat.le_of_ble_eq_true rfl)) dX1_likenessOf_2 ⟨Nat.le_of_ble_eq_true rfl, Nat.le_of_ble_eq_true rfl⟩) (fun r1 H locs hw2 hP hS => ?_)
  have hw2 : r1 = nI (shw tn t 3) := hw2
  subst hw2
  refine lv_istore_n (lv' := [(3, .int (nI (shw tn t 3))), (0, .ref lq), (1, .int (nI t)), (2, .ref cq)]) hx hb dX1_likenessOf_5 rfl hl (by decide) rfl (fun ls hl => ?_)
  refine lv_aload_n hx hb dX1_likenessOf_6 rfl (lv_at hl 1 rfl) ?_
  refine lv_iload_n hx hb dX1_likenessOf_7 rfl (lv_at hl 2 rfl) ?_
  refine lv_iload_n hx hb dX1_likenessOf_8 rfl (lv_at hl 0 rfl) ?_
  refine lv_aload_n hx hb dX1_likenessOf_9 rfl (lv_at hl 3 rfl) ?_
  refine va_getN (D := D) (ci := 0) (v := .int (nI al)) (C := RX0) (T := TX0) (N := 2) hx hb hts hiX0 hown hKB.1 hP 2 rfl rfl 1 (by decide) (hKB.2.f (q := ("TaughtTongues$Learner", 28, "TaughtTongues$Counts", "all", "I")) 8 rfl) (fun _ h9 => h9) rfl dX1_likenessOf_10 ?_
  refine lv_iload_n hx hb dX1_likenessOf_13 rfl (lv_at hl 0 rfl) ?_
  refine r_isub (a := al) (b := shw tn t 3) hx hb dX1_likenessOf_14 (by omega) ?_
  have hPc := hP.sub (ws' := [(lq, .inr (1, [.ref nq, .int (nI slip), .int (nI kd)])), (nq, .inl (cI, 8, .inl (nF num)))]) [0, 1] rfl
  refine r_calll hP hS (va_runV (As := [.int (nI t), .int (nI (shw tn t 3)), .int (nI (al - (shw tn t 3)))]) (rest := []) ⟨hx, hb, hml, hown, hts⟩ (m_X1_likenessBy l D cI cJ lq nq slip kd num t (shw tn t 3) (al - (shw tn t 3)) (by omega) (by assumption) (by assumption) (by omega) (by omega)) (cwV 3 hts gX1_likenessOf_X1_likenessBy rfl rfl rfl (by decide +kernel) ⟨Nat.le_of_ble_eq_true rfl, Nat.le_of_ble_eq_true rfl⟩) ⟨PR.blind, va_recv hKB.1 hP (ci := 1) (q0 := 0) rfl rfl, fun U hU hW => ⟨rfl, hKB.warm hW, by rw [hU]; exact hPc⟩⟩ rfl rfl hl.1 rfl (lv_room (Nat.le_of_ble_eq_true rfl)) dX1_likenessOf_15 ⟨Nat.le_of_ble_eq_true rfl, Nat.le_of_ble_eq_true rfl⟩) (fun r2 H locs hw15 hP hS => ?_)
  have hw15 : r2 = lN (num t * pw (12 - slip) (shw tn t 3) * pw slip (al - (shw tn t 3))) := hw15
  subst hw15
  exact r_lret hx hb hr hlk hQ hS (rfl) dX1_likenessOf_18

set_option maxHeartbeats 4000000 in
set_option maxRecDepth 100000 in
theorem m_X1_isRather (l : Launch) (D : va_G) (cI cJ : ClassId) (lq : Nat) (nq : Nat) (slip : Nat) (kd : Nat) (t : Nat) (b : Nat) (ht : t < 8) (hb2 : b < 8) (hkd : kd < 3) : Met l yX1_isRather wsX1_isRather ({ frames := 1, cells := 0, slots := 0, locals := 20 }) (PR D cI cJ [(lq, .inr (1, [.ref nq, .int (nI slip), .int (nI kd)]))] [.ref lq, .int (nI t), .int (nI b)]) (QRi (fun r => r = bI (isR kd t b))) 0 0 NA := by
  refine met_R (cc := cX1_isRather) (maxL := 3) (ret := (some .boolean)) (by decide) rfl (Nat.le_of_ble_eq_true rfl) ?_
  intro p e s m args below meth c Q ls hQ hAt hKB hP hl
  obtain ⟨hx, hb, hr, hml, hlk, hts, hown, hnm⟩ := hAt
  have hown : s.vm.findClass RX1 = some m.cls := hown
  have hS : va_S NA s.heap s.heap [] := va_S.rf
  have hl : lv_has ls 3 [(0, .ref lq), (1, .int (nI t)), (2, .int (nI b))] := hl
  have hiX1 : ∀ w ∈ u_ws RX1 TX1 3, w ∈ wsX1_isRather := by decide +kernel
  have fl19 := hts (.fieldLink RX1 19 "TaughtTongues$Learner" "kind" "I") (by decide +kernel)
  refine lv_aload_n hx hb dX1_isRather_0 rfl (lv_at hl 0 rfl) ?_
  refine va_get (D := D) (ci := 1) (v := .int (nI kd)) (C := RX1) (T := TX1) (N := 3) hx hb hts hiX1 hown hKB.1 hP 0 rfl rfl 2 (by decide) fl19 (fun _ h9 => h9) rfl dX1_isRather_1 ?_
  refine lv_iconst (v := nI (2)) hx hb dX1_isRather_4 (by decide) ?_
  refine r_icmp_ne (a := kd) (b := 2) (tgt := 23) hx hb dX1_isRather_5 (by decide) (by omega) (by omega)  (fun c5 => ?_) (fun c5 => ?_)
  · skip
    refine lv_iconst (v := nI (0)) hx hb dX1_isRather_23 (by decide) ?_
    exact r_zret (b := false) hx hb hr hlk hQ hS rfl (by first | rw [show isR kd t b = false from isR_f1 c5] | rw [show isR kd t b = false from isR_f2 c16]) dX1_isRather_24
  refine lv_iload_n hx hb dX1_isRather_8 rfl (lv_at hl 1 rfl) ?_
  have hPc := hP.sub (ws' := []) [] rfl
  refine r_calli hP hS (va_runS (As := [.int (nI t)]) (rest := []) ⟨hx, hb, hml, hown, hts⟩ (m_J6_bitCount_0f7a4 l D cI cJ t (by omega)) (va_cwS 1 hts gX1_isRather_J6_bitCount_0f7a4 rfl rfl rfl (by decide +kernel) ⟨Nat.le_of_ble_eq_true rfl, Nat.le_of_ble_eq_true rfl⟩) ⟨PR.blind, fun U hU hW => ⟨rfl, hKB.warm hW, by rw [hU]; exact hPc⟩⟩ rfl rfl hl.1 rfl (lv_room (Nat.le_of_ble_eq_true rfl)) dX1_isRather_9 ⟨Nat.le_of_ble_eq_true rfl, Nat.le_of_ble_eq_true rfl⟩) (fun r1 H locs hw9 hP hS => ?_)
  have hw9 : r1 = nI (on t) := hw9
  subst hw9
  refine lv_iload_n hx hb dX1_isRather_12 rfl (lv_at hl 2 rfl) ?_
  have hPc := hP.sub (ws' := []) [] rfl
  refine r_calli hP hS (va_runS (As := [.int (nI b)]) (rest := [.int (nI (on t))]) ⟨hx, hb, hml, hown, hts⟩ (m_J6_bitCount_0f7a4 l D cI cJ b (by omega)) (va_cwS 1 hts gX1_isRather_J6_bitCount_0f7a4 rfl rfl rfl (by decide +kernel) ⟨Nat.le_of_ble_eq_true rfl, Nat.le_of_ble_eq_true rfl⟩) ⟨PR.blind, fun U hU hW => ⟨rfl, hKB.warm hW, by rw [hU]; exact hPc⟩⟩ rfl rfl hl.1 rfl (lv_room (Nat.le_of_ble_eq_true rfl)) dX1_isRather_13 ⟨Nat.le_of_ble_eq_true rfl, Nat.le_of_ble_eq_true rfl⟩) (fun r2 H locs hw13 hP hS => ?_)
  have hw13 : r2 = nI (on b) := hw13
  subst hw13
  refine r_icmp_ge (a := on t) (b := on b) (tgt := 23) hx hb dX1_isRather_16 (by decide) (by have := on_lt t; omega) (by have := on_lt b; omega)  (fun c16 => ?_) (fun c16 => ?_)
  · skip
    refine lv_iconst (v := nI (0)) hx hb dX1_isRather_23 (by decide) ?_
    exact r_zret (b := false) hx hb hr hlk hQ hS rfl (by first | rw [show isR kd t b = false from isR_f1 c5] | rw [show isR kd t b = false from isR_f2 c16]) dX1_isRather_24
  refine lv_iconst (v := nI (1)) hx hb dX1_isRather_19 (by decide) ?_
  refine lv_goto (tgt := 24) hx hb dX1_isRather_20 (by decide) ?_
  exact r_zret (b := true) hx hb hr hlk hQ hS rfl (by rw [show isR kd t b = true from isR_t c5 c16]) dX1_isRather_24

set_option maxHeartbeats 4000000 in
set_option maxRecDepth 100000 in
theorem m_X1_choice (l : Launch) (D : va_G) (cI cJ : ClassId) (lq : Nat) (nq : Nat) (slip : Nat) (kd : Nat) (num : Nat → Nat) (cq : Nat) (tq : Nat) (al : Nat) (tn : Nat → Nat) (hsl : slip ≤ 12) (hnum : ∀ j, j < 8 → num j < 10) (hal : al ≤ 6) (hsh : ∀ j, j < 8 → shw tn j 3 ≤ al) (hkd : kd < 3) : Met l yX1_choice wsX1_choice ({ frames := 2, cells := 0, slots := 0, locals := 48 }) (PR D cI cJ [(lq, .inr (1, [.ref nq, .int (nI slip), .int (nI kd)])), (nq, .inl (cI, 8, .inl (nF num))), (cq, .inr (0, [.ref tq, .int (nI al)])), (tq, .inl (cI, 6, .inl (nF tn)))] [.ref lq, .ref cq]) (QRi (fun r => r = nI (tk (lkC num slip tn al) kd (fun t => decide (shw tn t 3 = al))))) 0 0 NA := by
  refine met_R (cc := cX1_choice) (maxL := 9) (ret := (some .int)) (by decide) rfl (Nat.le_of_ble_eq_true rfl) ?_
  intro p e s m args below meth c Q ls hQ hAt hKB hP hl
  obtain ⟨hx, hb, hr, hml, hlk, hts, hown, hnm⟩ := hAt
  have hown : s.vm.findClass RX1 = some m.cls := hown
  have hS : va_S NA s.heap s.heap [] := va_S.rf
  have hl : lv_has ls 9 [(0, .ref lq), (1, .ref cq)] := hl
  have kl39 := hts (.constantLong RX1 39 ((-1))) (by decide +kernel)
  have hiX1 : ∀ w ∈ u_ws RX1 TX1 3, w ∈ wsX1_choice := by decide +kernel
  have fl19 := hts (.fieldLink RX1 19 "TaughtTongues$Learner" "kind" "I") (by decide +kernel)
  have hiX0 : ∀ w ∈ u_ws RX0 TX0 2, w ∈ wsX1_choice := by decide +kernel
  have hlb : ∀ t, t < 8 → lkC num slip tn al t < 2 ^ 63 := fun t ht => lkC_lt (hnum t ht) hsl hal (hsh t ht)
  refine lv_iconst (v := nI (0)) hx hb dX1_choice_0 (by decide) ?_
  refine lv_istore_n (lv' := [(2, .int (nI 0)), (0, .ref lq), (1, .ref cq)]) hx hb dX1_choice_1 rfl hl (by decide) rfl (fun ls hl => ?_)
  refine lv_ldc2 hx hb hown kl39 dX1_choice_2 ?_
  refine lv_lstore_n (lv' := [(3, .long ((-1))), (2, .int (nI 0)), (0, .ref lq), (1, .ref cq)]) hx hb dX1_choice_5 rfl hl (by decide) rfl (fun ls hl => ?_)
  refine lv_iconst (v := nI (0)) hx hb dX1_choice_6 (by decide) ?_
  refine lv_istore (lv' := [(5, .int (nI 0)), (3, .long ((-1))), (2, .int (nI 0)), (0, .ref lq), (1, .ref cq)]) hx hb dX1_choice_7 hl (by decide) rfl (fun ls hl => ?_)
  have L9 : ∀ (n : Nat) (k : Nat) (best : Nat) (most : Int64) (H : Heap) (locs : List Loc) (ls : Array Slot), 8 - k < n → (k ≤ 8) → (best < 8) → (kd = 1 → ∀ j, j < k → (fun t => decide (shw tn t 3 = al)) j = false) → (chI (lkC num slip tn al) kd k best most) → va_P D vwCl [(lq, .inr (1, [.ref nq, .int (nI slip), .int (nI kd)])), (nq, .inl (cI, 8, .inl (nF num))), (cq, .inr (0, [.ref tq, .int (nI al)])), (tq, .inl (cI, 6, .inl (nF tn)))] H → va_S NA s.heap H locs → lv_has ls 9 [(5, .int (nI k)), (3, .long most), (2, .int (nI best)), (0, .ref lq), (1, .ref cq)] → W p l e ({ frames := 2, cells := 0, slots := 0, locals := 48 }) s m args below meth c H locs 0 0 Q (F0 m 9 ls []) := by
    intro n
    induction n with
    | zero => intro k best most H locs ls hm; exact absurd hm (Nat.not_lt_zero _)
    | succ n ih9 =>
      intro k best most H locs ls hm hk hb8 hlz hst hP hS hl
      refine lv_iload hx hb dX1_choice_9 (lv_at hl 0 rfl) ?_
      refine lv_bipush (v := nI (8)) hx hb dX1_choice_11 (by decide) ?_
      refine r_icmp_ge (a := k) (b := 8) (tgt := 97) hx hb dX1_choice_13 (by decide) (by omega) (by omega)  (fun c13 => ?_) (fun c13 => ?_)
      · skip
        refine lv_iload_n hx hb dX1_choice_97 rfl (lv_at hl 2 rfl) ?_
        exact r_iret hx hb hr hlk hQ hS (by rw [tk_bst (fun h j hj => hlz h j (by omega)), ch_end hst (by omega)]) dX1_choice_98
      have hs1 := hsh k c13
      refine lv_aload_n hx hb dX1_choice_16 rfl (lv_at hl 4 rfl) ?_
      refine lv_iload hx hb dX1_choice_17 (lv_at hl 0 rfl) ?_
      have hPc := hP.sub (ws' := [(cq, .inr (0, [.ref tq, .int (nI al)])), (tq, .inl (cI, 6, .inl (nF tn)))]) [2, 3] rfl
      refine r_calli hP hS (va_runV (As := [.int (nI k)]) (rest := []) ⟨hx, hb, hml, hown, hts⟩ (m_X0_sharedWith l D cI cJ cq tq al tn k (by omega)) (cwV 1 hts gX1_choice_X0_sharedWith rfl rfl rfl (by decide +kernel) ⟨Nat.le_of_ble_eq_true rfl, Nat.le_of_ble_eq_true rfl⟩) ⟨PR.blind, va_recv hKB.1 hP (ci := 0) (q0 := 2) rfl rfl, fun U hU hW => ⟨rfl, hKB.warm hW, by rw [hU]; exact hPc⟩⟩ rfl rfl hl.1 rfl (lv_room (Nat.le_of_ble_eq_true rfl)) dX1_choice_19 ⟨Nat.le_of_ble_eq_true rfl, Nat.le_of_ble_eq_true rfl⟩) (fun r1 H locs hw19 hP hS => ?_)
      have hw19 : r1 = nI (shw tn k 3) := hw19
      subst hw19
      refine lv_istore (lv' := [(6, .int (nI (shw tn k 3))), (5, .int (nI k)), (3, .long most), (2, .int (nI best)), (0, .ref lq), (1, .ref cq)]) hx hb dX1_choice_22 hl (by decide) rfl (fun ls hl => ?_)
      refine lv_aload_n hx hb dX1_choice_24 rfl (lv_at hl 4 rfl) ?_
      refine va_get (D := D) (ci := 1) (v := .int (nI kd)) (C := RX1) (T := TX1) (N := 3) hx hb hts hiX1 hown hKB.1 hP 0 rfl rfl 2 (by decide) fl19 (fun _ h9 => h9) rfl dX1_choice_25 ?_
      refine lv_iconst (v := nI (1)) hx hb dX1_choice_28 (by decide) ?_
      refine r_icmp_ne (a := kd) (b := 1) (tgt := 44) hx hb dX1_choice_29 (by decide) (by omega) (by omega)  (fun c29 => ?_) (fun c29 => ?_)
      · skip
        refine lv_aload_n hx hb dX1_choice_44 rfl (lv_at hl 4 rfl) ?_
        refine lv_iload hx hb dX1_choice_45 (lv_at hl 1 rfl) ?_
        refine lv_iload hx hb dX1_choice_47 (lv_at hl 0 rfl) ?_
        refine lv_aload_n hx hb dX1_choice_49 rfl (lv_at hl 5 rfl) ?_
        refine va_getN (D := D) (ci := 0) (v := .int (nI al)) (C := RX0) (T := TX0) (N := 2) hx hb hts hiX0 hown hKB.1 hP 2 rfl rfl 1 (by decide) (hKB.2.f (q := ("TaughtTongues$Learner", 28, "TaughtTongues$Counts", "all", "I")) 8 rfl) (fun _ h9 => h9) rfl dX1_choice_50 ?_
        refine lv_iload hx hb dX1_choice_53 (lv_at hl 0 rfl) ?_
        refine r_isub (a := al) (b := shw tn k 3) hx hb dX1_choice_55 (by omega) ?_
        have hPc := hP.sub (ws' := [(lq, .inr (1, [.ref nq, .int (nI slip), .int (nI kd)])), (nq, .inl (cI, 8, .inl (nF num)))]) [0, 1] rfl
        refine r_calll hP hS (va_runV (As := [.int (nI k), .int (nI (shw tn k 3)), .int (nI (al - (shw tn k 3)))]) (rest := []) ⟨hx, hb, hml, hown, hts⟩ (m_X1_likenessBy l D cI cJ lq nq slip kd num k (shw tn k 3) (al - (shw tn k 3)) (by omega) (by assumption) (by assumption) (by omega) (by omega)) (cwV 3 hts gX1_choice_X1_likenessBy rfl rfl rfl (by decide +kernel) ⟨Nat.le_of_ble_eq_true rfl, Nat.le_of_ble_eq_true rfl⟩) ⟨PR.blind, va_recv hKB.1 hP (ci := 1) (q0 := 0) rfl rfl, fun U hU hW => ⟨rfl, hKB.warm hW, by rw [hU]; exact hPc⟩⟩ rfl rfl hl.1 rfl (lv_room (Nat.le_of_ble_eq_true rfl)) dX1_choice_56 ⟨Nat.le_of_ble_eq_true rfl, Nat.le_of_ble_eq_true rfl⟩) (fun r2 H locs hw56 hP hS => ?_)
        have hw56 : r2 = lN (num k * pw (12 - slip) (shw tn k 3) * pw slip (al - (shw tn k 3))) := hw56
        subst hw56
        refine lv_topl (fun z3 ez3 => ?_)
        obtain rfl : z3 = lN (lkC num slip tn al k) := ez3.trans (rfl)
        refine lv_lstore (lv' := [(7, .long (lN (lkC num slip tn al k))), (6, .int (nI (shw tn k 3))), (5, .int (nI k)), (3, .long most), (2, .int (nI best)), (0, .ref lq), (1, .ref cq)]) hx hb dX1_choice_59 hl (by decide) rfl (fun ls hl => ?_)
        refine lv_lload hx hb dX1_choice_61 (lv_at hl 0 rfl) ?_
        refine lv_lload_n hx hb dX1_choice_63 rfl (lv_at hl 3 rfl) ?_
        refine r_lcmp_gt (x := lN (lkC num slip tn al k)) (y := most) (tgt := 85) hx hb dX1_choice_64 dX1_choice_65 (by decide) (fun c64 => ?_) (fun c64 => ?_)
        · skip
          refine lv_iload hx hb dX1_choice_85 (lv_at hl 2 rfl) ?_
          refine lv_istore_n (lv' := [(2, .int (nI k)), (7, .long (lN (lkC num slip tn al k))), (6, .int (nI (shw tn k 3))), (5, .int (nI k)), (3, .long most), (0, .ref lq), (1, .ref cq)]) hx hb dX1_choice_87 rfl hl (by decide) rfl (fun ls hl => ?_)
          refine lv_lload hx hb dX1_choice_88 (lv_at hl 1 rfl) ?_
          refine lv_lstore_n (lv' := [(3, .long (lN (lkC num slip tn al k))), (2, .int (nI k)), (7, .long (lN (lkC num slip tn al k))), (6, .int (nI (shw tn k 3))), (5, .int (nI k)), (0, .ref lq), (1, .ref cq)]) hx hb dX1_choice_90 rfl hl (by decide) rfl (fun ls hl => ?_)
          refine lv_iinc (v := nI (k + 1)) (lv' := [(5, .int (nI (k + 1))), (3, .long (lN (lkC num slip tn al k))), (2, .int (nI k)), (7, .long (lN (lkC num slip tn al k))), (6, .int (nI (shw tn k 3))), (0, .ref lq), (1, .ref cq)]) hx hb dX1_choice_91 hl (k := 4) rfl (n_inc _ 1) (by decide) rfl (fun ls hl => ?_)
          refine lv_goto (tgt := 9) hx hb dX1_choice_94 (by decide) ?_
          exact ih9 (k + 1) k (lN (lkC num slip tn al k)) _ _ _ (by omega) (by omega) (by omega) (lz_s hlz (fun h => by first | exact absurd h c29 | exact decide_eq_false c38)) (by first | exact ch_up hlb c13 hst (Or.inl c64) | exact ch_up hlb c13 hst (Or.inr ⟨c71, c82⟩) | exact ch_no hlb c13 hst c64 (Or.inl c71) | exact ch_no hlb c13 hst c64 (Or.inr c82)) hP hS (lv_sub hl [0, 1, 2, 5, 6] rfl)
        refine lv_lload hx hb dX1_choice_68 (lv_at hl 0 rfl) ?_
        refine lv_lload_n hx hb dX1_choice_70 rfl (lv_at hl 3 rfl) ?_
        refine r_lcmp_ne (x := lN (lkC num slip tn al k)) (y := most) (tgt := 91) hx hb dX1_choice_71 dX1_choice_72 (by decide) (fun c71 => ?_) (fun c71 => ?_)
        · skip
          refine lv_iinc (v := nI (k + 1)) (lv' := [(5, .int (nI (k + 1))), (7, .long (lN (lkC num slip tn al k))), (6, .int (nI (shw tn k 3))), (3, .long most), (2, .int (nI best)), (0, .ref lq), (1, .ref cq)]) hx hb dX1_choice_91 hl (k := 2) rfl (n_inc _ 1) (by decide) rfl (fun ls hl => ?_)
          refine lv_goto (tgt := 9) hx hb dX1_choice_94 (by decide) ?_
          exact ih9 (k + 1) best most _ _ _ (by omega) (by omega) (by omega) (lz_s hlz (fun h => by first | exact absurd h c29 | exact decide_eq_false c38)) (by first | exact ch_up hlb c13 hst (Or.inl c64) | exact ch_up hlb c13 hst (Or.inr ⟨c71, c82⟩) | exact ch_no hlb c13 hst c64 (Or.inl c71) | exact ch_no hlb c13 hst c64 (Or.inr c82)) hP hS (lv_sub hl [0, 3, 4, 5, 6] rfl)
        refine lv_aload_n hx hb dX1_choice_75 rfl (lv_at hl 5 rfl) ?_
        refine lv_iload hx hb dX1_choice_76 (lv_at hl 2 rfl) ?_
        refine lv_iload_n hx hb dX1_choice_78 rfl (lv_at hl 4 rfl) ?_
        have hPc := hP.sub (ws' := [(lq, .inr (1, [.ref nq, .int (nI slip), .int (nI kd)]))]) [0] rfl
        refine r_calli hP hS (va_runV (As := [.int (nI k), .int (nI best)]) (rest := []) ⟨hx, hb, hml, hown, hts⟩ (m_X1_isRather l D cI cJ lq nq slip kd k best (by omega) (by omega) (by omega)) (cwV 2 hts gX1_choice_X1_isRather rfl rfl rfl (by decide +kernel) ⟨Nat.le_of_ble_eq_true rfl, Nat.le_of_ble_eq_true rfl⟩) ⟨PR.blind, va_recv hKB.1 hP (ci := 1) (q0 := 0) rfl rfl, fun U hU hW => ⟨rfl, hKB.warm hW, by rw [hU]; exact hPc⟩⟩ rfl rfl hl.1 rfl (lv_room (Nat.le_of_ble_eq_true rfl)) dX1_choice_79 ⟨Nat.le_of_ble_eq_true rfl, Nat.le_of_ble_eq_true rfl⟩) (fun r4 H locs hw79 hP hS => ?_)
        have hw79 : r4 = bI (isR kd k best) := hw79
        subst hw79
        refine r_bif_eq (b := isR kd k best) (tgt := 91) hx hb dX1_choice_82 (by decide) (fun c82 => ?_) (fun c82 => ?_)
        · skip
          refine lv_iinc (v := nI (k + 1)) (lv' := [(5, .int (nI (k + 1))), (7, .long (lN (lkC num slip tn al k))), (6, .int (nI (shw tn k 3))), (3, .long most), (2, .int (nI best)), (0, .ref lq), (1, .ref cq)]) hx hb dX1_choice_91 hl (k := 2) rfl (n_inc _ 1) (by decide) rfl (fun ls hl => ?_)
          refine lv_goto (tgt := 9) hx hb dX1_choice_94 (by decide) ?_
          exact ih9 (k + 1) best most _ _ _ (by omega) (by omega) (by omega) (lz_s hlz (fun h => by first | exact absurd h c29 | exact decide_eq_false c38)) (by first | exact ch_up hlb c13 hst (Or.inl c64) | exact ch_up hlb c13 hst (Or.inr ⟨c71, c82⟩) | exact ch_no hlb c13 hst c64 (Or.inl c71) | exact ch_no hlb c13 hst c64 (Or.inr c82)) hP hS (lv_sub hl [0, 3, 4, 5, 6] rfl)
        refine lv_iload hx hb dX1_choice_85 (lv_at hl 2 rfl) ?_
        refine lv_istore_n (lv' := [(2, .int (nI k)), (7, .long (lN (lkC num slip tn al k))), (6, .int (nI (shw tn k 3))), (5, .int (nI k)), (3, .long most), (0, .ref lq), (1, .ref cq)]) hx hb dX1_choice_87 rfl hl (by decide) rfl (fun ls hl => ?_)
        refine lv_lload hx hb dX1_choice_88 (lv_at hl 1 rfl) ?_
        refine lv_lstore_n (lv' := [(3, .long (lN (lkC num slip tn al k))), (2, .int (nI k)), (7, .long (lN (lkC num slip tn al k))), (6, .int (nI (shw tn k 3))), (5, .int (nI k)), (0, .ref lq), (1, .ref cq)]) hx hb dX1_choice_90 rfl hl (by decide) rfl (fun ls hl => ?_)
        refine lv_iinc (v := nI (k + 1)) (lv' := [(5, .int (nI (k + 1))), (3, .long (lN (lkC num slip tn al k))), (2, .int (nI k)), (7, .long (lN (lkC num slip tn al k))), (6, .int (nI (shw tn k 3))), (0, .ref lq), (1, .ref cq)]) hx hb dX1_choice_91 hl (k := 4) rfl (n_inc _ 1) (by decide) rfl (fun ls hl => ?_)
        refine lv_goto (tgt := 9) hx hb dX1_choice_94 (by decide) ?_
        exact ih9 (k + 1) k (lN (lkC num slip tn al k)) _ _ _ (by omega) (by omega) (by omega) (lz_s hlz (fun h => by first | exact absurd h c29 | exact decide_eq_false c38)) (by first | exact ch_up hlb c13 hst (Or.inl c64) | exact ch_up hlb c13 hst (Or.inr ⟨c71, c82⟩) | exact ch_no hlb c13 hst c64 (Or.inl c71) | exact ch_no hlb c13 hst c64 (Or.inr c82)) hP hS (lv_sub hl [0, 1, 2, 5, 6] rfl)
      refine lv_iload hx hb dX1_choice_32 (lv_at hl 0 rfl) ?_
      refine lv_aload_n hx hb dX1_choice_34 rfl (lv_at hl 5 rfl) ?_
      refine va_getN (D := D) (ci := 0) (v := .int (nI al)) (C := RX0) (T := TX0) (N := 2) hx hb hts hiX0 hown hKB.1 hP 2 rfl rfl 1 (by decide) (hKB.2.f (q := ("TaughtTongues$Learner", 28, "TaughtTongues$Counts", "all", "I")) 8 rfl) (fun _ h9 => h9) rfl dX1_choice_35 ?_
      refine r_icmp_ne (a := shw tn k 3) (b := al) (tgt := 44) hx hb dX1_choice_38 (by decide) (by omega) (by omega)  (fun c38 => ?_) (fun c38 => ?_)
      · skip
        refine lv_aload_n hx hb dX1_choice_44 rfl (lv_at hl 4 rfl) ?_
        refine lv_iload hx hb dX1_choice_45 (lv_at hl 1 rfl) ?_
        refine lv_iload hx hb dX1_choice_47 (lv_at hl 0 rfl) ?_
        refine lv_aload_n hx hb dX1_choice_49 rfl (lv_at hl 5 rfl) ?_
        refine va_getN (D := D) (ci := 0) (v := .int (nI al)) (C := RX0) (T := TX0) (N := 2) hx hb hts hiX0 hown hKB.1 hP 2 rfl rfl 1 (by decide) (hKB.2.f (q := ("TaughtTongues$Learner", 28, "TaughtTongues$Counts", "all", "I")) 8 rfl) (fun _ h9 => h9) rfl dX1_choice_50 ?_
        refine lv_iload hx hb dX1_choice_53 (lv_at hl 0 rfl) ?_
        refine r_isub (a := al) (b := shw tn k 3) hx hb dX1_choice_55 (by omega) ?_
        have hPc := hP.sub (ws' := [(lq, .inr (1, [.ref nq, .int (nI slip), .int (nI kd)])), (nq, .inl (cI, 8, .inl (nF num)))]) [0, 1] rfl
        refine r_calll hP hS (va_runV (As := [.int (nI k), .int (nI (shw tn k 3)), .int (nI (al - (shw tn k 3)))]) (rest := []) ⟨hx, hb, hml, hown, hts⟩ (m_X1_likenessBy l D cI cJ lq nq slip kd num k (shw tn k 3) (al - (shw tn k 3)) (by omega) (by assumption) (by assumption) (by omega) (by omega)) (cwV 3 hts gX1_choice_X1_likenessBy rfl rfl rfl (by decide +kernel) ⟨Nat.le_of_ble_eq_true rfl, Nat.le_of_ble_eq_true rfl⟩) ⟨PR.blind, va_recv hKB.1 hP (ci := 1) (q0 := 0) rfl rfl, fun U hU hW => ⟨rfl, hKB.warm hW, by rw [hU]; exact hPc⟩⟩ rfl rfl hl.1 rfl (lv_room (Nat.le_of_ble_eq_true rfl)) dX1_choice_56 ⟨Nat.le_of_ble_eq_true rfl, Nat.le_of_ble_eq_true rfl⟩) (fun r5 H locs hw56 hP hS => ?_)
        have hw56 : r5 = lN (num k * pw (12 - slip) (shw tn k 3) * pw slip (al - (shw tn k 3))) := hw56
        subst hw56
        refine lv_topl (fun z6 ez6 => ?_)
        obtain rfl : z6 = lN (lkC num slip tn al k) := ez6.trans (rfl)
        refine lv_lstore (lv' := [(7, .long (lN (lkC num slip tn al k))), (6, .int (nI (shw tn k 3))), (5, .int (nI k)), (3, .long most), (2, .int (nI best)), (0, .ref lq), (1, .ref cq)]) hx hb dX1_choice_59 hl (by decide) rfl (fun ls hl => ?_)
        refine lv_lload hx hb dX1_choice_61 (lv_at hl 0 rfl) ?_
        refine lv_lload_n hx hb dX1_choice_63 rfl (lv_at hl 3 rfl) ?_
        refine r_lcmp_gt (x := lN (lkC num slip tn al k)) (y := most) (tgt := 85) hx hb dX1_choice_64 dX1_choice_65 (by decide) (fun c64 => ?_) (fun c64 => ?_)
        · skip
          refine lv_iload hx hb dX1_choice_85 (lv_at hl 2 rfl) ?_
          refine lv_istore_n (lv' := [(2, .int (nI k)), (7, .long (lN (lkC num slip tn al k))), (6, .int (nI (shw tn k 3))), (5, .int (nI k)), (3, .long most), (0, .ref lq), (1, .ref cq)]) hx hb dX1_choice_87 rfl hl (by decide) rfl (fun ls hl => ?_)
          refine lv_lload hx hb dX1_choice_88 (lv_at hl 1 rfl) ?_
          refine lv_lstore_n (lv' := [(3, .long (lN (lkC num slip tn al k))), (2, .int (nI k)), (7, .long (lN (lkC num slip tn al k))), (6, .int (nI (shw tn k 3))), (5, .int (nI k)), (0, .ref lq), (1, .ref cq)]) hx hb dX1_choice_90 rfl hl (by decide) rfl (fun ls hl => ?_)
          refine lv_iinc (v := nI (k + 1)) (lv' := [(5, .int (nI (k + 1))), (3, .long (lN (lkC num slip tn al k))), (2, .int (nI k)), (7, .long (lN (lkC num slip tn al k))), (6, .int (nI (shw tn k 3))), (0, .ref lq), (1, .ref cq)]) hx hb dX1_choice_91 hl (k := 4) rfl (n_inc _ 1) (by decide) rfl (fun ls hl => ?_)
          refine lv_goto (tgt := 9) hx hb dX1_choice_94 (by decide) ?_
          exact ih9 (k + 1) k (lN (lkC num slip tn al k)) _ _ _ (by omega) (by omega) (by omega) (lz_s hlz (fun h => by first | exact absurd h c29 | exact decide_eq_false c38)) (by first | exact ch_up hlb c13 hst (Or.inl c64) | exact ch_up hlb c13 hst (Or.inr ⟨c71, c82⟩) | exact ch_no hlb c13 hst c64 (Or.inl c71) | exact ch_no hlb c13 hst c64 (Or.inr c82)) hP hS (lv_sub hl [0, 1, 2, 5, 6] rfl)
        refine lv_lload hx hb dX1_choice_68 (lv_at hl 0 rfl) ?_
        refine lv_lload_n hx hb dX1_choice_70 rfl (lv_at hl 3 rfl) ?_
        refine r_lcmp_ne (x := lN (lkC num slip tn al k)) (y := most) (tgt := 91) hx hb dX1_choice_71 dX1_choice_72 (by decide) (fun c71 => ?_) (fun c71 => ?_)
        · skip
          refine lv_iinc (v := nI (k + 1)) (lv' := [(5, .int (nI (k + 1))), (7, .long (lN (lkC num slip tn al k))), (6, .int (nI (shw tn k 3))), (3, .long most), (2, .int (nI best)), (0, .ref lq), (1, .ref cq)]) hx hb dX1_choice_91 hl (k := 2) rfl (n_inc _ 1) (by decide) rfl (fun ls hl => ?_)
          refine lv_goto (tgt := 9) hx hb dX1_choice_94 (by decide) ?_
          exact ih9 (k + 1) best most _ _ _ (by omega) (by omega) (by omega) (lz_s hlz (fun h => by first | exact absurd h c29 | exact decide_eq_false c38)) (by first | exact ch_up hlb c13 hst (Or.inl c64) | exact ch_up hlb c13 hst (Or.inr ⟨c71, c82⟩) | exact ch_no hlb c13 hst c64 (Or.inl c71) | exact ch_no hlb c13 hst c64 (Or.inr c82)) hP hS (lv_sub hl [0, 3, 4, 5, 6] rfl)
        refine lv_aload_n hx hb dX1_choice_75 rfl (lv_at hl 5 rfl) ?_
        refine lv_iload hx hb dX1_choice_76 (lv_at hl 2 rfl) ?_
        refine lv_iload_n hx hb dX1_choice_78 rfl (lv_at hl 4 rfl) ?_
        have hPc := hP.sub (ws' := [(lq, .inr (1, [.ref nq, .int (nI slip), .int (nI kd)]))]) [0] rfl
        refine r_calli hP hS (va_runV (As := [.int (nI k), .int (nI best)]) (rest := []) ⟨hx, hb, hml, hown, hts⟩ (m_X1_isRather l D cI cJ lq nq slip kd k best (by omega) (by omega) (by omega)) (cwV 2 hts gX1_choice_X1_isRather rfl rfl rfl (by decide +kernel) ⟨Nat.le_of_ble_eq_true rfl, Nat.le_of_ble_eq_true rfl⟩) ⟨PR.blind, va_recv hKB.1 hP (ci := 1) (q0 := 0) rfl rfl, fun U hU hW => ⟨rfl, hKB.warm hW, by rw [hU]; exact hPc⟩⟩ rfl rfl hl.1 rfl (lv_room (Nat.le_of_ble_eq_true rfl)) dX1_choice_79 ⟨Nat.le_of_ble_eq_true rfl, Nat.le_of_ble_eq_true rfl⟩) (fun r7 H locs hw79 hP hS => ?_)
        have hw79 : r7 = bI (isR kd k best) := hw79
        subst hw79
        refine r_bif_eq (b := isR kd k best) (tgt := 91) hx hb dX1_choice_82 (by decide) (fun c82 => ?_) (fun c82 => ?_)
        · skip
          refine lv_iinc (v := nI (k + 1)) (lv' := [(5, .int (nI (k + 1))), (7, .long (lN (lkC num slip tn al k))), (6, .int (nI (shw tn k 3))), (3, .long most), (2, .int (nI best)), (0, .ref lq), (1, .ref cq)]) hx hb dX1_choice_91 hl (k := 2) rfl (n_inc _ 1) (by decide) rfl (fun ls hl => ?_)
          refine lv_goto (tgt := 9) hx hb dX1_choice_94 (by decide) ?_
          exact ih9 (k + 1) best most _ _ _ (by omega) (by omega) (by omega) (lz_s hlz (fun h => by first | exact absurd h c29 | exact decide_eq_false c38)) (by first | exact ch_up hlb c13 hst (Or.inl c64) | exact ch_up hlb c13 hst (Or.inr ⟨c71, c82⟩) | exact ch_no hlb c13 hst c64 (Or.inl c71) | exact ch_no hlb c13 hst c64 (Or.inr c82)) hP hS (lv_sub hl [0, 3, 4, 5, 6] rfl)
        refine lv_iload hx hb dX1_choice_85 (lv_at hl 2 rfl) ?_
        refine lv_istore_n (lv' := [(2, .int (nI k)), (7, .long (lN (lkC num slip tn al k))), (6, .int (nI (shw tn k 3))), (5, .int (nI k)), (3, .long most), (0, .ref lq), (1, .ref cq)]) hx hb dX1_choice_87 rfl hl (by decide) rfl (fun ls hl => ?_)
        refine lv_lload hx hb dX1_choice_88 (lv_at hl 1 rfl) ?_
        refine lv_lstore_n (lv' := [(3, .long (lN (lkC num slip tn al k))), (2, .int (nI k)), (7, .long (lN (lkC num slip tn al k))), (6, .int (nI (shw tn k 3))), (5, .int (nI k)), (0, .ref lq), (1, .ref cq)]) hx hb dX1_choice_90 rfl hl (by decide) rfl (fun ls hl => ?_)
        refine lv_iinc (v := nI (k + 1)) (lv' := [(5, .int (nI (k + 1))), (3, .long (lN (lkC num slip tn al k))), (2, .int (nI k)), (7, .long (lN (lkC num slip tn al k))), (6, .int (nI (shw tn k 3))), (0, .ref lq), (1, .ref cq)]) hx hb dX1_choice_91 hl (k := 4) rfl (n_inc _ 1) (by decide) rfl (fun ls hl => ?_)
        refine lv_goto (tgt := 9) hx hb dX1_choice_94 (by decide) ?_
        exact ih9 (k + 1) k (lN (lkC num slip tn al k)) _ _ _ (by omega) (by omega) (by omega) (lz_s hlz (fun h => by first | exact absurd h c29 | exact decide_eq_false c38)) (by first | exact ch_up hlb c13 hst (Or.inl c64) | exact ch_up hlb c13 hst (Or.inr ⟨c71, c82⟩) | exact ch_no hlb c13 hst c64 (Or.inl c71) | exact ch_no hlb c13 hst c64 (Or.inr c82)) hP hS (lv_sub hl [0, 1, 2, 5, 6] rfl)
      refine lv_iload hx hb dX1_choice_41 (lv_at hl 1 rfl) ?_
      exact r_iret hx hb hr hlk hQ hS (by rw [tk_lazy c29 c13 (hlz c29) (decide_eq_true c38)]) dX1_choice_43
  exact L9 (8 - 0 + 1) 0 0 (-1) _ _ _ (Nat.lt_succ_self _) (by omega) (by omega) (fun _ j hj => absurd hj (Nat.not_lt_zero j)) (Or.inl ⟨rfl, rfl, rfl⟩) hP hS hl


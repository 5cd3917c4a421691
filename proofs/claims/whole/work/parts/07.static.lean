set_option maxHeartbeats 4000000 in
set_option maxRecDepth 100000 in
theorem m_X5_formOf (l : Launch) (D : va_G) (cI cJ : ClassId) (t : Nat) (m2 : Nat) (ht : t < 2 ^ 31) (hm2 : m2 < 32) : Met l yX5_formOf wsX5_formOf ({ frames := 0, cells := 0, slots := 0, locals := 0 }) (PR D cI cJ [] [.int (nI t), .int (nI m2)]) (QRi (fun r => r = nI (fo t m2))) 0 0 NA := by
  refine met_R (cc := cX5_formOf) (maxL := 2) (ret := (some .int)) (by decide) rfl (Nat.le_of_ble_eq_true rfl) ?_
  intro p e s m args below meth c Q ls hQ hAt hKB hP hl
  obtain ⟨hx, hb, hr, hml, hlk, hts, hown, hnm⟩ := hAt
  have hown : s.vm.findClass RX5 = some m.cls := hown
  have hS : va_S NA s.heap s.heap [] := va_S.rf
  have hl : lv_has ls 2 [(0, .int (nI t)), (1, .int (nI m2))] := hl
  refine lv_iload_n hx hb dX5_formOf_0 rfl (lv_at hl 0 rfl) ?_
  refine lv_iload_n hx hb dX5_formOf_1 rfl (lv_at hl 1 rfl) ?_
  refine r_ishr (a := t) (b := m2) hx hb dX5_formOf_2 (by omega) (by omega) ?_
  refine lv_iconst (v := nI (1)) hx hb dX5_formOf_3 (by decide) ?_
  refine r_iand (a := t >>> m2) (b := 1) hx hb dX5_formOf_4  ?_
  exact r_iret hx hb hr hlk hQ hS (rfl) dX5_formOf_5

set_option maxHeartbeats 4000000 in
set_option maxRecDepth 100000 in
theorem m_X5_isBetween (l : Launch) (D : va_G) (cI cJ : ClassId) (v : Int32) (lo : Nat) (hi : Nat) : Met l yX5_isBetween wsX5_isBetween ({ frames := 0, cells := 0, slots := 0, locals := 0 }) (PR D cI cJ [] [.int v, .int (nI lo), .int (nI hi)]) (QRi (fun r => r = bI (inR v lo hi))) 0 0 NA := by
  refine met_R (cc := cX5_isBetween) (maxL := 3) (ret := (some .boolean)) (by decide) rfl (Nat.le_of_ble_eq_true rfl) ?_
  intro p e s m args below meth c Q ls hQ hAt hKB hP hl
  obtain ⟨hx, hb, hr, hml, hlk, hts, hown, hnm⟩ := hAt
  have hown : s.vm.findClass RX5 = some m.cls := hown
  have hS : va_S NA s.heap s.heap [] := va_S.rf
  have hl : lv_has ls 3 [(0, .int v), (1, .int (nI lo)), (2, .int (nI hi))] := hl
  refine lv_iload_n hx hb dX5_isBetween_0 rfl (lv_at hl 0 rfl) ?_
  refine lv_iload_n hx hb dX5_isBetween_1 rfl (lv_at hl 1 rfl) ?_
  refine lv_icmp_lt (tgt := 14) hx hb dX5_isBetween_2 (by decide) (fun c2 => ?_) (fun c2 => ?_)
  · skip
    refine lv_iconst (v := nI (0)) hx hb dX5_isBetween_14 (by decide) ?_
    exact r_zret (b := false) hx hb hr hlk hQ hS rfl (by first | rw [inR_f1 c2] | rw [inR_f2 c7]) dX5_isBetween_15
  refine lv_iload_n hx hb dX5_isBetween_5 rfl (lv_at hl 0 rfl) ?_
  refine lv_iload_n hx hb dX5_isBetween_6 rfl (lv_at hl 2 rfl) ?_
  refine lv_icmp_gt (tgt := 14) hx hb dX5_isBetween_7 (by decide) (fun c7 => ?_) (fun c7 => ?_)
  · skip
    refine lv_iconst (v := nI (0)) hx hb dX5_isBetween_14 (by decide) ?_
    exact r_zret (b := false) hx hb hr hlk hQ hS rfl (by first | rw [inR_f1 c2] | rw [inR_f2 c7]) dX5_isBetween_15
  refine lv_iconst (v := nI (1)) hx hb dX5_isBetween_10 (by decide) ?_
  refine lv_goto (tgt := 15) hx hb dX5_isBetween_11 (by decide) ?_
  exact r_zret (b := true) hx hb hr hlk hQ hS rfl (by rw [inR_tt c2 c7]) dX5_isBetween_15

set_option maxHeartbeats 4000000 in
set_option maxRecDepth 100000 in
theorem m_X5_isTongue (l : Launch) (D : va_G) (cI cJ : ClassId) (v : Int32) : Met l yX5_isTongue wsX5_isTongue ({ frames := 1, cells := 0, slots := 0, locals := 22 }) (PR D cI cJ [] [.int v]) (QRi (fun r => r = bI (inR v 0 7))) 0 0 NA := by
  refine met_R (cc := cX5_isTongue) (maxL := 1) (ret := (some .boolean)) (by decide) rfl (Nat.le_of_ble_eq_true rfl) ?_
  intro p e s m args below meth c Q ls hQ hAt hKB hP hl
  obtain ⟨hx, hb, hr, hml, hlk, hts, hown, hnm⟩ := hAt
  have hown : s.vm.findClass RX5 = some m.cls := hown
  have hS : va_S NA s.heap s.heap [] := va_S.rf
  have hl : lv_has ls 1 [(0, .int v)] := hl
  refine lv_iload_n hx hb dX5_isTongue_0 rfl (lv_at hl 0 rfl) ?_
  refine lv_iconst (v := nI (0)) hx hb dX5_isTongue_1 (by decide) ?_
  refine lv_bipush (v := nI (7)) hx hb dX5_isTongue_2 (by decide) ?_
  have hPc := hP.sub (ws' := []) [] rfl
  refine r_calli hP hS (va_runS (As := [.int v, .int (nI 0), .int (nI 7)]) (rest := []) ⟨hx, hb, hml, hown, hts⟩ (m_X5_isBetween l D cI cJ v 0 7) (va_cwS 3 hts gX5_isTongue_X5_isBetween rfl rfl rfl (by decide +kernel) ⟨Nat.le_of_ble_eq_true rfl, Nat.le_of_ble_eq_true rfl⟩) ⟨PR.blind, fun U hU hW => ⟨rfl, hKB.warm hW, by rw [hU]; exact hPc⟩⟩ rfl rfl hl.1 rfl (lv_room (Nat.le_of_ble_eq_true rfl)) dX5_isTongue_4 ⟨Nat.le_of_ble_eq_true rfl, Nat.le_of_ble_eq_true rfl⟩) (fun r1 H locs hw4 hP hS => ?_)
  have hw4 : r1 = bI (inR v 0 7) := hw4
  subst hw4
  exact r_zret (b := inR v 0 7) hx hb hr hlk hQ hS rfl (rfl) dX5_isTongue_7

set_option maxHeartbeats 4000000 in
set_option maxRecDepth 100000 in
theorem m_X5_isMeaning (l : Launch) (D : va_G) (cI cJ : ClassId) (v : Int32) : Met l yX5_isMeaning wsX5_isMeaning ({ frames := 1, cells := 0, slots := 0, locals := 22 }) (PR D cI cJ [] [.int v]) (QRi (fun r => r = bI (inR v 0 2))) 0 0 NA := by
  refine met_R (cc := cX5_isMeaning) (maxL := 1) (ret := (some .boolean)) (by decide) rfl (Nat.le_of_ble_eq_true rfl) ?_
  intro p e s m args below meth c Q ls hQ hAt hKB hP hl
  obtain ⟨hx, hb, hr, hml, hlk, hts, hown, hnm⟩ := hAt
  have hown : s.vm.findClass RX5 = some m.cls := hown
  have hS : va_S NA s.heap s.heap [] := va_S.rf
  have hl : lv_has ls 1 [(0, .int v)] := hl
  refine lv_iload_n hx hb dX5_isMeaning_0 rfl (lv_at hl 0 rfl) ?_
  refine lv_iconst (v := nI (0)) hx hb dX5_isMeaning_1 (by decide) ?_
  refine lv_iconst (v := nI (2)) hx hb dX5_isMeaning_2 (by decide) ?_
  have hPc := hP.sub (ws' := []) [] rfl
  refine r_calli hP hS (va_runS (As := [.int v, .int (nI 0), .int (nI 2)]) (rest := []) ⟨hx, hb, hml, hown, hts⟩ (m_X5_isBetween l D cI cJ v 0 2) (va_cwS 3 hts gX5_isMeaning_X5_isBetween rfl rfl rfl (by decide +kernel) ⟨Nat.le_of_ble_eq_true rfl, Nat.le_of_ble_eq_true rfl⟩) ⟨PR.blind, fun U hU hW => ⟨rfl, hKB.warm hW, by rw [hU]; exact hPc⟩⟩ rfl rfl hl.1 rfl (lv_room (Nat.le_of_ble_eq_true rfl)) dX5_isMeaning_3 ⟨Nat.le_of_ble_eq_true rfl, Nat.le_of_ble_eq_true rfl⟩) (fun r1 H locs hw3 hP hS => ?_)
  have hw3 : r1 = bI (inR v 0 2) := hw3
  subst hw3
  exact r_zret (b := inR v 0 2) hx hb hr hlk hQ hS rfl (rfl) dX5_isMeaning_6

set_option maxHeartbeats 4000000 in
set_option maxRecDepth 100000 in
theorem m_X5_isForm (l : Launch) (D : va_G) (cI cJ : ClassId) (v : Int32) : Met l yX5_isForm wsX5_isForm ({ frames := 1, cells := 0, slots := 0, locals := 22 }) (PR D cI cJ [] [.int v]) (QRi (fun r => r = bI (inR v 0 1))) 0 0 NA := by
  refine met_R (cc := cX5_isForm) (maxL := 1) (ret := (some .boolean)) (by decide) rfl (Nat.le_of_ble_eq_true rfl) ?_
  intro p e s m args below meth c Q ls hQ hAt hKB hP hl
  obtain ⟨hx, hb, hr, hml, hlk, hts, hown, hnm⟩ := hAt
  have hown : s.vm.findClass RX5 = some m.cls := hown
  have hS : va_S NA s.heap s.heap [] := va_S.rf
  have hl : lv_has ls 1 [(0, .int v)] := hl
  refine lv_iload_n hx hb dX5_isForm_0 rfl (lv_at hl 0 rfl) ?_
  refine lv_iconst (v := nI (0)) hx hb dX5_isForm_1 (by decide) ?_
  refine lv_iconst (v := nI (1)) hx hb dX5_isForm_2 (by decide) ?_
  have hPc := hP.sub (ws' := []) [] rfl
  refine r_calli hP hS (va_runS (As := [.int v, .int (nI 0), .int (nI 1)]) (rest := []) ⟨hx, hb, hml, hown, hts⟩ (m_X5_isBetween l D cI cJ v 0 1) (va_cwS 3 hts gX5_isForm_X5_isBetween rfl rfl rfl (by decide +kernel) ⟨Nat.le_of_ble_eq_true rfl, Nat.le_of_ble_eq_true rfl⟩) ⟨PR.blind, fun U hU hW => ⟨rfl, hKB.warm hW, by rw [hU]; exact hPc⟩⟩ rfl rfl hl.1 rfl (lv_room (Nat.le_of_ble_eq_true rfl)) dX5_isForm_3 ⟨Nat.le_of_ble_eq_true rfl, Nat.le_of_ble_eq_true rfl⟩) (fun r1 H locs hw3 hP hS => ?_)
  have hw3 : r1 = bI (inR v 0 1) := hw3
  subst hw3
  exact r_zret (b := inR v 0 1) hx hb hr hlk hQ hS rfl (rfl) dX5_isForm_6

set_option maxHeartbeats 4000000 in
set_option maxRecDepth 100000 in
theorem m_X5_isPart (l : Launch) (D : va_G) (cI cJ : ClassId) (v : Int32) : Met l yX5_isPart wsX5_isPart ({ frames := 1, cells := 0, slots := 0, locals := 22 }) (PR D cI cJ [] [.int v]) (QRi (fun r => r = bI (inR v 0 1))) 0 0 NA := by
  refine met_R (cc := cX5_isPart) (maxL := 1) (ret := (some .boolean)) (by decide) rfl (Nat.le_of_ble_eq_true rfl) ?_
  intro p e s m args below meth c Q ls hQ hAt hKB hP hl
  obtain ⟨hx, hb, hr, hml, hlk, hts, hown, hnm⟩ := hAt
  have hown : s.vm.findClass RX5 = some m.cls := hown
  have hS : va_S NA s.heap s.heap [] := va_S.rf
  have hl : lv_has ls 1 [(0, .int v)] := hl
  refine lv_iload_n hx hb dX5_isPart_0 rfl (lv_at hl 0 rfl) ?_
  refine lv_iconst (v := nI (0)) hx hb dX5_isPart_1 (by decide) ?_
  refine lv_iconst (v := nI (1)) hx hb dX5_isPart_2 (by decide) ?_
  have hPc := hP.sub (ws' := []) [] rfl
  refine r_calli hP hS (va_runS (As := [.int v, .int (nI 0), .int (nI 1)]) (rest := []) ⟨hx, hb, hml, hown, hts⟩ (m_X5_isBetween l D cI cJ v 0 1) (va_cwS 3 hts gX5_isPart_X5_isBetween rfl rfl rfl (by decide +kernel) ⟨Nat.le_of_ble_eq_true rfl, Nat.le_of_ble_eq_true rfl⟩) ⟨PR.blind, fun U hU hW => ⟨rfl, hKB.warm hW, by rw [hU]; exact hPc⟩⟩ rfl rfl hl.1 rfl (lv_room (Nat.le_of_ble_eq_true rfl)) dX5_isPart_3 ⟨Nat.le_of_ble_eq_true rfl, Nat.le_of_ble_eq_true rfl⟩) (fun r1 H locs hw3 hP hS => ?_)
  have hw3 : r1 = bI (inR v 0 1) := hw3
  subst hw3
  exact r_zret (b := inR v 0 1) hx hb hr hlk hQ hS rfl (rfl) dX5_isPart_6

set_option maxHeartbeats 4000000 in
set_option maxRecDepth 100000 in
theorem m_X5_refusalOf (l : Launch) (D : va_G) (cI cJ : ClassId) (kn : Bool) (ins : Bool) : Met l yX5_refusalOf wsX5_refusalOf ({ frames := 0, cells := 0, slots := 0, locals := 0 }) (PR D cI cJ [] [.int (bI kn), .int (bI ins)]) (QRi (fun r => r = rfo kn ins)) 0 0 NA := by
  refine met_R (cc := cX5_refusalOf) (maxL := 2) (ret := (some .int)) (by decide) rfl (Nat.le_of_ble_eq_true rfl) ?_
  intro p e s m args below meth c Q ls hQ hAt hKB hP hl
  obtain ⟨hx, hb, hr, hml, hlk, hts, hown, hnm⟩ := hAt
  have hown : s.vm.findClass RX5 = some m.cls := hown
  have hS : va_S NA s.heap s.heap [] := va_S.rf
  have hl : lv_has ls 2 [(0, .int (bI kn)), (1, .int (bI ins))] := hl
  refine lv_iload_n hx hb dX5_refusalOf_0 rfl (lv_at hl 0 rfl) ?_
  refine r_bif_ne (b := kn) (tgt := 6) hx hb dX5_refusalOf_1 (by decide) (fun c1 => ?_) (fun c1 => ?_)
  · skip
    refine lv_iload_n hx hb dX5_refusalOf_6 rfl (lv_at hl 1 rfl) ?_
    refine r_bif_eq (b := ins) (tgt := 14) hx hb dX5_refusalOf_7 (by decide) (fun c7 => ?_) (fun c7 => ?_)
    · skip
      refine lv_bipush (v := (-2)) hx hb dX5_refusalOf_14 (by decide) ?_
      exact r_iret hx hb hr hlk hQ hS (by rw [c1, c7]; rfl) dX5_refusalOf_16
    refine lv_iconst (v := nI (0)) hx hb dX5_refusalOf_10 (by decide) ?_
    refine lv_goto (tgt := 16) hx hb dX5_refusalOf_11 (by decide) ?_
    exact r_iret hx hb hr hlk hQ hS (by rw [c1, c7]; rfl) dX5_refusalOf_16
  refine lv_iconst (v := (-1)) hx hb dX5_refusalOf_4 (by decide) ?_
  exact r_iret hx hb hr hlk hQ hS (by rw [c1]; rfl) dX5_refusalOf_5

set_option maxHeartbeats 4000000 in
set_option maxRecDepth 100000 in
theorem m_X5_power (l : Launch) (D : va_G) (cI cJ : ClassId) (bs : Nat) (tm : Nat) (htm : tm < 2 ^ 31) : Met l yX5_power wsX5_power ({ frames := 0, cells := 0, slots := 0, locals := 0 }) (PR D cI cJ [] [.long (lN bs), .int (nI tm)]) (QRl (fun r => r = lN (pw bs tm))) 0 0 NA := by
  refine met_R (cc := cX5_power) (maxL := 6) (ret := (some .long)) (by decide) rfl (Nat.le_of_ble_eq_true rfl) ?_
  intro p e s m args below meth c Q ls hQ hAt hKB hP hl
  obtain ⟨hx, hb, hr, hml, hlk, hts, hown, hnm⟩ := hAt
  have hown : s.vm.findClass RX5 = some m.cls := hown
  have hS : va_S NA s.heap s.heap [] := va_S.rf
  have hl : lv_has ls 6 [(0, .long (lN bs)), (2, .int (nI tm))] := hl
  refine lv_lconst (v := lN (1)) hx hb dX5_power_0 (by decide) ?_
  refine lv_lstore_n (lv' := [(3, .long (lN 1)), (0, .long (lN bs)), (2, .int (nI tm))]) hx hb dX5_power_1 rfl hl (by decide) rfl (fun ls hl => ?_)
  refine lv_iconst (v := nI (0)) hx hb dX5_power_2 (by decide) ?_
  refine lv_istore (lv' := [(5, .int (nI 0)), (3, .long (lN 1)), (0, .long (lN bs)), (2, .int (nI tm))]) hx hb dX5_power_3 hl (by decide) rfl (fun ls hl => ?_)
  have L5 : ∀ (n : Nat) (k : Nat) (H : Heap) (locs : List Loc) (ls : Array Slot), tm - k < n → (k ≤ tm) → va_P D vwCl [] H → va_S NA s.heap H locs → lv_has ls 6 [(5, .int (nI k)), (3, .long (lN (pw bs k))), (0, .long (lN bs)), (2, .int (nI tm))] → W p l e ({ frames := 0, cells := 0, slots := 0, locals := 0 }) s m args below meth c H locs 0 0 Q (F0 m 5 ls []) := by
    intro n
    induction n with
    | zero => intro k H locs ls hm; exact absurd hm (Nat.not_lt_zero _)
    | succ n ih5 =>
      intro k H locs ls hm hk hP hS hl
      refine lv_iload hx hb dX5_power_5 (lv_at hl 0 rfl) ?_
      refine lv_iload_n hx hb dX5_power_7 rfl (lv_at hl 3 rfl) ?_
      refine r_icmp_ge (a := k) (b := tm) (tgt := 21) hx hb dX5_power_8 (by decide) (by omega) (by omega)  (fun c8 => ?_) (fun c8 => ?_)
      · skip
        refine lv_lload_n hx hb dX5_power_21 rfl (lv_at hl 1 rfl) ?_
        exact r_lret hx hb hr hlk hQ hS (by rw [show k = tm by omega]) dX5_power_22
      refine lv_lload_n hx hb dX5_power_11 rfl (lv_at hl 1 rfl) ?_
      refine lv_lload_n hx hb dX5_power_12 rfl (lv_at hl 2 rfl) ?_
      refine r_lmul (a := pw bs k) (b := bs) hx hb dX5_power_13  ?_
      refine lv_lstore_n (lv' := [(3, .long (lN ((pw bs k) * bs))), (5, .int (nI k)), (0, .long (lN bs)), (2, .int (nI tm))]) hx hb dX5_power_14 rfl hl (by decide) rfl (fun ls hl => ?_)
      refine lv_iinc (v := nI (k + 1)) (lv' := [(5, .int (nI (k + 1))), (3, .long (lN ((pw bs k) * bs))), (0, .long (lN bs)), (2, .int (nI tm))]) hx hb dX5_power_15 hl (k := 1) rfl (n_inc _ 1) (by decide) rfl (fun ls hl => ?_)
      refine lv_goto (tgt := 5) hx hb dX5_power_18 (by decide) ?_
      exact ih5 (k + 1) _ _ _ (by omega) (by omega) hP hS hl
  exact L5 (tm - 0 + 1) 0 _ _ _ (Nat.lt_succ_self _) (by omega) hP hS hl

set_option maxHeartbeats 4000000 in
set_option maxRecDepth 100000 in
theorem m_X5_commonDivisor (l : Launch) (D : va_G) (cI cJ : ClassId) (a : Nat) (b : Nat) (ha : a < 2 ^ 63) (hb2 : b < 2 ^ 63) : Met l yX5_commonDivisor wsX5_commonDivisor ({ frames := 0, cells := 0, slots := 0, locals := 0 }) (PR D cI cJ [] [.long (lN a), .long (lN b)]) (QRl (fun r => r = lN (Nat.gcd a b))) 0 0 NA := by
  refine met_R (cc := cX5_commonDivisor) (maxL := 11) (ret := (some .long)) (by decide) rfl (Nat.le_of_ble_eq_true rfl) ?_
  intro p e s m args below meth c Q ls hQ hAt hKB hP hl
  obtain ⟨hx, hb, hr, hml, hlk, hts, hown, hnm⟩ := hAt
  have hown : s.vm.findClass RX5 = some m.cls := hown
  have hS : va_S NA s.heap s.heap [] := va_S.rf
  have hl : lv_has ls 11 [(0, .long (lN a)), (2, .long (lN b))] := hl
  refine lv_lload_n hx hb dX5_commonDivisor_0 rfl (lv_at hl 0 rfl) ?_
  refine lv_lstore (lv' := [(4, .long (lN a)), (0, .long (lN a)), (2, .long (lN b))]) hx hb dX5_commonDivisor_1 hl (by decide) rfl (fun ls hl => ?_)
  refine lv_lload_n hx hb dX5_commonDivisor_3 rfl (lv_at hl 2 rfl) ?_
  refine lv_lstore (lv' := [(6, .long (lN b)), (4, .long (lN a)), (0, .long (lN a)), (2, .long (lN b))]) hx hb dX5_commonDivisor_4 hl (by decide) rfl (fun ls hl => ?_)
  refine lv_iconst (v := nI (0)) hx hb dX5_commonDivisor_6 (by decide) ?_
  refine lv_istore (lv' := [(8, .int (nI 0)), (6, .long (lN b)), (4, .long (lN a)), (0, .long (lN a)), (2, .long (lN b))]) hx hb dX5_commonDivisor_7 hl (by decide) rfl (fun ls hl => ?_)
  have L9 : ∀ (n : Nat) (x : Nat) (y : Nat) (k : Nat) (H : Heap) (locs : List Loc) (ls : Array Slot), 1000 - k < n → (k ≤ 1000) → (x < 2 ^ 63) → (y < 2 ^ 63) → (Nat.gcd x y = Nat.gcd a b) → (0 < k → x * y * 2 ^ k < 2 ^ 127) → (k = 0 → x * y < 2 ^ 126) → (0 < k → y ≤ x) → va_P D vwCl [] H → va_S NA s.heap H locs → lv_has ls 11 [(8, .int (nI k)), (6, .long (lN y)), (4, .long (lN x)), (0, .long (lN a)), (2, .long (lN b))] → W p l e ({ frames := 0, cells := 0, slots := 0, locals := 0 }) s m args below meth c H locs 0 0 Q (F0 m 9 ls []) := by
    intro n
    induction n with
    | zero => intro x y k H locs ls hm; exact absurd hm (Nat.not_lt_zero _)
    | succ n ih9 =>
      intro x y k H locs ls hm hk hxb hyb hg h1 h0 hle hP hS hl
      refine lv_iload hx hb dX5_commonDivisor_9 (lv_at hl 0 rfl) ?_
      refine lv_sipush (v := nI (1000)) hx hb dX5_commonDivisor_11 (by decide) ?_
      refine r_icmp_ge (a := k) (b := 1000) (tgt := 45) hx hb dX5_commonDivisor_14 (by decide) (by omega) (by omega)  (fun c14 => ?_) (fun c14 => ?_)
      · skip
        refine lv_lload hx hb dX5_commonDivisor_45 (lv_at hl 2 rfl) ?_
        exact r_lret hx hb hr hlk hQ hS (by first | (have hy0 := lN_eq0 hyb c20; subst hy0; rw [← hg, Nat.gcd_zero_right]) | (have hy0 := eu_end c14 h1 hle; subst hy0; rw [← hg, Nat.gcd_zero_right])) dX5_commonDivisor_47
      refine lv_lload hx hb dX5_commonDivisor_17 (lv_at hl 1 rfl) ?_
      refine lv_lconst (v := lN (0)) hx hb dX5_commonDivisor_19 (by decide) ?_
      refine r_lcmp_eq (x := lN (y)) (y := lN (0)) (tgt := 45) hx hb dX5_commonDivisor_20 dX5_commonDivisor_21 (by decide) (fun c20 => ?_) (fun c20 => ?_)
      · skip
        refine lv_lload hx hb dX5_commonDivisor_45 (lv_at hl 2 rfl) ?_
        exact r_lret hx hb hr hlk hQ hS (by first | (have hy0 := lN_eq0 hyb c20; subst hy0; rw [← hg, Nat.gcd_zero_right]) | (have hy0 := eu_end c14 h1 hle; subst hy0; rw [← hg, Nat.gcd_zero_right])) dX5_commonDivisor_47
      refine lv_lload hx hb dX5_commonDivisor_24 (lv_at hl 2 rfl) ?_
      refine lv_lload hx hb dX5_commonDivisor_26 (lv_at hl 1 rfl) ?_
      refine r_lrem (a := x) (b := y) hx hb dX5_commonDivisor_28 hxb (lN_ne c20) hyb ?_
      refine lv_lstore (lv' := [(9, .long (lN (x % y))), (8, .int (nI k)), (6, .long (lN y)), (4, .long (lN x)), (0, .long (lN a)), (2, .long (lN b))]) hx hb dX5_commonDivisor_29 hl (by decide) rfl (fun ls hl => ?_)
      refine lv_lload hx hb dX5_commonDivisor_31 (lv_at hl 2 rfl) ?_
      refine lv_lstore (lv' := [(4, .long (lN y)), (9, .long (lN (x % y))), (8, .int (nI k)), (6, .long (lN y)), (0, .long (lN a)), (2, .long (lN b))]) hx hb dX5_commonDivisor_33 hl (by decide) rfl (fun ls hl => ?_)
      refine lv_lload hx hb dX5_commonDivisor_35 (lv_at hl 1 rfl) ?_
      refine lv_lstore (lv' := [(6, .long (lN (x % y))), (4, .long (lN y)), (9, .long (lN (x % y))), (8, .int (nI k)), (0, .long (lN a)), (2, .long (lN b))]) hx hb dX5_commonDivisor_37 hl (by decide) rfl (fun ls hl => ?_)
      refine lv_iinc (v := nI (k + 1)) (lv' := [(8, .int (nI (k + 1))), (6, .long (lN (x % y))), (4, .long (lN y)), (9, .long (lN (x % y))), (0, .long (lN a)), (2, .long (lN b))]) hx hb dX5_commonDivisor_39 hl (k := 3) rfl (n_inc _ 1) (by decide) rfl (fun ls hl => ?_)
      refine lv_goto (tgt := 9) hx hb dX5_commonDivisor_42 (by decide) ?_
      exact ih9 y (x % y) (k + 1) _ _ _ (by omega) (by omega) (hyb) (Nat.lt_trans (Nat.mod_lt _ (lN_ne c20)) hyb) ((eu_gcd x y).trans hg) (fun _ => eu_bd (lN_ne c20) h1 h0 hle) (fun h => absurd h (by omega)) (fun _ => Nat.le_of_lt (Nat.mod_lt _ (lN_ne c20))) hP hS (lv_sub hl [0, 1, 2, 4, 5] rfl)
  exact L9 (1000 - 0 + 1) a b 0 _ _ _ (Nat.lt_succ_self _) (by omega) (ha) (hb2) (rfl) (fun h => absurd h (Nat.lt_irrefl 0)) (fun _ => Nat.lt_of_lt_of_le (Nat.mul_lt_mul_of_lt_of_lt ha hb2) (by decide)) (fun h => absurd h (Nat.lt_irrefl 0)) hP hS hl

set_option maxHeartbeats 4000000 in
set_option maxRecDepth 100000 in
theorem m_X5_fraction (l : Launch) (D : va_G) (cI cJ : ClassId) (a : Nat) (b : Nat) (pt : Nat) (ha : a < 2 ^ 63) (hb2 : b < 2 ^ 63) (hpt : pt ≤ 1) : Met l yX5_fraction wsX5_fraction ({ frames := 1, cells := 0, slots := 0, locals := 30 }) (PR D cI cJ [] [.long (lN a), .long (lN b), .int (nI pt)]) (QRl (fun r => r = lN (lwst a b pt))) 0 0 NA := by
  refine met_R (cc := cX5_fraction) (maxL := 7) (ret := (some .long)) (by decide) rfl (Nat.le_of_ble_eq_true rfl) ?_
  intro p e s m args below meth c Q ls hQ hAt hKB hP hl
  obtain ⟨hx, hb, hr, hml, hlk, hts, hown, hnm⟩ := hAt
  have hown : s.vm.findClass RX5 = some m.cls := hown
  have hS : va_S NA s.heap s.heap [] := va_S.rf
  have hl : lv_has ls 7 [(0, .long (lN a)), (2, .long (lN b)), (4, .int (nI pt))] := hl
  refine lv_lload_n hx hb dX5_fraction_0 rfl (lv_at hl 0 rfl) ?_
  refine lv_lconst (v := lN (0)) hx hb dX5_fraction_1 (by decide) ?_
  refine r_lcmp_le (x := lN (a)) (y := lN (0)) (tgt := 12) hx hb dX5_fraction_2 dX5_fraction_3 (by decide) (fun c2 => ?_) (fun c2 => ?_)
  · skip
    have hpt0 : lwst a b pt = pt := by first | (have h0 := lN_le0 ha c2; subst h0; exact lwst_a0 hpt) | (have h0 : b = 0 := lN_le0 hb2 (Int64.not_lt.mp c8); subst h0; exact lwst_b0)
    refine lv_iload hx hb dX5_fraction_12 (lv_at hl 2 rfl) ?_
    refine r_if_ne (a := pt) (tgt := 21) hx hb dX5_fraction_14 (by decide) (by omega) (fun c14 => ?_) (fun c14 => ?_)
    · skip
      refine lv_lconst (v := lN (1)) hx hb dX5_fraction_21 (by decide) ?_
      exact r_lret hx hb hr hlk hQ hS (by rw [hpt0, show pt = 1 by omega]) dX5_fraction_22
    refine lv_lconst (v := lN (0)) hx hb dX5_fraction_17 (by decide) ?_
    refine lv_goto (tgt := 22) hx hb dX5_fraction_18 (by decide) ?_
    exact r_lret hx hb hr hlk hQ hS (by rw [hpt0, show pt = 0 by omega]) dX5_fraction_22
  refine lv_lload_n hx hb dX5_fraction_6 rfl (lv_at hl 1 rfl) ?_
  refine lv_lconst (v := lN (0)) hx hb dX5_fraction_7 (by decide) ?_
  refine r_lcmp_gt (x := lN (b)) (y := lN (0)) (tgt := 23) hx hb dX5_fraction_8 dX5_fraction_9 (by decide) (fun c8 => ?_) (fun c8 => ?_)
  · skip
    have ha0 : 0 < a := lN_gt0 ha (Int64.not_le.mp c2)
    have hb0 : 0 < b := lN_gt0 hb2 c8
    have hgp := gcd_pos (a := a) hb0
    have hgl := gcd_lt (a := a) hb0 hb2
    refine lv_lload_n hx hb dX5_fraction_23 rfl (lv_at hl 0 rfl) ?_
    refine lv_lload_n hx hb dX5_fraction_24 rfl (lv_at hl 1 rfl) ?_
    have hPc := hP.sub (ws' := []) [] rfl
    refine r_calll hP hS (va_runS (As := [.long (lN a), .long (lN b)]) (rest := []) ⟨hx, hb, hml, hown, hts⟩ (m_X5_commonDivisor l D cI cJ a b (by omega) (by omega)) (va_cwS 2 hts gX5_fraction_X5_commonDivisor rfl rfl rfl (by decide +kernel) ⟨Nat.le_of_ble_eq_true rfl, Nat.le_of_ble_eq_true rfl⟩) ⟨PR.blind, fun U hU hW => ⟨rfl, hKB.warm hW, by rw [hU]; exact hPc⟩⟩ rfl rfl hl.1 rfl (lv_room (Nat.le_of_ble_eq_true rfl)) dX5_fraction_25 ⟨Nat.le_of_ble_eq_true rfl, Nat.le_of_ble_eq_true rfl⟩) (fun r1 H locs hw25 hP hS => ?_)
    have hw25 : r1 = lN (Nat.gcd a b) := hw25
    subst hw25
    refine lv_lstore (lv' := [(5, .long (lN (Nat.gcd a b))), (0, .long (lN a)), (2, .long (lN b)), (4, .int (nI pt))]) hx hb dX5_fraction_28 hl (by decide) rfl (fun ls hl => ?_)
    refine lv_lload hx hb dX5_fraction_30 (lv_at hl 0 rfl) ?_
    refine lv_lconst (v := lN (0)) hx hb dX5_fraction_32 (by decide) ?_
    refine r_lcmp_gt (x := lN (Nat.gcd a b)) (y := lN (0)) (tgt := 41) hx hb dX5_fraction_33 dX5_fraction_34 (by decide) (fun c33 => ?_) (fun c33 => ?_)
    · skip
      refine lv_iload hx hb dX5_fraction_41 (lv_at hl 3 rfl) ?_
      refine r_if_ne (a := pt) (tgt := 50) hx hb dX5_fraction_43 (by decide) (by omega) (fun c43 => ?_) (fun c43 => ?_)
      · skip
        refine lv_lload_n hx hb dX5_fraction_50 rfl (lv_at hl 2 rfl) ?_
        refine lv_lload hx hb dX5_fraction_51 (lv_at hl 0 rfl) ?_
        refine r_ldiv (a := b) (b := Nat.gcd a b) hx hb dX5_fraction_53 (by assumption) hgp hgl ?_
        exact r_lret hx hb hr hlk hQ hS (by simp only [lwst]; rw [if_neg (by omega)]; first | rw [if_pos c43] | rw [if_neg c43]) dX5_fraction_54
      refine lv_lload_n hx hb dX5_fraction_46 rfl (lv_at hl 1 rfl) ?_
      refine lv_goto (tgt := 51) hx hb dX5_fraction_47 (by decide) ?_
      refine lv_lload hx hb dX5_fraction_51 (lv_at hl 0 rfl) ?_
      refine r_ldiv (a := a) (b := Nat.gcd a b) hx hb dX5_fraction_53 (by assumption) hgp hgl ?_
      exact r_lret hx hb hr hlk hQ hS (by simp only [lwst]; rw [if_neg (by omega)]; first | rw [if_pos c43] | rw [if_neg c43]) dX5_fraction_54
    exact absurd ((pk_lLT (by decide) hgl).mpr hgp) c33
  have hpt0 : lwst a b pt = pt := by first | (have h0 := lN_le0 ha c2; subst h0; exact lwst_a0 hpt) | (have h0 : b = 0 := lN_le0 hb2 (Int64.not_lt.mp c8); subst h0; exact lwst_b0)
  refine lv_iload hx hb dX5_fraction_12 (lv_at hl 2 rfl) ?_
  refine r_if_ne (a := pt) (tgt := 21) hx hb dX5_fraction_14 (by decide) (by omega) (fun c14 => ?_) (fun c14 => ?_)
  · skip
    refine lv_lconst (v := lN (1)) hx hb dX5_fraction_21 (by decide) ?_
    exact r_lret hx hb hr hlk hQ hS (by rw [hpt0, show pt = 1 by omega]) dX5_fraction_22
  refine lv_lconst (v := lN (0)) hx hb dX5_fraction_17 (by decide) ?_
  refine lv_goto (tgt := 22) hx hb dX5_fraction_18 (by decide) ?_
  exact r_lret hx hb hr hlk hQ hS (by rw [hpt0, show pt = 0 by omega]) dX5_fraction_22

set_option maxHeartbeats 4000000 in
set_option maxRecDepth 100000 in
theorem m_X6_in (l : Launch) (D : va_G) (cI cJ : ClassId) (v : Int64) (lo : Int64) (hi : Int64) : Met l yX6_in wsX6_in ({ frames := 0, cells := 0, slots := 0, locals := 0 }) (PR D cI cJ [] [.long v, .long lo, .long hi]) (QRi (fun r => r = bI (inL v lo hi))) 0 0 NA := by
  refine met_R (cc := cX6_in) (maxL := 6) (ret := (some .boolean)) (by decide) rfl (Nat.le_of_ble_eq_true rfl) ?_
  intro p e s m args below meth c Q ls hQ hAt hKB hP hl
  obtain ⟨hx, hb, hr, hml, hlk, hts, hown, hnm⟩ := hAt
  have hown : s.vm.findClass RX6 = some m.cls := hown
  have hS : va_S NA s.heap s.heap [] := va_S.rf
  have hl : lv_has ls 6 [(0, .long v), (2, .long lo), (4, .long hi)] := hl
  refine lv_lload_n hx hb dX6_in_0 rfl (lv_at hl 0 rfl) ?_
  refine lv_lload_n hx hb dX6_in_1 rfl (lv_at hl 1 rfl) ?_
  refine r_lcmp_lt (x := v) (y := lo) (tgt := 17) hx hb dX6_in_2 dX6_in_3 (by decide) (fun c2 => ?_) (fun c2 => ?_)
  · skip
    refine lv_iconst (v := nI (0)) hx hb dX6_in_17 (by decide) ?_
    exact r_zret (b := false) hx hb hr hlk hQ hS rfl (by first | rw [inL_f1 c2] | rw [inL_f2 c9]) dX6_in_18
  refine lv_lload_n hx hb dX6_in_6 rfl (lv_at hl 0 rfl) ?_
  refine lv_lload hx hb dX6_in_7 (lv_at hl 2 rfl) ?_
  refine r_lcmp_gt (x := v) (y := hi) (tgt := 17) hx hb dX6_in_9 dX6_in_10 (by decide) (fun c9 => ?_) (fun c9 => ?_)
  · skip
    refine lv_iconst (v := nI (0)) hx hb dX6_in_17 (by decide) ?_
    exact r_zret (b := false) hx hb hr hlk hQ hS rfl (by first | rw [inL_f1 c2] | rw [inL_f2 c9]) dX6_in_18
  refine lv_iconst (v := nI (1)) hx hb dX6_in_13 (by decide) ?_
  refine lv_goto (tgt := 18) hx hb dX6_in_14 (by decide) ?_
  exact r_zret (b := true) hx hb hr hlk hQ hS rfl (by rw [inL_tt c2 c9]) dX6_in_18

set_option maxHeartbeats 4000000 in
set_option maxRecDepth 100000 in
theorem m_X6_isTongue (l : Launch) (D : va_G) (cI cJ : ClassId) (v : Int32) : Met l yX6_isTongue wsX6_isTongue ({ frames := 1, cells := 0, slots := 0, locals := 25 }) (PR D cI cJ [] [.int v]) (QRi (fun r => r = bI (inR v 0 7))) 0 0 NA := by
  refine met_R (cc := cX6_isTongue) (maxL := 1) (ret := (some .boolean)) (by decide) rfl (Nat.le_of_ble_eq_true rfl) ?_
  intro p e s m args below meth c Q ls hQ hAt hKB hP hl
  obtain ⟨hx, hb, hr, hml, hlk, hts, hown, hnm⟩ := hAt
  have hown : s.vm.findClass RX6 = some m.cls := hown
  have hS : va_S NA s.heap s.heap [] := va_S.rf
  have hl : lv_has ls 1 [(0, .int v)] := hl
  have kl57 := hts (.constantLong RX6 57 (lN (7))) (by decide +kernel)
  refine lv_iload_n hx hb dX6_isTongue_0 rfl (lv_at hl 0 rfl) ?_
  refine lv_i2l (v := v.toInt64) hx hb dX6_isTongue_1 rfl ?_
  refine lv_lconst (v := lN (0)) hx hb dX6_isTongue_2 (by decide) ?_
  refine lv_ldc2 hx hb hown kl57 dX6_isTongue_3 ?_
  have hPc := hP.sub (ws' := []) [] rfl
  refine r_calli hP hS (va_runS (As := [.long (v.toInt64), .long (lN 0), .long (lN 7)]) (rest := []) ⟨hx, hb, hml, hown, hts⟩ (m_X6_in l D cI cJ (v.toInt64) (lN (0)) (lN (7))) (va_cwS 3 hts gX6_isTongue_X6_in rfl rfl rfl (by decide +kernel) ⟨Nat.le_of_ble_eq_true rfl, Nat.le_of_ble_eq_true rfl⟩) ⟨PR.blind, fun U hU hW => ⟨rfl, hKB.warm hW, by rw [hU]; exact hPc⟩⟩ rfl rfl hl.1 rfl (lv_room (Nat.le_of_ble_eq_true rfl)) dX6_isTongue_6 ⟨Nat.le_of_ble_eq_true rfl, Nat.le_of_ble_eq_true rfl⟩) (fun r1 H locs hw6 hP hS => ?_)
  have hw6 : r1 = bI (inL (v.toInt64) (lN (0)) (lN (7))) := hw6
  subst hw6
  exact r_zret (b := inL (v.toInt64) (lN (0)) (lN (7))) hx hb hr hlk hQ hS rfl (by rw [inL_R (by decide) (by decide)]) dX6_isTongue_9

set_option maxHeartbeats 4000000 in
set_option maxRecDepth 100000 in
theorem m_X6_isMeaning (l : Launch) (D : va_G) (cI cJ : ClassId) (v : Int32) : Met l yX6_isMeaning wsX6_isMeaning ({ frames := 1, cells := 0, slots := 0, locals := 25 }) (PR D cI cJ [] [.int v]) (QRi (fun r => r = bI (inR v 0 2))) 0 0 NA := by
  refine met_R (cc := cX6_isMeaning) (maxL := 1) (ret := (some .boolean)) (by decide) rfl (Nat.le_of_ble_eq_true rfl) ?_
  intro p e s m args below meth c Q ls hQ hAt hKB hP hl
  obtain ⟨hx, hb, hr, hml, hlk, hts, hown, hnm⟩ := hAt
  have hown : s.vm.findClass RX6 = some m.cls := hown
  have hS : va_S NA s.heap s.heap [] := va_S.rf
  have hl : lv_has ls 1 [(0, .int v)] := hl
  have kl51 := hts (.constantLong RX6 51 (lN (2))) (by decide +kernel)
  refine lv_iload_n hx hb dX6_isMeaning_0 rfl (lv_at hl 0 rfl) ?_
  refine lv_i2l (v := v.toInt64) hx hb dX6_isMeaning_1 rfl ?_
  refine lv_lconst (v := lN (0)) hx hb dX6_isMeaning_2 (by decide) ?_
  refine lv_ldc2 hx hb hown kl51 dX6_isMeaning_3 ?_
  have hPc := hP.sub (ws' := []) [] rfl
  refine r_calli hP hS (va_runS (As := [.long (v.toInt64), .long (lN 0), .long (lN 2)]) (rest := []) ⟨hx, hb, hml, hown, hts⟩ (m_X6_in l D cI cJ (v.toInt64) (lN (0)) (lN (2))) (va_cwS 3 hts gX6_isMeaning_X6_in rfl rfl rfl (by decide +kernel) ⟨Nat.le_of_ble_eq_true rfl, Nat.le_of_ble_eq_true rfl⟩) ⟨PR.blind, fun U hU hW => ⟨rfl, hKB.warm hW, by rw [hU]; exact hPc⟩⟩ rfl rfl hl.1 rfl (lv_room (Nat.le_of_ble_eq_true rfl)) dX6_isMeaning_6 ⟨Nat.le_of_ble_eq_true rfl, Nat.le_of_ble_eq_true rfl⟩) (fun r1 H locs hw6 hP hS => ?_)
  have hw6 : r1 = bI (inL (v.toInt64) (lN (0)) (lN (2))) := hw6
  subst hw6
  exact r_zret (b := inL (v.toInt64) (lN (0)) (lN (2))) hx hb hr hlk hQ hS rfl (by rw [inL_R (by decide) (by decide)]) dX6_isMeaning_9

set_option maxHeartbeats 4000000 in
set_option maxRecDepth 100000 in
theorem m_X6_isPart (l : Launch) (D : va_G) (cI cJ : ClassId) (v : Int32) : Met l yX6_isPart wsX6_isPart ({ frames := 1, cells := 0, slots := 0, locals := 25 }) (PR D cI cJ [] [.int v]) (QRi (fun r => r = bI (inR v 0 1))) 0 0 NA := by
  refine met_R (cc := cX6_isPart) (maxL := 1) (ret := (some .boolean)) (by decide) rfl (Nat.le_of_ble_eq_true rfl) ?_
  intro p e s m args below meth c Q ls hQ hAt hKB hP hl
  obtain ⟨hx, hb, hr, hml, hlk, hts, hown, hnm⟩ := hAt
  have hown : s.vm.findClass RX6 = some m.cls := hown
  have hS : va_S NA s.heap s.heap [] := va_S.rf
  have hl : lv_has ls 1 [(0, .int v)] := hl
  refine lv_iload_n hx hb dX6_isPart_0 rfl (lv_at hl 0 rfl) ?_
  refine lv_i2l (v := v.toInt64) hx hb dX6_isPart_1 rfl ?_
  refine lv_lconst (v := lN (0)) hx hb dX6_isPart_2 (by decide) ?_
  refine lv_lconst (v := lN (1)) hx hb dX6_isPart_3 (by decide) ?_
  have hPc := hP.sub (ws' := []) [] rfl
  refine r_calli hP hS (va_runS (As := [.long (v.toInt64), .long (lN 0), .long (lN 1)]) (rest := []) ⟨hx, hb, hml, hown, hts⟩ (m_X6_in l D cI cJ (v.toInt64) (lN (0)) (lN (1))) (va_cwS 3 hts gX6_isPart_X6_in rfl rfl rfl (by decide +kernel) ⟨Nat.le_of_ble_eq_true rfl, Nat.le_of_ble_eq_true rfl⟩) ⟨PR.blind, fun U hU hW => ⟨rfl, hKB.warm hW, by rw [hU]; exact hPc⟩⟩ rfl rfl hl.1 rfl (lv_room (Nat.le_of_ble_eq_true rfl)) dX6_isPart_4 ⟨Nat.le_of_ble_eq_true rfl, Nat.le_of_ble_eq_true rfl⟩) (fun r1 H locs hw4 hP hS => ?_)
  have hw4 : r1 = bI (inL (v.toInt64) (lN (0)) (lN (1))) := hw4
  subst hw4
  exact r_zret (b := inL (v.toInt64) (lN (0)) (lN (1))) hx hb hr hlk hQ hS rfl (by rw [inL_R (by decide) (by decide)]) dX6_isPart_7

set_option maxHeartbeats 4000000 in
set_option maxRecDepth 100000 in
theorem m_X6_isLives (l : Launch) (D : va_G) (cI cJ : ClassId) (v : Int32) : Met l yX6_isLives wsX6_isLives ({ frames := 1, cells := 0, slots := 0, locals := 25 }) (PR D cI cJ [] [.int v]) (QRi (fun r => r = bI (inR v 1 4))) 0 0 NA := by
  refine met_R (cc := cX6_isLives) (maxL := 1) (ret := (some .boolean)) (by decide) rfl (Nat.le_of_ble_eq_true rfl) ?_
  intro p e s m args below meth c Q ls hQ hAt hKB hP hl
  obtain ⟨hx, hb, hr, hml, hlk, hts, hown, hnm⟩ := hAt
  have hown : s.vm.findClass RX6 = some m.cls := hown
  have hS : va_S NA s.heap s.heap [] := va_S.rf
  have hl : lv_has ls 1 [(0, .int v)] := hl
  have kl63 := hts (.constantLong RX6 63 (lN (4))) (by decide +kernel)
  refine lv_iload_n hx hb dX6_isLives_0 rfl (lv_at hl 0 rfl) ?_
  refine lv_i2l (v := v.toInt64) hx hb dX6_isLives_1 rfl ?_
  refine lv_lconst (v := lN (1)) hx hb dX6_isLives_2 (by decide) ?_
  refine lv_ldc2 hx hb hown kl63 dX6_isLives_3 ?_
  have hPc := hP.sub (ws' := []) [] rfl
  refine r_calli hP hS (va_runS (As := [.long (v.toInt64), .long (lN 1), .long (lN 4)]) (rest := []) ⟨hx, hb, hml, hown, hts⟩ (m_X6_in l D cI cJ (v.toInt64) (lN (1)) (lN (4))) (va_cwS 3 hts gX6_isLives_X6_in rfl rfl rfl (by decide +kernel) ⟨Nat.le_of_ble_eq_true rfl, Nat.le_of_ble_eq_true rfl⟩) ⟨PR.blind, fun U hU hW => ⟨rfl, hKB.warm hW, by rw [hU]; exact hPc⟩⟩ rfl rfl hl.1 rfl (lv_room (Nat.le_of_ble_eq_true rfl)) dX6_isLives_6 ⟨Nat.le_of_ble_eq_true rfl, Nat.le_of_ble_eq_true rfl⟩) (fun r1 H locs hw6 hP hS => ?_)
  have hw6 : r1 = bI (inL (v.toInt64) (lN (1)) (lN (4))) := hw6
  subst hw6
  exact r_zret (b := inL (v.toInt64) (lN (1)) (lN (4))) hx hb hr hlk hQ hS rfl (by rw [inL_R (by decide) (by decide)]) dX6_isLives_9

set_option maxHeartbeats 4000000 in
set_option maxRecDepth 100000 in
theorem m_X6_ones (l : Launch) (D : va_G) (cI cJ : ClassId) (t : Nat) (ht : t < 2 ^ 31) : Met l yX6_ones wsX6_ones ({ frames := 0, cells := 0, slots := 0, locals := 0 }) (PR D cI cJ [] [.int (nI t)]) (QRi (fun r => r = nI (on t))) 0 0 NA := by
  refine met_R (cc := cX6_ones) (maxL := 1) (ret := (some .int)) (by decide) rfl (Nat.le_of_ble_eq_true rfl) ?_
  intro p e s m args below meth c Q ls hQ hAt hKB hP hl
  obtain ⟨hx, hb, hr, hml, hlk, hts, hown, hnm⟩ := hAt
  have hown : s.vm.findClass RX6 = some m.cls := hown
  have hS : va_S NA s.heap s.heap [] := va_S.rf
  have hl : lv_has ls 1 [(0, .int (nI t))] := hl
  refine lv_iload_n hx hb dX6_ones_0 rfl (lv_at hl 0 rfl) ?_
  refine lv_iconst (v := nI (1)) hx hb dX6_ones_1 (by decide) ?_
  refine r_iand (a := t) (b := 1) hx hb dX6_ones_2  ?_
  refine lv_iload_n hx hb dX6_ones_3 rfl (lv_at hl 0 rfl) ?_
  refine lv_iconst (v := nI (1)) hx hb dX6_ones_4 (by decide) ?_
  refine r_ishr (a := t) (b := 1) hx hb dX6_ones_5 (by omega) (by omega) ?_
  refine lv_iconst (v := nI (1)) hx hb dX6_ones_6 (by decide) ?_
  refine r_iand (a := t >>> 1) (b := 1) hx hb dX6_ones_7  ?_
  refine r_iadd (a := t &&& 1) (b := (t >>> 1) &&& 1) hx hb dX6_ones_8  ?_
  refine lv_iload_n hx hb dX6_ones_9 rfl (lv_at hl 0 rfl) ?_
  refine lv_iconst (v := nI (2)) hx hb dX6_ones_10 (by decide) ?_
  refine r_ishr (a := t) (b := 2) hx hb dX6_ones_11 (by omega) (by omega) ?_
  refine lv_iconst (v := nI (1)) hx hb dX6_ones_12 (by decide) ?_
  refine r_iand (a := t >>> 2) (b := 1) hx hb dX6_ones_13  ?_
  refine r_iadd (a := (t &&& 1) + ((t >>> 1) &&& 1)) (b := (t >>> 2) &&& 1) hx hb dX6_ones_14  ?_
  exact r_iret hx hb hr hlk hQ hS (rfl) dX6_ones_15

set_option maxHeartbeats 4000000 in
set_option maxRecDepth 100000 in
theorem m_X6_hasForm (l : Launch) (D : va_G) (cI cJ : ClassId) (t : Nat) (sy : Nat) (ht : t < 2 ^ 31) (hs : sy < 64) : Met l yX6_hasForm wsX6_hasForm ({ frames := 0, cells := 0, slots := 0, locals := 0 }) (PR D cI cJ [] [.int (nI t), .int (nI sy)]) (QRi (fun r => r = bI (hasF t sy))) 0 0 NA := by
  refine met_R (cc := cX6_hasForm) (maxL := 2) (ret := (some .boolean)) (by decide) rfl (Nat.le_of_ble_eq_true rfl) ?_
  intro p e s m args below meth c Q ls hQ hAt hKB hP hl
  obtain ⟨hx, hb, hr, hml, hlk, hts, hown, hnm⟩ := hAt
  have hown : s.vm.findClass RX6 = some m.cls := hown
  have hS : va_S NA s.heap s.heap [] := va_S.rf
  have hl : lv_has ls 2 [(0, .int (nI t)), (1, .int (nI sy))] := hl
  refine lv_iload_n hx hb dX6_hasForm_0 rfl (lv_at hl 0 rfl) ?_
  refine lv_iload_n hx hb dX6_hasForm_1 rfl (lv_at hl 1 rfl) ?_
  refine lv_iconst (v := nI (2)) hx hb dX6_hasForm_2 (by decide) ?_
  refine r_idiv (a := sy) (b := 2) hx hb dX6_hasForm_3 (by omega) (by omega) (by omega) ?_
  refine r_ishr (a := t) (b := sy / 2) hx hb dX6_hasForm_4 (by omega) (by omega) ?_
  refine lv_iconst (v := nI (1)) hx hb dX6_hasForm_5 (by decide) ?_
  refine r_iand (a := t >>> (sy / 2)) (b := 1) hx hb dX6_hasForm_6  ?_
  refine lv_iload_n hx hb dX6_hasForm_7 rfl (lv_at hl 1 rfl) ?_
  refine lv_iconst (v := nI (2)) hx hb dX6_hasForm_8 (by decide) ?_
  refine r_irem (a := sy) (b := 2) hx hb dX6_hasForm_9 (by omega) (by omega) (by omega) ?_
  refine r_icmp_ne (a := (t >>> (sy / 2)) &&& 1) (b := sy % 2) (tgt := 17) hx hb dX6_hasForm_10 (by decide) (Nat.lt_of_le_of_lt (fo_le t (sy / 2)) (by decide)) (by omega)  (fun c10 => ?_) (fun c10 => ?_)
  · skip
    refine lv_iconst (v := nI (0)) hx hb dX6_hasForm_17 (by decide) ?_
    exact r_zret (b := false) hx hb hr hlk hQ hS rfl (by rw [show hasF t sy = false from decide_eq_false c10]) dX6_hasForm_18
  refine lv_iconst (v := nI (1)) hx hb dX6_hasForm_13 (by decide) ?_
  refine lv_goto (tgt := 18) hx hb dX6_hasForm_14 (by decide) ?_
  exact r_zret (b := true) hx hb hr hlk hQ hS rfl (by rw [show hasF t sy = true from decide_eq_true c10]) dX6_hasForm_18

set_option maxHeartbeats 4000000 in
set_option maxRecDepth 100000 in
theorem m_X6_lowest (l : Launch) (D : va_G) (cI cJ : ClassId) (a : Nat) (b : Nat) (pt : Nat) (ha : a < 2 ^ 63) (hb2 : b < 2 ^ 63) (hpt : pt ≤ 1) : Met l yX6_lowest wsX6_lowest ({ frames := 0, cells := 0, slots := 0, locals := 0 }) (PR D cI cJ [] [.long (lN a), .long (lN b), .int (nI pt)]) (QRl (fun r => r = lN (lwst a b pt))) 0 0 NA := by
  refine met_R (cc := cX6_lowest) (maxL := 11) (ret := (some .long)) (by decide) rfl (Nat.le_of_ble_eq_true rfl) ?_
  intro p e s m args below meth c Q ls hQ hAt hKB hP hl
  obtain ⟨hx, hb, hr, hml, hlk, hts, hown, hnm⟩ := hAt
  have hown : s.vm.findClass RX6 = some m.cls := hown
  have hS : va_S NA s.heap s.heap [] := va_S.rf
  have hl : lv_has ls 11 [(0, .long (lN a)), (2, .long (lN b)), (4, .int (nI pt))] := hl
  refine lv_lload_n hx hb dX6_lowest_0 rfl (lv_at hl 1 rfl) ?_
  refine lv_lconst (v := lN (0)) hx hb dX6_lowest_1 (by decide) ?_
  refine r_lcmp_ne (x := lN (b)) (y := lN (0)) (tgt := 10) hx hb dX6_lowest_2 dX6_lowest_3 (by decide) (fun c2 => ?_) (fun c2 => ?_)
  · skip
    have hb0 : 0 < b := lN_ne c2
    have hgp := gcd_pos (a := a) hb0
    have hgl := gcd_lt (a := a) hb0 hb2
    refine lv_lload_n hx hb dX6_lowest_10 rfl (lv_at hl 0 rfl) ?_
    refine lv_lstore (lv' := [(5, .long (lN a)), (0, .long (lN a)), (2, .long (lN b)), (4, .int (nI pt))]) hx hb dX6_lowest_11 hl (by decide) rfl (fun ls hl => ?_)
    refine lv_lload_n hx hb dX6_lowest_13 rfl (lv_at hl 2 rfl) ?_
    refine lv_lstore (lv' := [(7, .long (lN b)), (5, .long (lN a)), (0, .long (lN a)), (2, .long (lN b)), (4, .int (nI pt))]) hx hb dX6_lowest_14 hl (by decide) rfl (fun ls hl => ?_)
    have L16 : ∀ (n : Nat) (x : Nat) (y : Nat) (H : Heap) (locs : List Loc) (ls : Array Slot), y < n → (x < 2 ^ 63) → (y < 2 ^ 63) → (Nat.gcd x y = Nat.gcd a b) → va_P D vwCl [] H → va_S NA s.heap H locs → lv_has ls 11 [(7, .long (lN y)), (5, .long (lN x)), (0, .long (lN a)), (2, .long (lN b)), (4, .int (nI pt))] → W p l e ({ frames := 0, cells := 0, slots := 0, locals := 0 }) s m args below meth c H locs 0 0 Q (F0 m 16 ls []) := by
      intro n
      induction n with
      | zero => intro x y H locs ls hm; exact absurd hm (Nat.not_lt_zero _)
      | succ n ih16 =>
        intro x y H locs ls hm hxb hyb hg hP hS hl
        refine lv_lload hx hb dX6_lowest_16 (lv_at hl 0 rfl) ?_
        refine lv_lconst (v := lN (0)) hx hb dX6_lowest_18 (by decide) ?_
        refine r_lcmp_eq (x := lN (y)) (y := lN (0)) (tgt := 41) hx hb dX6_lowest_19 dX6_lowest_20 (by decide) (fun c19 => ?_) (fun c19 => ?_)
        · skip
          have hy0 := lN_eq0 hyb c19
          subst hy0
          rw [Nat.gcd_zero_right] at hg
          subst hg
          refine lv_iload hx hb dX6_lowest_41 (lv_at hl 4 rfl) ?_
          refine r_if_ne (a := pt) (tgt := 53) hx hb dX6_lowest_43 (by decide) (by omega) (fun c43 => ?_) (fun c43 => ?_)
          · skip
            refine lv_lload_n hx hb dX6_lowest_53 rfl (lv_at hl 3 rfl) ?_
            refine lv_lload hx hb dX6_lowest_54 (lv_at hl 1 rfl) ?_
            refine r_ldiv (a := b) (b := (Nat.gcd a b)) hx hb dX6_lowest_56 hb2 hgp hgl ?_
            exact r_lret hx hb hr hlk hQ hS (by simp only [lwst]; rw [if_neg (by omega)]; first | rw [if_pos c43] | rw [if_neg c43]) dX6_lowest_57
          refine lv_lload_n hx hb dX6_lowest_46 rfl (lv_at hl 2 rfl) ?_
          refine lv_lload hx hb dX6_lowest_47 (lv_at hl 1 rfl) ?_
          refine r_ldiv (a := a) (b := (Nat.gcd a b)) hx hb dX6_lowest_49 ha hgp hgl ?_
          refine lv_goto (tgt := 57) hx hb dX6_lowest_50 (by decide) ?_
          exact r_lret hx hb hr hlk hQ hS (by simp only [lwst]; rw [if_neg (by omega)]; first | rw [if_pos c43] | rw [if_neg c43]) dX6_lowest_57
        refine lv_lload hx hb dX6_lowest_23 (lv_at hl 1 rfl) ?_
        refine lv_lload hx hb dX6_lowest_25 (lv_at hl 0 rfl) ?_
        refine r_lrem (a := x) (b := y) hx hb dX6_lowest_27 hxb (lN_ne c19) hyb ?_
        refine lv_lstore (lv' := [(9, .long (lN (x % y))), (7, .long (lN y)), (5, .long (lN x)), (0, .long (lN a)), (2, .long (lN b)), (4, .int (nI pt))]) hx hb dX6_lowest_28 hl (by decide) rfl (fun ls hl => ?_)
        refine lv_lload hx hb dX6_lowest_30 (lv_at hl 1 rfl) ?_
        refine lv_lstore (lv' := [(5, .long (lN y)), (9, .long (lN (x % y))), (7, .long (lN y)), (0, .long (lN a)), (2, .long (lN b)), (4, .int (nI pt))]) hx hb dX6_lowest_32 hl (by decide) rfl (fun ls hl => ?_)
        refine lv_lload hx hb dX6_lowest_34 (lv_at hl 1 rfl) ?_
        refine lv_lstore (lv' := [(7, .long (lN (x % y))), (5, .long (lN y)), (9, .long (lN (x % y))), (0, .long (lN a)), (2, .long (lN b)), (4, .int (nI pt))]) hx hb dX6_lowest_36 hl (by decide) rfl (fun ls hl => ?_)
        refine lv_goto (tgt := 16) hx hb dX6_lowest_38 (by decide) ?_
        exact ih16 y (x % y) _ _ _ (Nat.lt_of_lt_of_le (Nat.mod_lt _ (lN_ne c19)) (Nat.le_of_lt_succ hm)) (hyb) (Nat.lt_trans (Nat.mod_lt _ (lN_ne c19)) hyb) ((eu_gcd x y).trans hg) hP hS (lv_sub hl [0, 1, 3, 4, 5] rfl)
    exact L16 (b + 1) a b _ _ _ (Nat.lt_succ_self _) (ha) (hb2) (rfl) hP hS hl
  refine lv_iload hx hb dX6_lowest_6 (lv_at hl 2 rfl) ?_
  refine r_i2l (a := pt) hx hb dX6_lowest_8 (by omega) ?_
  exact r_lret hx hb hr hlk hQ hS (by have h0 := lN_eq0 hb2 c2; subst h0; rw [lwst_b0]) dX6_lowest_9

set_option maxHeartbeats 4000000 in
set_option maxRecDepth 100000 in
theorem m_J6_bitCount_0f7a4 (l : Launch) (D : va_G) (cI cJ : ClassId) (t : Nat) (ht : t < 8) : Met l yJ6_bitCount_0f7a4 wsJ6_bitCount_0f7a4 ({ frames := 0, cells := 0, slots := 0, locals := 0 }) (PR D cI cJ [] [.int (nI t)]) (QRi (fun r => r = nI (on t))) 0 0 NA := by
  refine met_R (cc := cJ6_bitCount_0f7a4) (maxL := 1) (ret := (some .int)) (by decide) rfl (Nat.le_of_ble_eq_true rfl) ?_
  intro p e s m args below meth c Q ls hQ hAt hKB hP hl
  obtain ⟨hx, hb, hr, hml, hlk, hts, hown, hnm⟩ := hAt
  have hown : s.vm.findClass RJ6 = some m.cls := hown
  have hS : va_S NA s.heap s.heap [] := va_S.rf
  have hl : lv_has ls 1 [(0, .int (nI t))] := hl
  have kc265 := hts (.constant RJ6 265 (nI (1431655765))) (by decide +kernel)
  have kc266 := hts (.constant RJ6 266 (nI (858993459))) (by decide +kernel)
  have kc267 := hts (.constant RJ6 267 (nI (252645135))) (by decide +kernel)
  refine lv_iload_n hx hb dJ6_bitCount_0f7a4_0 rfl (lv_at hl 0 rfl) ?_
  refine lv_iload_n hx hb dJ6_bitCount_0f7a4_1 rfl (lv_at hl 0 rfl) ?_
  refine lv_iconst (v := nI (1)) hx hb dJ6_bitCount_0f7a4_2 (by decide) ?_
  refine lv_iushr (v := ((nI (t)).toUInt32 >>> ((nI (1)).toUInt32 &&& Int32.toUInt32 31)).toInt32) hx hb dJ6_bitCount_0f7a4_3 rfl ?_
  refine lv_ldcw hx hb hown kc265 dJ6_bitCount_0f7a4_4 ?_
  refine lv_iand hx hb dJ6_bitCount_0f7a4_7  ?_
  refine lv_isub hx hb dJ6_bitCount_0f7a4_8  ?_
  refine lv_istore_n (lv' := [(0, .int ((nI (t)) - ((((nI (t)).toUInt32 >>> ((nI (1)).toUInt32 &&& Int32.toUInt32 31)).toInt32) &&& (nI (1431655765)))))]) hx hb dJ6_bitCount_0f7a4_9 rfl hl (by decide) rfl (fun ls hl => ?_)
  refine lv_iload_n hx hb dJ6_bitCount_0f7a4_10 rfl (lv_at hl 0 rfl) ?_
  refine lv_ldcw hx hb hown kc266 dJ6_bitCount_0f7a4_11 ?_
  refine lv_iand hx hb dJ6_bitCount_0f7a4_14  ?_
  refine lv_iload_n hx hb dJ6_bitCount_0f7a4_15 rfl (lv_at hl 0 rfl) ?_
  refine lv_iconst (v := nI (2)) hx hb dJ6_bitCount_0f7a4_16 (by decide) ?_
  refine lv_iushr (v := (((nI (t)) - ((((nI (t)).toUInt32 >>> ((nI (1)).toUInt32 &&& Int32.toUInt32 31)).toInt32) &&& (nI (1431655765)))).toUInt32 >>> ((nI (2)).toUInt32 &&& Int32.toUInt32 31)).toInt32) hx hb dJ6_bitCount_0f7a4_17 rfl ?_
  refine lv_ldcw hx hb hown kc266 dJ6_bitCount_0f7a4_18 ?_
  refine lv_iand hx hb dJ6_bitCount_0f7a4_21  ?_
  refine lv_iadd hx hb dJ6_bitCount_0f7a4_22  ?_
  refine lv_istore_n (lv' := [(0, .int ((((nI (t)) - ((((nI (t)).toUInt32 >>> ((nI (1)).toUInt32 &&& Int32.toUInt32 31)).toInt32) &&& (nI (1431655765)))) &&& (nI (858993459))) + (((((nI (t)) - ((((nI (t)).toUInt32 >>> ((nI (1)).toUInt32 &&& Int32.toUInt32 31)).toInt32) &&& (nI (1431655765)))).toUInt32 >>> ((nI (2)).toUInt32 &&& Int32.toUInt32 31)).toInt32) &&& (nI (858993459)))))]) hx hb dJ6_bitCount_0f7a4_23 rfl hl (by decide) rfl (fun ls hl => ?_)
  refine lv_iload_n hx hb dJ6_bitCount_0f7a4_24 rfl (lv_at hl 0 rfl) ?_
  refine lv_iload_n hx hb dJ6_bitCount_0f7a4_25 rfl (lv_at hl 0 rfl) ?_
  refine lv_iconst (v := nI (4)) hx hb dJ6_bitCount_0f7a4_26 (by decide) ?_
  refine lv_iushr (v := (((((nI (t)) - ((((nI (t)).toUInt32 >>> ((nI (1)).toUInt32 &&& Int32.toUInt32 31)).toInt32) &&& (nI (1431655765)))) &&& (nI (858993459))) + (((((nI (t)) - ((((nI (t)).toUInt32 >>> ((nI (1)).toUInt32 &&& Int32.toUInt32 31)).toInt32) &&& (nI (1431655765)))).toUInt32 >>> ((nI (2)).toUInt32 &&& Int32.toUInt32 31)).toInt32) &&& (nI (858993459)))).toUInt32 >>> ((nI (4)).toUInt32 &&& Int32.toUInt32 31)).toInt32) hx hb dJ6_bitCount_0f7a4_27 rfl ?_
  refine lv_iadd hx hb dJ6_bitCount_0f7a4_28  ?_
  refine lv_ldcw hx hb hown kc267 dJ6_bitCount_0f7a4_29 ?_
  refine lv_iand hx hb dJ6_bitCount_0f7a4_32  ?_
  refine lv_istore_n (lv' := [(0, .int ((((((nI (t)) - ((((nI (t)).toUInt32 >>> ((nI (1)).toUInt32 &&& Int32.toUInt32 31)).toInt32) &&& (nI (1431655765)))) &&& (nI (858993459))) + (((((nI (t)) - ((((nI (t)).toUInt32 >>> ((nI (1)).toUInt32 &&& Int32.toUInt32 31)).toInt32) &&& (nI (1431655765)))).toUInt32 >>> ((nI (2)).toUInt32 &&& Int32.toUInt32 31)).toInt32) &&& (nI (858993459)))) + ((((((nI (t)) - ((((nI (t)).toUInt32 >>> ((nI (1)).toUInt32 &&& Int32.toUInt32 31)).toInt32) &&& (nI (1431655765)))) &&& (nI (858993459))) + (((((nI (t)) - ((((nI (t)).toUInt32 >>> ((nI (1)).toUInt32 &&& Int32.toUInt32 31)).toInt32) &&& (nI (1431655765)))).toUInt32 >>> ((nI (2)).toUInt32 &&& Int32.toUInt32 31)).toInt32) &&& (nI (858993459)))).toUInt32 >>> ((nI (4)).toUInt32 &&& Int32.toUInt32 31)).toInt32)) &&& (nI (252645135))))]) hx hb dJ6_bitCount_0f7a4_33 rfl hl (by decide) rfl (fun ls hl => ?_)
  refine lv_iload_n hx hb dJ6_bitCount_0f7a4_34 rfl (lv_at hl 0 rfl) ?_
  refine lv_iload_n hx hb dJ6_bitCount_0f7a4_35 rfl (lv_at hl 0 rfl) ?_
  refine lv_bipush (v := nI (8)) hx hb dJ6_bitCount_0f7a4_36 (by decide) ?_
  refine lv_iushr (v := (((((((nI (t)) - ((((nI (t)).toUInt32 >>> ((nI (1)).toUInt32 &&& Int32.toUInt32 31)).toInt32) &&& (nI (1431655765)))) &&& (nI (858993459))) + (((((nI (t)) - ((((nI (t)).toUInt32 >>> ((nI (1)).toUInt32 &&& Int32.toUInt32 31)).toInt32) &&& (nI (1431655765)))).toUInt32 >>> ((nI (2)).toUInt32 &&& Int32.toUInt32 31)).toInt32) &&& (nI (858993459)))) + ((((((nI (t)) - ((((nI (t)).toUInt32 >>> ((nI (1)).toUInt32 &&& Int32.toUInt32 31)).toInt32) &&& (nI (1431655765)))) &&& (nI (858993459))) + (((((nI (t)) - ((((nI (t)).toUInt32 >>> ((nI (1)).toUInt32 &&& Int32.toUInt32 31)).toInt32) &&& (nI (1431655765)))).toUInt32 >>> ((nI (2)).toUInt32 &&& Int32.toUInt32 31)).toInt32) &&& (nI (858993459)))).toUInt32 >>> ((nI (4)).toUInt32 &&& Int32.toUInt32 31)).toInt32)) &&& (nI (252645135))).toUInt32 >>> ((nI (8)).toUInt32 &&& Int32.toUInt32 31)).toInt32) hx hb dJ6_bitCount_0f7a4_38 rfl ?_
  refine lv_iadd hx hb dJ6_bitCount_0f7a4_39  ?_
  refine lv_istore_n (lv' := [(0, .int (((((((nI (t)) - ((((nI (t)).toUInt32 >>> ((nI (1)).toUInt32 &&& Int32.toUInt32 31)).toInt32) &&& (nI (1431655765)))) &&& (nI (858993459))) + (((((nI (t)) - ((((nI (t)).toUInt32 >>> ((nI (1)).toUInt32 &&& Int32.toUInt32 31)).toInt32) &&& (nI (1431655765)))).toUInt32 >>> ((nI (2)).toUInt32 &&& Int32.toUInt32 31)).toInt32) &&& (nI (858993459)))) + ((((((nI (t)) - ((((nI (t)).toUInt32 >>> ((nI (1)).toUInt32 &&& Int32.toUInt32 31)).toInt32) &&& (nI (1431655765)))) &&& (nI (858993459))) + (((((nI (t)) - ((((nI (t)).toUInt32 >>> ((nI (1)).toUInt32 &&& Int32.toUInt32 31)).toInt32) &&& (nI (1431655765)))).toUInt32 >>> ((nI (2)).toUInt32 &&& Int32.toUInt32 31)).toInt32) &&& (nI (858993459)))).toUInt32 >>> ((nI (4)).toUInt32 &&& Int32.toUInt32 31)).toInt32)) &&& (nI (252645135))) + ((((((((nI (t)) - ((((nI (t)).toUInt32 >>> ((nI (1)).toUInt32 &&& Int32.toUInt32 31)).toInt32) &&& (nI (1431655765)))) &&& (nI (858993459))) + (((((nI (t)) - ((((nI (t)).toUInt32 >>> ((nI (1)).toUInt32 &&& Int32.toUInt32 31)).toInt32) &&& (nI (1431655765)))).toUInt32 >>> ((nI (2)).toUInt32 &&& Int32.toUInt32 31)).toInt32) &&& (nI (858993459)))) + ((((((nI (t)) - ((((nI (t)).toUInt32 >>> ((nI (1)).toUInt32 &&& Int32.toUInt32 31)).toInt32) &&& (nI (1431655765)))) &&& (nI (858993459))) + (((((nI (t)) - ((((nI (t)).toUInt32 >>> ((nI (1)).toUInt32 &&& Int32.toUInt32 31)).toInt32) &&& (nI (1431655765)))).toUInt32 >>> ((nI (2)).toUInt32 &&& Int32.toUInt32 31)).toInt32) &&& (nI (858993459)))).toUInt32 >>> ((nI (4)).toUInt32 &&& Int32.toUInt32 31)).toInt32)) &&& (nI (252645135))).toUInt32 >>> ((nI (8)).toUInt32 &&& Int32.toUInt32 31)).toInt32)))]) hx hb dJ6_bitCount_0f7a4_40 rfl hl (by decide) rfl (fun ls hl => ?_)
  refine lv_iload_n hx hb dJ6_bitCount_0f7a4_41 rfl (lv_at hl 0 rfl) ?_
  refine lv_iload_n hx hb dJ6_bitCount_0f7a4_42 rfl (lv_at hl 0 rfl) ?_
  refine lv_bipush (v := nI (16)) hx hb dJ6_bitCount_0f7a4_43 (by decide) ?_
  refine lv_iushr (v := ((((((((nI (t)) - ((((nI (t)).toUInt32 >>> ((nI (1)).toUInt32 &&& Int32.toUInt32 31)).toInt32) &&& (nI (1431655765)))) &&& (nI (858993459))) + (((((nI (t)) - ((((nI (t)).toUInt32 >>> ((nI (1)).toUInt32 &&& Int32.toUInt32 31)).toInt32) &&& (nI (1431655765)))).toUInt32 >>> ((nI (2)).toUInt32 &&& Int32.toUInt32 31)).toInt32) &&& (nI (858993459)))) + ((((((nI (t)) - ((((nI (t)).toUInt32 >>> ((nI (1)).toUInt32 &&& Int32.toUInt32 31)).toInt32) &&& (nI (1431655765)))) &&& (nI (858993459))) + (((((nI (t)) - ((((nI (t)).toUInt32 >>> ((nI (1)).toUInt32 &&& Int32.toUInt32 31)).toInt32) &&& (nI (1431655765)))).toUInt32 >>> ((nI (2)).toUInt32 &&& Int32.toUInt32 31)).toInt32) &&& (nI (858993459)))).toUInt32 >>> ((nI (4)).toUInt32 &&& Int32.toUInt32 31)).toInt32)) &&& (nI (252645135))) + ((((((((nI (t)) - ((((nI (t)).toUInt32 >>> ((nI (1)).toUInt32 &&& Int32.toUInt32 31)).toInt32) &&& (nI (1431655765)))) &&& (nI (858993459))) + (((((nI (t)) - ((((nI (t)).toUInt32 >>> ((nI (1)).toUInt32 &&& Int32.toUInt32 31)).toInt32) &&& (nI (1431655765)))).toUInt32 >>> ((nI (2)).toUInt32 &&& Int32.toUInt32 31)).toInt32) &&& (nI (858993459)))) + ((((((nI (t)) - ((((nI (t)).toUInt32 >>> ((nI (1)).toUInt32 &&& Int32.toUInt32 31)).toInt32) &&& (nI (1431655765)))) &&& (nI (858993459))) + (((((nI (t)) - ((((nI (t)).toUInt32 >>> ((nI (1)).toUInt32 &&& Int32.toUInt32 31)).toInt32) &&& (nI (1431655765)))).toUInt32 >>> ((nI (2)).toUInt32 &&& Int32.toUInt32 31)).toInt32) &&& (nI (858993459)))).toUInt32 >>> ((nI (4)).toUInt32 &&& Int32.toUInt32 31)).toInt32)) &&& (nI (252645135))).toUInt32 >>> ((nI (8)).toUInt32 &&& Int32.toUInt32 31)).toInt32)).toUInt32 >>> ((nI (16)).toUInt32 &&& Int32.toUInt32 31)).toInt32) hx hb dJ6_bitCount_0f7a4_45 rfl ?_
  refine lv_iadd hx hb dJ6_bitCount_0f7a4_46  ?_
  refine lv_istore_n (lv' := [(0, .int ((((((((nI (t)) - ((((nI (t)).toUInt32 >>> ((nI (1)).toUInt32 &&& Int32.toUInt32 31)).toInt32) &&& (nI (1431655765)))) &&& (nI (858993459))) + (((((nI (t)) - ((((nI (t)).toUInt32 >>> ((nI (1)).toUInt32 &&& Int32.toUInt32 31)).toInt32) &&& (nI (1431655765)))).toUInt32 >>> ((nI (2)).toUInt32 &&& Int32.toUInt32 31)).toInt32) &&& (nI (858993459)))) + ((((((nI (t)) - ((((nI (t)).toUInt32 >>> ((nI (1)).toUInt32 &&& Int32.toUInt32 31)).toInt32) &&& (nI (1431655765)))) &&& (nI (858993459))) + (((((nI (t)) - ((((nI (t)).toUInt32 >>> ((nI (1)).toUInt32 &&& Int32.toUInt32 31)).toInt32) &&& (nI (1431655765)))).toUInt32 >>> ((nI (2)).toUInt32 &&& Int32.toUInt32 31)).toInt32) &&& (nI (858993459)))).toUInt32 >>> ((nI (4)).toUInt32 &&& Int32.toUInt32 31)).toInt32)) &&& (nI (252645135))) + ((((((((nI (t)) - ((((nI (t)).toUInt32 >>> ((nI (1)).toUInt32 &&& Int32.toUInt32 31)).toInt32) &&& (nI (1431655765)))) &&& (nI (858993459))) + (((((nI (t)) - ((((nI (t)).toUInt32 >>> ((nI (1)).toUInt32 &&& Int32.toUInt32 31)).toInt32) &&& (nI (1431655765)))).toUInt32 >>> ((nI (2)).toUInt32 &&& Int32.toUInt32 31)).toInt32) &&& (nI (858993459)))) + ((((((nI (t)) - ((((nI (t)).toUInt32 >>> ((nI (1)).toUInt32 &&& Int32.toUInt32 31)).toInt32) &&& (nI (1431655765)))) &&& (nI (858993459))) + (((((nI (t)) - ((((nI (t)).toUInt32 >>> ((nI (1)).toUInt32 &&& Int32.toUInt32 31)).toInt32) &&& (nI (1431655765)))).toUInt32 >>> ((nI (2)).toUInt32 &&& Int32.toUInt32 31)).toInt32) &&& (nI (858993459)))).toUInt32 >>> ((nI (4)).toUInt32 &&& Int32.toUInt32 31)).toInt32)) &&& (nI (252645135))).toUInt32 >>> ((nI (8)).toUInt32 &&& Int32.toUInt32 31)).toInt32)) + (((((((((nI (t)) - ((((nI (t)).toUInt32 >>> ((nI (1)).toUInt32 &&& Int32.toUInt32 31)).toInt32) &&& (nI (1431655765)))) &&& (nI (858993459))) + (((((nI (t)) - ((((nI (t)).toUInt32 >>> ((nI (1)).toUInt32 &&& Int32.toUInt32 31)).toInt32) &&& (nI (1431655765)))).toUInt32 >>> ((nI (2)).toUInt32 &&& Int32.toUInt32 31)).toInt32) &&& (nI (858993459)))) + ((((((nI (t)) - ((((nI (t)).toUInt32 >>> ((nI (1)).toUInt32 &&& Int32.toUInt32 31)).toInt32) &&& (nI (1431655765)))) &&& (nI (858993459))) + (((((nI (t)) - ((((nI (t)).toUInt32 >>> ((nI (1)).toUInt32 &&& Int32.toUInt32 31)).toInt32) &&& (nI (1431655765)))).toUInt32 >>> ((nI (2)).toUInt32 &&& Int32.toUInt32 31)).toInt32) &&& (nI (858993459)))).toUInt32 >>> ((nI (4)).toUInt32 &&& Int32.toUInt32 31)).toInt32)) &&& (nI (252645135))) + ((((((((nI (t)) - ((((nI (t)).toUInt32 >>> ((nI (1)).toUInt32 &&& Int32.toUInt32 31)).toInt32) &&& (nI (1431655765)))) &&& (nI (858993459))) + (((((nI (t)) - ((((nI (t)).toUInt32 >>> ((nI (1)).toUInt32 &&& Int32.toUInt32 31)).toInt32) &&& (nI (1431655765)))).toUInt32 >>> ((nI (2)).toUInt32 &&& Int32.toUInt32 31)).toInt32) &&& (nI (858993459)))) + ((((((nI (t)) - ((((nI (t)).toUInt32 >>> ((nI (1)).toUInt32 &&& Int32.toUInt32 31)).toInt32) &&& (nI (1431655765)))) &&& (nI (858993459))) + (((((nI (t)) - ((((nI (t)).toUInt32 >>> ((nI (1)).toUInt32 &&& Int32.toUInt32 31)).toInt32) &&& (nI (1431655765)))).toUInt32 >>> ((nI (2)).toUInt32 &&& Int32.toUInt32 31)).toInt32) &&& (nI (858993459)))).toUInt32 >>> ((nI (4)).toUInt32 &&& Int32.toUInt32 31)).toInt32)) &&& (nI (252645135))).toUInt32 >>> ((nI (8)).toUInt32 &&& Int32.toUInt32 31)).toInt32)).toUInt32 >>> ((nI (16)).toUInt32 &&& Int32.toUInt32 31)).toInt32)))]) hx hb dJ6_bitCount_0f7a4_47 rfl hl (by decide) rfl (fun ls hl => ?_)
  refine lv_iload_n hx hb dJ6_bitCount_0f7a4_48 rfl (lv_at hl 0 rfl) ?_
  refine lv_bipush (v := nI (63)) hx hb dJ6_bitCount_0f7a4_49 (by decide) ?_
  refine lv_iand hx hb dJ6_bitCount_0f7a4_51  ?_
  exact r_iret hx hb hr hlk hQ hS (by rcases (show t = 0 ∨ t = 1 ∨ t = 2 ∨ t = 3 ∨ t = 4 ∨ t = 5 ∨ t = 6 ∨ t = 7 by omega) with rfl | rfl | rfl | rfl | rfl | rfl | rfl | rfl <;> decide +kernel) dJ6_bitCount_0f7a4_52

set_option maxHeartbeats 4000000 in
set_option maxRecDepth 100000 in
theorem m_J7_fill_53178 (l : Launch) (D : va_G) (cI cJ : ClassId) (sz : Nat) (q : Nat) (N : Nat) (f : Nat → Int32) (x : Int32) (hN : N < 2 ^ 31) : Met l yJ7_fill_53178 wsJ7_fill_53178 ({ frames := 0, cells := 0, slots := 0, locals := 0 }) (PX D cI cJ [(q, .inl (cI, N, .inl f))] sz [.ref q, .int x]) (QWv D (S := Unit) [(q, .inl (cI, N, .inl f))] sz (fun _ => True) (fun _ => [(q, .inl (cI, N, .inl (fillN f x N)))])) 0 0 (va_A [(q, .inl (cI, N, .inl f))] sz) := by
  refine met_X (cc := cJ7_fill_53178) (maxL := 4) (ret := none) (by decide) rfl (Nat.le_of_ble_eq_true rfl) ?_
  intro p e s m args below meth c Q ls A hQ hAe hAt hKB hP hD hA hl
  obtain ⟨hx, hb, hr, hml, hlk, hts, hown, hnm⟩ := hAt
  have hown : s.vm.findClass RJ7 = some m.cls := hown
  have hS : va_S A s.heap s.heap [] := va_S.rf
  have hl : lv_has ls 4 [(0, .ref q), (1, .int x)] := hl
  refine lv_iconst (v := nI (0)) hx hb dJ7_fill_53178_0 (by decide) ?_
  refine lv_istore_n (lv' := [(2, .int (nI 0)), (0, .ref q), (1, .int x)]) hx hb dJ7_fill_53178_1 rfl hl (by decide) rfl (fun ls hl => ?_)
  refine lv_aload_n hx hb dJ7_fill_53178_2 rfl (lv_at hl 1 rfl) ?_
  refine va_alen hx hb hKB.1 hP 0 0 rfl rfl (v := nI (N)) rfl dJ7_fill_53178_3 ?_
  refine lv_istore_n (lv' := [(3, .int (nI N)), (2, .int (nI 0)), (0, .ref q), (1, .int x)]) hx hb dJ7_fill_53178_4 rfl hl (by decide) rfl (fun ls hl => ?_)
  have hw1 : f = fillN f x 0 := (fillN_0 f x).symm
  rw [hw1] at hP hD
  have L5 : ∀ (n : Nat) (k : Nat) (H : Heap) (locs : List Loc) (ls : Array Slot), N - k < n → (k ≤ N) → va_P D vwCl [(q, .inl (cI, N, .inl (fillN f x k)))] H → va_D A [(q, .inl (cI, N, .inl (fillN f x k)))] → va_S A s.heap H locs → lv_has ls 4 [(3, .int (nI N)), (2, .int (nI k)), (0, .ref q), (1, .int x)] → W p l e ({ frames := 0, cells := 0, slots := 0, locals := 0 }) s m args below meth c H locs 0 0 Q (F0 m 5 ls []) := by
    intro n
    induction n with
    | zero => intro k H locs ls hm; exact absurd hm (Nat.not_lt_zero _)
    | succ n ih5 =>
      intro k H locs ls hm hk hP hD hS hl
      refine lv_iload_n hx hb dJ7_fill_53178_5 rfl (lv_at hl 1 rfl) ?_
      refine lv_iload_n hx hb dJ7_fill_53178_6 rfl (lv_at hl 0 rfl) ?_
      refine r_icmp_ge (a := k) (b := N) (tgt := 20) hx hb dJ7_fill_53178_7 (by decide) (by omega) (by omega)  (fun c7 => ?_) (fun c7 => ?_)
      · skip
        obtain rfl : k = N := by omega
        exact w_vret hx hb hr hlk hQ hAe () hP hD hS (trivial) dJ7_fill_53178_20
      refine lv_aload_n hx hb dJ7_fill_53178_10 rfl (lv_at hl 2 rfl) ?_
      refine lv_iload_n hx hb dJ7_fill_53178_11 rfl (lv_at hl 1 rfl) ?_
      refine lv_iload_n hx hb dJ7_fill_53178_12 rfl (lv_at hl 3 rfl) ?_
      refine r_iast (i := k) hx hb hKB.1 hP hD hS 0 0 rfl rfl (by omega) (by omega) dJ7_fill_53178_13 (fun H locs hP hD hS => ?_)
      have hP : va_P D vwCl [(q, .inl (cI, N, .inl (upd (fillN f x k) k x)))] _ := hP
      have hD : va_D A [(q, .inl (cI, N, .inl (upd (fillN f x k) k x)))] := hD
      have hw2 : upd (fillN f x k) k x = fillN f x (k + 1) := fillN_s f x k
      rw [hw2] at hP hD
      refine lv_iinc (v := nI (k + 1)) (lv' := [(2, .int (nI (k + 1))), (3, .int (nI N)), (0, .ref q), (1, .int x)]) hx hb dJ7_fill_53178_14 hl (k := 1) rfl (n_inc _ 1) (by decide) rfl (fun ls hl => ?_)
      refine lv_goto (tgt := 5) hx hb dJ7_fill_53178_17 (by decide) ?_
      exact ih5 (k + 1) _ _ _ (by omega) (by omega) hP hD hS (lv_sub hl [1, 0, 2, 3] rfl)
  exact L5 (N - 0 + 1) 0 _ _ _ (Nat.lt_succ_self _) (by omega) hP hD hS hl

set_option maxHeartbeats 4000000 in
set_option maxRecDepth 100000 in
theorem m_J7_fill_d0a16 (l : Launch) (D : va_G) (cI cJ : ClassId) (sz : Nat) (q : Nat) (N : Nat) (f : Nat → Int64) (x : Int64) (hN : N < 2 ^ 31) : Met l yJ7_fill_d0a16 wsJ7_fill_d0a16 ({ frames := 0, cells := 0, slots := 0, locals := 0 }) (PX D cI cJ [(q, .inl (cJ, N, .inr (.inl f)))] sz [.ref q, .long x]) (QWv D (S := Unit) [(q, .inl (cJ, N, .inr (.inl f)))] sz (fun _ => True) (fun _ => [(q, .inl (cJ, N, .inr (.inl (fillL f x N))))])) 0 0 (va_A [(q, .inl (cJ, N, .inr (.inl f)))] sz) := by
  refine met_X (cc := cJ7_fill_d0a16) (maxL := 5) (ret := none) (by decide) rfl (Nat.le_of_ble_eq_true rfl) ?_
  intro p e s m args below meth c Q ls A hQ hAe hAt hKB hP hD hA hl
  obtain ⟨hx, hb, hr, hml, hlk, hts, hown, hnm⟩ := hAt
  have hown : s.vm.findClass RJ7 = some m.cls := hown
  have hS : va_S A s.heap s.heap [] := va_S.rf
  have hl : lv_has ls 5 [(0, .ref q), (1, .long x)] := hl
  refine lv_iconst (v := nI (0)) hx hb dJ7_fill_d0a16_0 (by decide) ?_
  refine lv_istore_n (lv' := [(3, .int (nI 0)), (0, .ref q), (1, .long x)]) hx hb dJ7_fill_d0a16_1 rfl hl (by decide) rfl (fun ls hl => ?_)
  refine lv_aload_n hx hb dJ7_fill_d0a16_2 rfl (lv_at hl 1 rfl) ?_
  refine va_alen hx hb hKB.1 hP 0 1 rfl rfl (v := nI (N)) rfl dJ7_fill_d0a16_3 ?_
  refine lv_istore (lv' := [(4, .int (nI N)), (3, .int (nI 0)), (0, .ref q), (1, .long x)]) hx hb dJ7_fill_d0a16_4 hl (by decide) rfl (fun ls hl => ?_)
  have hw1 : f = fillL f x 0 := (fillL_0 f x).symm
  rw [hw1] at hP hD
  have L6 : ∀ (n : Nat) (k : Nat) (H : Heap) (locs : List Loc) (ls : Array Slot), N - k < n → (k ≤ N) → va_P D vwCl [(q, .inl (cJ, N, .inr (.inl (fillL f x k))))] H → va_D A [(q, .inl (cJ, N, .inr (.inl (fillL f x k))))] → va_S A s.heap H locs → lv_has ls 5 [(4, .int (nI N)), (3, .int (nI k)), (0, .ref q), (1, .long x)] → W p l e ({ frames := 0, cells := 0, slots := 0, locals := 0 }) s m args below meth c H locs 0 0 Q (F0 m 6 ls []) := by
    intro n
    induction n with
    | zero => intro k H locs ls hm; exact absurd hm (Nat.not_lt_zero _)
    | succ n ih6 =>
      intro k H locs ls hm hk hP hD hS hl
      refine lv_iload_n hx hb dJ7_fill_d0a16_6 rfl (lv_at hl 1 rfl) ?_
      refine lv_iload hx hb dJ7_fill_d0a16_7 (lv_at hl 0 rfl) ?_
      refine r_icmp_ge (a := k) (b := N) (tgt := 22) hx hb dJ7_fill_d0a16_9 (by decide) (by omega) (by omega)  (fun c9 => ?_) (fun c9 => ?_)
      · skip
        obtain rfl : k = N := by omega
        exact w_vret hx hb hr hlk hQ hAe () hP hD hS (trivial) dJ7_fill_d0a16_22
      refine lv_aload_n hx hb dJ7_fill_d0a16_12 rfl (lv_at hl 2 rfl) ?_
      refine lv_iload_n hx hb dJ7_fill_d0a16_13 rfl (lv_at hl 1 rfl) ?_
      refine lv_lload_n hx hb dJ7_fill_d0a16_14 rfl (lv_at hl 3 rfl) ?_
      refine r_last (i := k) hx hb hKB.1 hP hD hS 0 1 rfl rfl (by omega) (by omega) dJ7_fill_d0a16_15 (fun H locs hP hD hS => ?_)
      have hP : va_P D vwCl [(q, .inl (cJ, N, .inr (.inl (vp_updL (fillL f x k) k x))))] _ := hP
      have hD : va_D A [(q, .inl (cJ, N, .inr (.inl (vp_updL (fillL f x k) k x))))] := hD
      have hw2 : vp_updL (fillL f x k) k x = fillL f x (k + 1) := fillL_s f x k
      rw [hw2] at hP hD
      refine lv_iinc (v := nI (k + 1)) (lv' := [(3, .int (nI (k + 1))), (4, .int (nI N)), (0, .ref q), (1, .long x)]) hx hb dJ7_fill_d0a16_16 hl (k := 1) rfl (n_inc _ 1) (by decide) rfl (fun ls hl => ?_)
      refine lv_goto (tgt := 6) hx hb dJ7_fill_d0a16_19 (by decide) ?_
      exact ih6 (k + 1) _ _ _ (by omega) (by omega) hP hD hS (lv_sub hl [1, 0, 2, 3] rfl)
  exact L6 (N - 0 + 1) 0 _ _ _ (Nat.lt_succ_self _) (by omega) hP hD hS hl


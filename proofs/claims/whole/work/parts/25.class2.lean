set_option maxHeartbeats 4000000 in
set_option maxRecDepth 100000 in
theorem m_X5_isIn (l : Launch) (D : va_G) (cI cJ : ClassId) (o : Nat) (t : Nat) (ho : o < 2 ^ 31) (ht : t < 32) : Met l yX5_isIn wsX5_isIn ({ frames := 0, cells := 0, slots := 0, locals := 0 }) (PR D cI cJ [] [.int (nI o), .int (nI t)]) (QRi (fun r => r = bI (ibt o t))) 0 0 NA := by
  refine met_R (cc := cX5_isIn) (maxL := 2) (ret := (some .boolean)) (by decide) rfl (Nat.le_of_ble_eq_true rfl) ?_
  intro p e s m args below meth c Q ls hQ hAt hKB hP hl
  obtain ⟨hx, hb, hr, hml, hlk, hts, hown, hnm⟩ := hAt
  have hown : s.vm.findClass RX5 = some m.cls := hown
  have hS : va_S NA s.heap s.heap [] := va_S.rf
  have hl : lv_has ls 2 [(0, .int (nI o)), (1, .int (nI t))] := hl
  refine lv_iload_n hx hb dX5_isIn_0 rfl (lv_at hl 0 rfl) ?_
  refine lv_iload_n hx hb dX5_isIn_1 rfl (lv_at hl 1 rfl) ?_
  refine r_ishr (a := o) (b := t) hx hb dX5_isIn_2 (by omega) (by omega) ?_
  refine lv_iconst (v := nI (1)) hx hb dX5_isIn_3 (by decide) ?_
  refine r_iand (a := o >>> t) (b := 1) hx hb dX5_isIn_4  ?_
  refine lv_iconst (v := nI (1)) hx hb dX5_isIn_5 (by decide) ?_
  refine r_icmp_ne (a := (o >>> t) &&& 1) (b := 1) (tgt := 13) hx hb dX5_isIn_6 (by decide) (Nat.lt_of_le_of_lt Nat.and_le_right (by decide)) (by decide)  (fun c6 => ?_) (fun c6 => ?_)
  · skip
    refine lv_iconst (v := nI (0)) hx hb dX5_isIn_13 (by decide) ?_
    exact r_zret (b := false) hx hb hr hlk hQ hS rfl (congrArg bI (decide_eq_false c6).symm) dX5_isIn_14
  refine lv_iconst (v := nI (1)) hx hb dX5_isIn_9 (by decide) ?_
  refine lv_goto (tgt := 14) hx hb dX5_isIn_10 (by decide) ?_
  exact r_zret (b := true) hx hb hr hlk hQ hS rfl (congrArg bI (decide_eq_true c6).symm) dX5_isIn_14

set_option maxHeartbeats 4000000 in
set_option maxRecDepth 100000 in
theorem m_X5_oddsOfForm (l : Launch) (D : va_G) (cI cJ : ClassId) (aq : Nat) (g : Nat → Nat) (m2 : Nat) (f : Nat) (hm2 : m2 < 3) (hf : f < 2 ^ 31) : Met l yX5_oddsOfForm wsX5_oddsOfForm ({ frames := 1, cells := 0, slots := 0, locals := 21 }) (PR D cI cJ [(aq, .inl (cJ, 8, .inr (.inl (lF g))))] [.ref aq, .int (nI m2), .int (nI f)]) (QRl (fun r => r = lN (oF g m2 f 8))) 0 0 NA := by
  refine met_R (cc := cX5_oddsOfForm) (maxL := 6) (ret := (some .long)) (by decide) rfl (Nat.le_of_ble_eq_true rfl) ?_
  intro p e s m args below meth c Q ls hQ hAt hKB hP hl
  obtain ⟨hx, hb, hr, hml, hlk, hts, hown, hnm⟩ := hAt
  have hown : s.vm.findClass RX5 = some m.cls := hown
  have hS : va_S NA s.heap s.heap [] := va_S.rf
  have hl : lv_has ls 6 [(0, .ref aq), (1, .int (nI m2)), (2, .int (nI f))] := hl
  refine lv_lconst (v := lN (0)) hx hb dX5_oddsOfForm_0 (by decide) ?_
  refine lv_lstore_n (lv' := [(3, .long (lN 0)), (0, .ref aq), (1, .int (nI m2)), (2, .int (nI f))]) hx hb dX5_oddsOfForm_1 rfl hl (by decide) rfl (fun ls hl => ?_)
  refine lv_iconst (v := nI (0)) hx hb dX5_oddsOfForm_2 (by decide) ?_
  refine lv_istore (lv' := [(5, .int (nI 0)), (3, .long (lN 0)), (0, .ref aq), (1, .int (nI m2)), (2, .int (nI f))]) hx hb dX5_oddsOfForm_3 hl (by decide) rfl (fun ls hl => ?_)
  have L5 : ∀ (n : Nat) (k : Nat) (H : Heap) (locs : List Loc) (ls : Array Slot), 8 - k < n → (k ≤ 8) → va_P D vwCl [(aq, .inl (cJ, 8, .inr (.inl (lF g))))] H → va_S NA s.heap H locs → lv_has ls 6 [(5, .int (nI k)), (3, .long (lN (oF g m2 f k))), (0, .ref aq), (1, .int (nI m2)), (2, .int (nI f))] → W p l e ({ frames := 1, cells := 0, slots := 0, locals := 21 }) s m args below meth c H locs 0 0 Q (F0 m 5 ls []) := by
    intro n
    induction n with
    | zero => intro k H locs ls hm; exact absurd hm (Nat.not_lt_zero _)
    | succ n ih5 =>
      intro k H locs ls hm hk hP hS hl
      refine lv_iload hx hb dX5_oddsOfForm_5 (lv_at hl 0 rfl) ?_
      refine lv_bipush (v := nI (8)) hx hb dX5_oddsOfForm_7 (by decide) ?_
      refine r_icmp_ge (a := k) (b := 8) (tgt := 35) hx hb dX5_oddsOfForm_9 (by decide) (by omega) (by omega)  (fun c9 => ?_) (fun c9 => ?_)
      · skip
        obtain rfl : 8 = k := by omega
        refine lv_lload_n hx hb dX5_oddsOfForm_35 rfl (lv_at hl 1 rfl) ?_
        exact r_lret hx hb hr hlk hQ hS (rfl) dX5_oddsOfForm_36
      refine lv_iload hx hb dX5_oddsOfForm_12 (lv_at hl 0 rfl) ?_
      refine lv_iload_n hx hb dX5_oddsOfForm_14 rfl (lv_at hl 3 rfl) ?_
      have hPc := hP.sub (ws' := []) [] rfl
      refine r_calli hP hS (va_runS (As := [.int (nI k), .int (nI m2)]) (rest := []) ⟨hx, hb, hml, hown, hts⟩ (m_X5_formOf l D cI cJ k m2 (by omega) (by omega)) (va_cwS 2 hts gX5_oddsOfForm_X5_formOf rfl rfl rfl (by decide +kernel) ⟨Nat.le_of_ble_eq_true rfl, Nat.le_of_ble_eq_true rfl⟩) ⟨PR.blind, fun U hU hW => ⟨rfl, hKB.warm hW, by rw [hU]; exact hPc⟩⟩ rfl rfl hl.1 rfl (lv_room (Nat.le_of_ble_eq_true rfl)) dX5_oddsOfForm_15 ⟨Nat.le_of_ble_eq_true rfl, Nat.le_of_ble_eq_true rfl⟩) (fun r1 H locs hw15 hP hS => ?_)
      have hw15 : r1 = nI (fo k m2) := hw15
      subst hw15
      refine lv_iload_n hx hb dX5_oddsOfForm_18 rfl (lv_at hl 4 rfl) ?_
      refine r_icmp_ne (a := fo k m2) (b := f) (tgt := 29) hx hb dX5_oddsOfForm_19 (by decide) (Nat.lt_of_le_of_lt (fo_le k m2) (by decide)) (by omega)  (fun c19 => ?_) (fun c19 => ?_)
      · skip
        have hw2 : lN (oF g m2 f k) = lN (oF g m2 f (k + 1)) := congrArg lN (by first | exact oF_y c19 | exact oF_n c19)
        rw [hw2] at hl
        refine lv_iinc (v := nI (k + 1)) (lv' := [(5, .int (nI (k + 1))), (3, .long (lN (oF g m2 f (k + 1)))), (0, .ref aq), (1, .int (nI m2)), (2, .int (nI f))]) hx hb dX5_oddsOfForm_29 hl (k := 0) rfl (n_inc _ 1) (by decide) rfl (fun ls hl => ?_)
        refine lv_goto (tgt := 5) hx hb dX5_oddsOfForm_32 (by decide) ?_
        exact ih5 (k + 1) _ _ _ (by omega) (by omega) hP hS hl
      refine lv_lload_n hx hb dX5_oddsOfForm_22 rfl (lv_at hl 1 rfl) ?_
      refine lv_aload_n hx hb dX5_oddsOfForm_23 rfl (lv_at hl 2 rfl) ?_
      refine lv_iload hx hb dX5_oddsOfForm_24 (lv_at hl 0 rfl) ?_
      refine r_lald (i := k) (v := lN (g k)) hx hb hKB.1 hP 0 1 rfl rfl (by omega) (by decide) (rfl) dX5_oddsOfForm_26 ?_
      refine r_ladd (a := oF g m2 f k) (b := g k) hx hb dX5_oddsOfForm_27  ?_
      refine lv_lstore_n (lv' := [(3, .long (lN ((oF g m2 f k) + (g k)))), (5, .int (nI k)), (0, .ref aq), (1, .int (nI m2)), (2, .int (nI f))]) hx hb dX5_oddsOfForm_28 rfl hl (by decide) rfl (fun ls hl => ?_)
      have hw3 : lN ((oF g m2 f k) + (g k)) = lN (oF g m2 f (k + 1)) := congrArg lN (by first | exact oF_y c19 | exact oF_n c19)
      rw [hw3] at hl
      refine lv_iinc (v := nI (k + 1)) (lv' := [(5, .int (nI (k + 1))), (3, .long (lN (oF g m2 f (k + 1)))), (0, .ref aq), (1, .int (nI m2)), (2, .int (nI f))]) hx hb dX5_oddsOfForm_29 hl (k := 1) rfl (n_inc _ 1) (by decide) rfl (fun ls hl => ?_)
      refine lv_goto (tgt := 5) hx hb dX5_oddsOfForm_32 (by decide) ?_
      exact ih5 (k + 1) _ _ _ (by omega) (by omega) hP hS hl
  exact L5 (8 - 0 + 1) 0 _ _ _ (Nat.lt_succ_self _) (by omega) hP hS hl

set_option maxHeartbeats 4000000 in
set_option maxRecDepth 100000 in
theorem m_X5_refusalOfLives (l : Launch) (D : va_G) (cI cJ : ClassId) (xq : Nat) (sq : Nat) (hq : Nat) (lq : Nat) (oq : Nat) (pq : Nat) (req : Nat) (wq : Nat) (h : Nat) (bq : Nat) (teq : Nat) (loq : Nat) (rq : Nat) (odq : Nat) (kn : Nat) (nwq : Nat) (nxq : Nat) (k1 : Bool) (i1 : Bool) (p2 : Int32) (hh : h ≤ 4) : Met l yX5_refusalOfLives wsX5_refusalOfLives ({ frames := 1, cells := 0, slots := 0, locals := 22 }) (PR D cI cJ [(xq, .inr (5, [.ref sq, .ref hq, .ref lq, .ref oq, .ref pq, .ref req])), (pq, .inr (4, [.ref lq, .ref oq, .ref wq, .int (nI h), .ref bq, .ref teq, .ref loq, .ref rq, .ref odq, .int (nI kn), .ref nwq, .ref nxq]))] [.ref xq, .int (bI k1), .int (bI i1), .int p2]) (QRi (fun r => r = rfL k1 i1 h p2)) 0 0 NA := by
  refine met_R (cc := cX5_refusalOfLives) (maxL := 5) (ret := (some .int)) (by decide) rfl (Nat.le_of_ble_eq_true rfl) ?_
  intro p e s m args below meth c Q ls hQ hAt hKB hP hl
  obtain ⟨hx, hb, hr, hml, hlk, hts, hown, hnm⟩ := hAt
  have hown : s.vm.findClass RX5 = some m.cls := hown
  have hS : va_S NA s.heap s.heap [] := va_S.rf
  have hl : lv_has ls 5 [(0, .ref xq), (1, .int (bI k1)), (2, .int (bI i1)), (3, .int p2)] := hl
  have hiX5 : ∀ w ∈ u_ws RX5 TX5 6, w ∈ wsX5_refusalOfLives := by decide +kernel
  have fl44 := hts (.fieldLink RX5 44 "TaughtTongues" "steps" "LTaughtTongues$Steps;") (by decide +kernel)
  have hiX4 : ∀ w ∈ u_ws RX4 TX4 12, w ∈ wsX5_refusalOfLives := by decide +kernel
  refine lv_iload_n hx hb dX5_refusalOfLives_0 rfl (lv_at hl 1 rfl) ?_
  refine lv_iload_n hx hb dX5_refusalOfLives_1 rfl (lv_at hl 2 rfl) ?_
  refine r_bif_eq (b := i1) (tgt := 18) hx hb dX5_refusalOfLives_2 (by decide) (fun c2 => ?_) (fun c2 => ?_)
  · skip
    refine lv_iconst (v := nI (0)) hx hb dX5_refusalOfLives_18 (by decide) ?_
    have hPc := hP.sub (ws' := []) [] rfl
    refine r_calli hP hS (va_runS (As := [.int (bI k1), .int (nI 0)]) (rest := []) ⟨hx, hb, hml, hown, hts⟩ (m_X5_refusalOf l D cI cJ k1 false) (va_cwS 2 hts gX5_refusalOfLives_X5_refusalOf rfl rfl rfl (by decide +kernel) ⟨Nat.le_of_ble_eq_true rfl, Nat.le_of_ble_eq_true rfl⟩) ⟨PR.blind, fun U hU hW => ⟨rfl, hKB.warm hW, by rw [hU]; exact hPc⟩⟩ rfl rfl hl.1 rfl (lv_room (Nat.le_of_ble_eq_true rfl)) dX5_refusalOfLives_19 ⟨Nat.le_of_ble_eq_true rfl, Nat.le_of_ble_eq_true rfl⟩) (fun r1 H locs hw19 hP hS => ?_)
    have hw19 : r1 = rfo k1 false := hw19
    subst hw19
    refine lv_istore (lv' := [(4, .int (rfo k1 false)), (0, .ref xq), (1, .int (bI k1)), (2, .int (bI i1)), (3, .int p2)]) hx hb dX5_refusalOfLives_22 hl (by decide) rfl (fun ls hl => ?_)
    refine lv_iload hx hb dX5_refusalOfLives_24 (lv_at hl 0 rfl) ?_
    refine lv_if_eq (tgt := 32) hx hb dX5_refusalOfLives_26 (by decide) (fun c26 => ?_) (fun c26 => ?_)
    · exact absurd (rfo_0.mp c26).2 (by decide)
    refine lv_iload hx hb dX5_refusalOfLives_29 (lv_at hl 0 rfl) ?_
    exact r_iret hx hb hr hlk hQ hS (by first | (simp only [rfL, c2, Bool.false_and]; rw [if_neg c26]) | (simp only [rfL, c2, c11, Bool.true_and]; rw [if_neg c26])) dX5_refusalOfLives_31
  refine lv_iload_n hx hb dX5_refusalOfLives_5 rfl (lv_at hl 3 rfl) ?_
  refine lv_iconst (v := nI (1)) hx hb dX5_refusalOfLives_6 (by decide) ?_
  refine lv_iconst (v := nI (4)) hx hb dX5_refusalOfLives_7 (by decide) ?_
  have hPc := hP.sub (ws' := []) [] rfl
  refine r_calli hP hS (va_runS (As := [.int p2, .int (nI 1), .int (nI 4)]) (rest := [.int (bI k1)]) ⟨hx, hb, hml, hown, hts⟩ (m_X5_isBetween l D cI cJ p2 1 4) (va_cwS 3 hts gX5_refusalOfLives_X5_isBetween rfl rfl rfl (by decide +kernel) ⟨Nat.le_of_ble_eq_true rfl, Nat.le_of_ble_eq_true rfl⟩) ⟨PR.blind, fun U hU hW => ⟨rfl, hKB.warm hW, by rw [hU]; exact hPc⟩⟩ rfl rfl hl.1 rfl (lv_room (Nat.le_of_ble_eq_true rfl)) dX5_refusalOfLives_8 ⟨Nat.le_of_ble_eq_true rfl, Nat.le_of_ble_eq_true rfl⟩) (fun r2 H locs hw8 hP hS => ?_)
  have hw8 : r2 = bI (inR p2 1 4) := hw8
  subst hw8
  refine r_bif_eq (b := inR p2 1 4) (tgt := 18) hx hb dX5_refusalOfLives_11 (by decide) (fun c11 => ?_) (fun c11 => ?_)
  · skip
    refine lv_iconst (v := nI (0)) hx hb dX5_refusalOfLives_18 (by decide) ?_
    have hPc := hP.sub (ws' := []) [] rfl
    refine r_calli hP hS (va_runS (As := [.int (bI k1), .int (nI 0)]) (rest := []) ⟨hx, hb, hml, hown, hts⟩ (m_X5_refusalOf l D cI cJ k1 false) (va_cwS 2 hts gX5_refusalOfLives_X5_refusalOf rfl rfl rfl (by decide +kernel) ⟨Nat.le_of_ble_eq_true rfl, Nat.le_of_ble_eq_true rfl⟩) ⟨PR.blind, fun U hU hW => ⟨rfl, hKB.warm hW, by rw [hU]; exact hPc⟩⟩ rfl rfl hl.1 rfl (lv_room (Nat.le_of_ble_eq_true rfl)) dX5_refusalOfLives_19 ⟨Nat.le_of_ble_eq_true rfl, Nat.le_of_ble_eq_true rfl⟩) (fun r3 H locs hw19 hP hS => ?_)
    have hw19 : r3 = rfo k1 false := hw19
    subst hw19
    refine lv_istore (lv' := [(4, .int (rfo k1 false)), (0, .ref xq), (1, .int (bI k1)), (2, .int (bI i1)), (3, .int p2)]) hx hb dX5_refusalOfLives_22 hl (by decide) rfl (fun ls hl => ?_)
    refine lv_iload hx hb dX5_refusalOfLives_24 (lv_at hl 0 rfl) ?_
    refine lv_if_eq (tgt := 32) hx hb dX5_refusalOfLives_26 (by decide) (fun c26 => ?_) (fun c26 => ?_)
    · exact absurd (rfo_0.mp c26).2 (by decide)
    refine lv_iload hx hb dX5_refusalOfLives_29 (lv_at hl 0 rfl) ?_
    exact r_iret hx hb hr hlk hQ hS (by first | (simp only [rfL, c2, Bool.false_and]; rw [if_neg c26]) | (simp only [rfL, c2, c11, Bool.true_and]; rw [if_neg c26])) dX5_refusalOfLives_31
  refine lv_iconst (v := nI (1)) hx hb dX5_refusalOfLives_14 (by decide) ?_
  refine lv_goto (tgt := 19) hx hb dX5_refusalOfLives_15 (by decide) ?_
  have hPc := hP.sub (ws' := []) [] rfl
  refine r_calli hP hS (va_runS (As := [.int (bI k1), .int (nI 1)]) (rest := []) ⟨hx, hb, hml, hown, hts⟩ (m_X5_refusalOf l D cI cJ k1 true) (va_cwS 2 hts gX5_refusalOfLives_X5_refusalOf rfl rfl rfl (by decide +kernel) ⟨Nat.le_of_ble_eq_true rfl, Nat.le_of_ble_eq_true rfl⟩) ⟨PR.blind, fun U hU hW => ⟨rfl, hKB.warm hW, by rw [hU]; exact hPc⟩⟩ rfl rfl hl.1 rfl (lv_room (Nat.le_of_ble_eq_true rfl)) dX5_refusalOfLives_19 ⟨Nat.le_of_ble_eq_true rfl, Nat.le_of_ble_eq_true rfl⟩) (fun r4 H locs hw19 hP hS => ?_)
  have hw19 : r4 = rfo k1 true := hw19
  subst hw19
  refine lv_istore (lv' := [(4, .int (rfo k1 true)), (0, .ref xq), (1, .int (bI k1)), (2, .int (bI i1)), (3, .int p2)]) hx hb dX5_refusalOfLives_22 hl (by decide) rfl (fun ls hl => ?_)
  refine lv_iload hx hb dX5_refusalOfLives_24 (lv_at hl 0 rfl) ?_
  refine lv_if_eq (tgt := 32) hx hb dX5_refusalOfLives_26 (by decide) (fun c26 => ?_) (fun c26 => ?_)
  · skip
    obtain ⟨V, hV1, hV, rfl⟩ := inR_t (by decide) (by decide) c11
    refine lv_aload_n hx hb dX5_refusalOfLives_32 rfl (lv_at hl 1 rfl) ?_
    refine va_get (D := D) (ci := 5) (v := .ref pq) (C := RX5) (T := TX5) (N := 6) hx hb hts hiX5 hown hKB.1 hP 0 rfl rfl 4 (by decide) fl44 (fun _ h9 => h9) rfl dX5_refusalOfLives_33 ?_
    refine va_getN (D := D) (ci := 4) (v := .int (nI h)) (C := RX4) (T := TX4) (N := 12) hx hb hts hiX4 hown hKB.1 hP 1 rfl rfl 3 (by decide) (hKB.2.f (q := ("TaughtTongues", 148, "TaughtTongues$Steps", "hears", "I")) 1 rfl) (fun _ h9 => h9) rfl dX5_refusalOfLives_36 ?_
    refine lv_iload_n hx hb dX5_refusalOfLives_39 rfl (lv_at hl 4 rfl) ?_
    refine r_imul (a := h) (b := V) hx hb dX5_refusalOfLives_40  ?_
    refine lv_bipush (v := nI (8)) hx hb dX5_refusalOfLives_41 (by decide) ?_
    refine r_icmp_le (a := h * V) (b := 8) (tgt := 51) hx hb dX5_refusalOfLives_43 (by decide) (Nat.lt_of_le_of_lt (Nat.mul_le_mul hh hV) (by decide)) (by decide)  (fun c43 => ?_) (fun c43 => ?_)
    · skip
      refine lv_iconst (v := nI (0)) hx hb dX5_refusalOfLives_51 (by decide) ?_
      exact r_iret hx hb hr hlk hQ hS (by simp only [rfL, c2, c11, Bool.true_and]; rw [if_pos c26, tN_n (show V < 2 ^ 31 by omega), if_pos c43]; rfl) dX5_refusalOfLives_52
    refine lv_bipush (v := (-3)) hx hb dX5_refusalOfLives_46 (by decide) ?_
    refine lv_goto (tgt := 52) hx hb dX5_refusalOfLives_48 (by decide) ?_
    exact r_iret hx hb hr hlk hQ hS (by simp only [rfL, c2, c11, Bool.true_and]; rw [if_pos c26, tN_n (show V < 2 ^ 31 by omega), if_neg (Nat.not_le.mpr c43)]) dX5_refusalOfLives_52
  refine lv_iload hx hb dX5_refusalOfLives_29 (lv_at hl 0 rfl) ?_
  exact r_iret hx hb hr hlk hQ hS (by first | (simp only [rfL, c2, Bool.false_and]; rw [if_neg c26]) | (simp only [rfL, c2, c11, Bool.true_and]; rw [if_neg c26])) dX5_refusalOfLives_31

set_option maxHeartbeats 4000000 in
set_option maxRecDepth 100000 in
theorem m_X5_findReaches (l : Launch) (D : va_G) (cI cJ : ClassId) (sz : Nat) (xq : Nat) (sq : Nat) (hq : Nat) (lq : Nat) (oq : Nat) (pq : Nat) (req : Nat) (wq : Nat) (h : Nat) (bq : Nat) (teq : Nat) (loq : Nat) (rq : Nat) (odq : Nat) (kn : Nat) (nwq : Nat) (nxq : Nat) (od : Nat → Nat) (re : Nat → Nat) (hob : ∀ i, i < 64 → od i < 2 ^ 63) : Met l yX5_findReaches wsX5_findReaches ({ frames := 1, cells := 0, slots := 0, locals := 23 }) (PX D cI cJ [(xq, .inr (5, [.ref sq, .ref hq, .ref lq, .ref oq, .ref pq, .ref req])), (pq, .inr (4, [.ref lq, .ref oq, .ref wq, .int (nI h), .ref bq, .ref teq, .ref loq, .ref rq, .ref odq, .int (nI kn), .ref nwq, .ref nxq])), (odq, .inl (cJ, 64, .inr (.inl (lF od)))), (req, .inl (cI, 8, .inl (nF re)))] sz [.ref xq]) (QWv D (S := Unit) [(xq, .inr (5, [.ref sq, .ref hq, .ref lq, .ref oq, .ref pq, .ref req])), (pq, .inr (4, [.ref lq, .ref oq, .ref wq, .int (nI h), .ref bq, .ref teq, .ref loq, .ref rq, .ref odq, .int (nI kn), .ref nwq, .ref nxq])), (odq, .inl (cJ, 64, .inr (.inl (lF od)))), (req, .inl (cI, 8, .inl (nF re)))] sz (fun _ => True) (fun _ => [(xq, .inr (5, [.ref sq, .ref hq, .ref lq, .ref oq, .ref pq, .ref req])), (pq, .inr (4, [.ref lq, .ref oq, .ref wq, .int (nI h), .ref bq, .ref teq, .ref loq, .ref rq, .ref odq, .int (nI kn), .ref nwq, .ref nxq])), (odq, .inl (cJ, 64, .inr (.inl (lF od)))), (req, .inl (cI, 8, .inl (nF (rO (r0 od) 8))))])) 0 0 (va_A [(xq, .inr (5, [.ref sq, .ref hq, .ref lq, .ref oq, .ref pq, .ref req])), (pq, .inr (4, [.ref lq, .ref oq, .ref wq, .int (nI h), .ref bq, .ref teq, .ref loq, .ref rq, .ref odq, .int (nI kn), .ref nwq, .ref nxq])), (odq, .inl (cJ, 64, .inr (.inl (lF od)))), (req, .inl (cI, 8, .inl (nF re)))] sz) := by
  refine met_X (cc := cX5_findReaches) (maxL := 3) (ret := none) (by decide) rfl (Nat.le_of_ble_eq_true rfl) ?_
  intro p e s m args below meth c Q ls A hQ hAe hAt hKB hP hD hA hl
  obtain ⟨hx, hb, hr, hml, hlk, hts, hown, hnm⟩ := hAt
  have hown : s.vm.findClass RX5 = some m.cls := hown
  have hS : va_S A s.heap s.heap [] := va_S.rf
  have hl : lv_has ls 3 [(0, .ref xq)] := hl
  have hiX5 : ∀ w ∈ u_ws RX5 TX5 6, w ∈ wsX5_findReaches := by decide +kernel
  have fl48 := hts (.fieldLink RX5 48 "TaughtTongues" "reaches" "[I") (by decide +kernel)
  have fl44 := hts (.fieldLink RX5 44 "TaughtTongues" "steps" "LTaughtTongues$Steps;") (by decide +kernel)
  refine lv_iconst (v := nI (0)) hx hb dX5_findReaches_0 (by decide) ?_
  refine lv_istore_n (lv' := [(1, .int (nI 0)), (0, .ref xq)]) hx hb dX5_findReaches_1 rfl hl (by decide) rfl (fun ls hl => ?_)
  have L2 : ∀ (n : Nat) (k : Nat) (f1 : Nat → Nat) (H : Heap) (locs : List Loc) (ls : Array Slot), 8 - k < n → (k ≤ 8) → (∀ j, j < k → f1 j = r0 od j) → va_P D vwCl [(xq, .inr (5, [.ref sq, .ref hq, .ref lq, .ref oq, .ref pq, .ref req])), (pq, .inr (4, [.ref lq, .ref oq, .ref wq, .int (nI h), .ref bq, .ref teq, .ref loq, .ref rq, .ref odq, .int (nI kn), .ref nwq, .ref nxq])), (odq, .inl (cJ, 64, .inr (.inl (lF od)))), (req, .inl (cI, 8, .inl (nF f1)))] H → va_D A [(xq, .inr (5, [.ref sq, .ref hq, .ref lq, .ref oq, .ref pq, .ref req])), (pq, .inr (4, [.ref lq, .ref oq, .ref wq, .int (nI h), .ref bq, .ref teq, .ref loq, .ref rq, .ref odq, .int (nI kn), .ref nwq, .ref nxq])), (odq, .inl (cJ, 64, .inr (.inl (lF od)))), (req, .inl (cI, 8, .inl (nF f1)))] → va_S A s.heap H locs → lv_has ls 3 [(1, .int (nI k)), (0, .ref xq)] → W p l e ({ frames := 1, cells := 0, slots := 0, locals := 23 }) s m args below meth c H locs 0 0 Q (F0 m 2 ls []) := by
    intro n
    induction n with
    | zero => intro k f1 H locs ls hm; exact absurd hm (Nat.not_lt_zero _)
    | succ n ih2 =>
      intro k f1 H locs ls hm hk hf hP hD hS hl
      refine lv_iload_n hx hb dX5_findReaches_2 rfl (lv_at hl 0 rfl) ?_
      refine lv_bipush (v := nI (8)) hx hb dX5_findReaches_3 (by decide) ?_
      refine r_icmp_ge (a := k) (b := 8) (tgt := 32) hx hb dX5_findReaches_5 (by decide) (by omega) (by omega)  (fun c5 => ?_) (fun c5 => ?_)
      · skip
        refine lv_iconst (v := nI (0)) hx hb dX5_findReaches_32 (by decide) ?_
        refine lv_istore_n (lv' := [(1, .int (nI 0)), (0, .ref xq)]) hx hb dX5_findReaches_33 rfl hl (by decide) rfl (fun ls hl => ?_)
        have hP := P_arrI hP 3 (g := (nF (rO (r0 od) 0))) rfl (fun j hj => congrArg nI (hf j (by omega)))
        have hD := D_arrI hD 3 (g := (nF (rO (r0 od) 0))) rfl
        have hP : va_P D vwCl [(xq, .inr (5, [.ref sq, .ref hq, .ref lq, .ref oq, .ref pq, .ref req])), (pq, .inr (4, [.ref lq, .ref oq, .ref wq, .int (nI h), .ref bq, .ref teq, .ref loq, .ref rq, .ref odq, .int (nI kn), .ref nwq, .ref nxq])), (odq, .inl (cJ, 64, .inr (.inl (lF od)))), (req, .inl (cI, 8, .inl (nF (rO (r0 od) 0))))] _ := hP
        have hD : va_D A [(xq, .inr (5, [.ref sq, .ref hq, .ref lq, .ref oq, .ref pq, .ref req])), (pq, .inr (4, [.ref lq, .ref oq, .ref wq, .int (nI h), .ref bq, .ref teq, .ref loq, .ref rq, .ref odq, .int (nI kn), .ref nwq, .ref nxq])), (odq, .inl (cJ, 64, .inr (.inl (lF od)))), (req, .inl (cI, 8, .inl (nF (rO (r0 od) 0))))] := hD
        have L34 : ∀ (n : Nat) (b : Nat) (H : Heap) (locs : List Loc) (ls : Array Slot), 8 - b < n → (b ≤ 8) → va_P D vwCl [(xq, .inr (5, [.ref sq, .ref hq, .ref lq, .ref oq, .ref pq, .ref req])), (pq, .inr (4, [.ref lq, .ref oq, .ref wq, .int (nI h), .ref bq, .ref teq, .ref loq, .ref rq, .ref odq, .int (nI kn), .ref nwq, .ref nxq])), (odq, .inl (cJ, 64, .inr (.inl (lF od)))), (req, .inl (cI, 8, .inl (nF (rO (r0 od) b))))] H → va_D A [(xq, .inr (5, [.ref sq, .ref hq, .ref lq, .ref oq, .ref pq, .ref req])), (pq, .inr (4, [.ref lq, .ref oq, .ref wq, .int (nI h), .ref bq, .ref teq, .ref loq, .ref rq, .ref odq, .int (nI kn), .ref nwq, .ref nxq])), (odq, .inl (cJ, 64, .inr (.inl (lF od)))), (req, .inl (cI, 8, .inl (nF (rO (r0 od) b))))] → va_S A s.heap H locs → lv_has ls 3 [(1, .int (nI b)), (0, .ref xq)] → W p l e ({ frames := 1, cells := 0, slots := 0, locals := 23 }) s m args below meth c H locs 0 0 Q (F0 m 34 ls []) := by
          intro n
          induction n with
          | zero => intro b H locs ls hm; exact absurd hm (Nat.not_lt_zero _)
          | succ n ih34 =>
            intro b H locs ls hm hb8 hP hD hS hl
            refine lv_iload_n hx hb dX5_findReaches_34 rfl (lv_at hl 0 rfl) ?_
            refine lv_bipush (v := nI (8)) hx hb dX5_findReaches_35 (by decide) ?_
            refine r_icmp_ge (a := b) (b := 8) (tgt := 88) hx hb dX5_findReaches_37 (by decide) (by omega) (by omega)  (fun c37 => ?_) (fun c37 => ?_)
            · skip
              obtain rfl : 8 = b := by omega
              exact w_vret hx hb hr hlk hQ hAe () hP hD hS (trivial) dX5_findReaches_88
            refine lv_iconst (v := nI (0)) hx hb dX5_findReaches_40 (by decide) ?_
            refine lv_istore_n (lv' := [(2, .int (nI 0)), (1, .int (nI b)), (0, .ref xq)]) hx hb dX5_findReaches_41 rfl hl (by decide) rfl (fun ls hl => ?_)
            have L42 : ∀ (n : Nat) (k : Nat) (H : Heap) (locs : List Loc) (ls : Array Slot), 8 - k < n → (k ≤ 8) → va_P D vwCl [(xq, .inr (5, [.ref sq, .ref hq, .ref lq, .ref oq, .ref pq, .ref req])), (pq, .inr (4, [.ref lq, .ref oq, .ref wq, .int (nI h), .ref bq, .ref teq, .ref loq, .ref rq, .ref odq, .int (nI kn), .ref nwq, .ref nxq])), (odq, .inl (cJ, 64, .inr (.inl (lF od)))), (req, .inl (cI, 8, .inl (nF (rI b (rO (r0 od) b) k))))] H → va_D A [(xq, .inr (5, [.ref sq, .ref hq, .ref lq, .ref oq, .ref pq, .ref req])), (pq, .inr (4, [.ref lq, .ref oq, .ref wq, .int (nI h), .ref bq, .ref teq, .ref loq, .ref rq, .ref odq, .int (nI kn), .ref nwq, .ref nxq])), (odq, .inl (cJ, 64, .inr (.inl (lF od)))), (req, .inl (cI, 8, .inl (nF (rI b (rO (r0 od) b) k))))] → va_S A s.heap H locs → lv_has ls 3 [(2, .int (nI k)), (1, .int (nI b)), (0, .ref xq)] → W p l e ({ frames := 1, cells := 0, slots := 0, locals := 23 }) s m args below meth c H locs 0 0 Q (F0 m 42 ls []) := by
              intro n
              induction n with
              | zero => intro k H locs ls hm; exact absurd hm (Nat.not_lt_zero _)
              | succ n ih42 =>
                intro k H locs ls hm hk hP hD hS hl
                refine lv_iload_n hx hb dX5_findReaches_42 rfl (lv_at hl 0 rfl) ?_
                refine lv_bipush (v := nI (8)) hx hb dX5_findReaches_43 (by decide) ?_
                refine r_icmp_ge (a := k) (b := 8) (tgt := 82) hx hb dX5_findReaches_45 (by decide) (by omega) (by omega)  (fun c45 => ?_) (fun c45 => ?_)
                · skip
                  obtain rfl : 8 = k := by omega
                  refine lv_iinc (v := nI (b + 1)) (lv' := [(1, .int (nI (b + 1))), (2, .int (nI 8)), (0, .ref xq)]) hx hb dX5_findReaches_82 hl (k := 1) rfl (n_inc _ 1) (by decide) rfl (fun ls hl => ?_)
                  refine lv_goto (tgt := 34) hx hb dX5_findReaches_85 (by decide) ?_
                  exact ih34 (b + 1) _ _ _ (by omega) (by omega) hP hD hS (lv_sub hl [0, 2] rfl)
                have hl1 := rI_lt c37 (rO_lt (r0_lt (od := od)) b (by omega)) k (by omega) k c45
                refine lv_aload_n hx hb dX5_findReaches_48 rfl (lv_at hl 2 rfl) ?_
                refine va_get (D := D) (ci := 5) (v := .ref req) (C := RX5) (T := TX5) (N := 6) hx hb hts hiX5 hown hKB.1 hP 0 rfl rfl 5 (by decide) fl48 (fun _ h9 => h9) rfl dX5_findReaches_49 ?_
                refine lv_iload_n hx hb dX5_findReaches_52 rfl (lv_at hl 0 rfl) ?_
                refine r_iald (i := k) (v := nI ((rI b (rO (r0 od) b) k) k)) hx hb hKB.1 hP 3 0 rfl rfl (by omega) (by decide) (rfl) dX5_findReaches_53 ?_
                refine lv_iload_n hx hb dX5_findReaches_54 rfl (lv_at hl 1 rfl) ?_
                have hPc := hP.sub (ws' := []) [] rfl
                refine r_calli hP hS (va_runS (As := [.int (nI ((rI b (rO (r0 od) b) k) k)), .int (nI b)]) (rest := []) ⟨hx, hb, hml, hown, hts⟩ (m_X5_isIn l D cI cJ ((rI b (rO (r0 od) b) k) k) b (by omega) (by omega)) (va_cwS 2 hts gX5_findReaches_X5_isIn rfl rfl rfl (by decide +kernel) ⟨Nat.le_of_ble_eq_true rfl, Nat.le_of_ble_eq_true rfl⟩) ⟨PR.blind, fun U hU hW => ⟨rfl, hKB.warm hW, by rw [hU]; exact hPc⟩⟩ rfl rfl hl.1 rfl (lv_room (Nat.le_of_ble_eq_true rfl)) dX5_findReaches_55 ⟨Nat.le_of_ble_eq_true rfl, Nat.le_of_ble_eq_true rfl⟩) (fun r1 H locs hw55 hP hS => ?_)
                have hw55 : r1 = bI (ibt ((rI b (rO (r0 od) b) k) k) b) := hw55
                subst hw55
                refine r_bif_eq (b := ibt ((rI b (rO (r0 od) b) k) k) b) (tgt := 76) hx hb dX5_findReaches_58 (by decide) (fun c58 => ?_) (fun c58 => ?_)
                · skip
                  have hw2 : nF (rI b (rO (r0 od) b) k) = nF (rI b (rO (r0 od) b) (k + 1)) := congrArg nF (by first | (rw [rI, if_neg (by rw [c58]; decide)]; done) | (rw [rI, if_pos c58]; done))
                  rw [hw2] at hP hD
                  refine lv_iinc (v := nI (k + 1)) (lv' := [(2, .int (nI (k + 1))), (1, .int (nI b)), (0, .ref xq)]) hx hb dX5_findReaches_76 hl (k := 0) rfl (n_inc _ 1) (by decide) rfl (fun ls hl => ?_)
                  refine lv_goto (tgt := 42) hx hb dX5_findReaches_79 (by decide) ?_
                  exact ih42 (k + 1) _ _ _ (by omega) (by omega) hP hD hS hl
                refine lv_aload_n hx hb dX5_findReaches_61 rfl (lv_at hl 2 rfl) ?_
                refine va_get (D := D) (ci := 5) (v := .ref req) (C := RX5) (T := TX5) (N := 6) hx hb hts hiX5 hown hKB.1 hP 0 rfl rfl 5 (by decide) fl48 (fun _ h9 => h9) rfl dX5_findReaches_62 ?_
                refine lv_iload_n hx hb dX5_findReaches_65 rfl (lv_at hl 0 rfl) ?_
                refine lv_dup2_11 hx hb dX5_findReaches_66 rfl rfl ?_
                refine r_iald (i := k) (v := nI ((rI b (rO (r0 od) b) k) k)) hx hb hKB.1 hP 3 0 rfl rfl (by omega) (by decide) (rfl) dX5_findReaches_67 ?_
                refine lv_aload_n hx hb dX5_findReaches_68 rfl (lv_at hl 2 rfl) ?_
                refine va_get (D := D) (ci := 5) (v := .ref req) (C := RX5) (T := TX5) (N := 6) hx hb hts hiX5 hown hKB.1 hP 0 rfl rfl 5 (by decide) fl48 (fun _ h9 => h9) rfl dX5_findReaches_69 ?_
                refine lv_iload_n hx hb dX5_findReaches_72 rfl (lv_at hl 1 rfl) ?_
                refine r_iald (i := b) (v := nI ((rI b (rO (r0 od) b) k) b)) hx hb hKB.1 hP 3 0 rfl rfl (by omega) (by decide) (rfl) dX5_findReaches_73 ?_
                refine r_ior (a := (rI b (rO (r0 od) b) k) k) (b := (rI b (rO (r0 od) b) k) b) hx hb dX5_findReaches_74  ?_
                refine r_iastN (i := k) hx hb hKB.1 hP hD hS 3 0 rfl rfl (by omega) (by decide) dX5_findReaches_75 (fun H locs hP hD hS => ?_)
                have hP : va_P D vwCl [(xq, .inr (5, [.ref sq, .ref hq, .ref lq, .ref oq, .ref pq, .ref req])), (pq, .inr (4, [.ref lq, .ref oq, .ref wq, .int (nI h), .ref bq, .ref teq, .ref loq, .ref rq, .ref odq, .int (nI kn), .ref nwq, .ref nxq])), (odq, .inl (cJ, 64, .inr (.inl (lF od)))), (req, .inl (cI, 8, .inl (nF (nu (rI b (rO (r0 od) b) k) k (((rI b (rO (r0 od) b) k) k) ||| ((rI b (rO (r0 od) b) k) b))))))] _ := hP
                have hD : va_D A [(xq, .inr (5, [.ref sq, .ref hq, .ref lq, .ref oq, .ref pq, .ref req])), (pq, .inr (4, [.ref lq, .ref oq, .ref wq, .int (nI h), .ref bq, .ref teq, .ref loq, .ref rq, .ref odq, .int (nI kn), .ref nwq, .ref nxq])), (odq, .inl (cJ, 64, .inr (.inl (lF od)))), (req, .inl (cI, 8, .inl (nF (nu (rI b (rO (r0 od) b) k) k (((rI b (rO (r0 od) b) k) k) ||| ((rI b (rO (r0 od) b) k) b))))))] := hD
                have hw3 : nF (nu (rI b (rO (r0 od) b) k) k (((rI b (rO (r0 od) b) k) k) ||| ((rI b (rO (r0 od) b) k) b))) = nF (rI b (rO (r0 od) b) (k + 1)) := congrArg nF (by first | (rw [rI, if_neg (by rw [c58]; decide)]; done) | (rw [rI, if_pos c58]; done))
                rw [hw3] at hP hD
                refine lv_iinc (v := nI (k + 1)) (lv' := [(2, .int (nI (k + 1))), (1, .int (nI b)), (0, .ref xq)]) hx hb dX5_findReaches_76 hl (k := 0) rfl (n_inc _ 1) (by decide) rfl (fun ls hl => ?_)
                refine lv_goto (tgt := 42) hx hb dX5_findReaches_79 (by decide) ?_
                exact ih42 (k + 1) _ _ _ (by omega) (by omega) hP hD hS hl
            exact L42 (8 - 0 + 1) 0 _ _ _ (Nat.lt_succ_self _) (by omega) hP hD hS hl
        exact L34 (8 - 0 + 1) 0 _ _ _ (Nat.lt_succ_self _) (by omega) hP hD hS hl
      refine lv_aload_n hx hb dX5_findReaches_8 rfl (lv_at hl 1 rfl) ?_
      refine va_get (D := D) (ci := 5) (v := .ref req) (C := RX5) (T := TX5) (N := 6) hx hb hts hiX5 hown hKB.1 hP 0 rfl rfl 5 (by decide) fl48 (fun _ h9 => h9) rfl dX5_findReaches_9 ?_
      refine lv_iload_n hx hb dX5_findReaches_12 rfl (lv_at hl 0 rfl) ?_
      refine lv_iconst (v := nI (1)) hx hb dX5_findReaches_13 (by decide) ?_
      refine lv_iload_n hx hb dX5_findReaches_14 rfl (lv_at hl 0 rfl) ?_
      refine r_ishl (a := 1) (b := k) hx hb dX5_findReaches_15 (by omega) (sh1 k c5) ?_
      refine lv_aload_n hx hb dX5_findReaches_16 rfl (lv_at hl 1 rfl) ?_
      refine va_get (D := D) (ci := 5) (v := .ref pq) (C := RX5) (T := TX5) (N := 6) hx hb hts hiX5 hown hKB.1 hP 0 rfl rfl 4 (by decide) fl44 (fun _ h9 => h9) rfl dX5_findReaches_17 ?_
      refine lv_iload_n hx hb dX5_findReaches_20 rfl (lv_at hl 0 rfl) ?_
      have hPc := hP.sub (ws' := [(pq, .inr (4, [.ref lq, .ref oq, .ref wq, .int (nI h), .ref bq, .ref teq, .ref loq, .ref rq, .ref odq, .int (nI kn), .ref nwq, .ref nxq])), (odq, .inl (cJ, 64, .inr (.inl (lF od))))]) [1, 2] rfl
      refine r_calli hP hS (va_runV (As := [.int (nI k)]) (rest := [.int (nI (1 <<< k)), .int (nI k), .ref req]) ⟨hx, hb, hml, hown, hts⟩ (m_X4_nextOnes l D cI cJ pq lq oq wq h bq teq loq rq odq kn nwq nxq od k (by omega) (by assumption)) (cwV 1 hts gX5_findReaches_X4_nextOnes rfl rfl rfl (by decide +kernel) ⟨Nat.le_of_ble_eq_true rfl, Nat.le_of_ble_eq_true rfl⟩) ⟨PR.blind, va_recv hKB.1 hP (ci := 4) (q0 := 1) rfl rfl, fun U hU hW => ⟨rfl, hKB.warm hW, by rw [hU]; exact hPc⟩⟩ rfl rfl hl.1 rfl (lv_room (Nat.le_of_ble_eq_true rfl)) dX5_findReaches_21 ⟨Nat.le_of_ble_eq_true rfl, Nat.le_of_ble_eq_true rfl⟩) (fun r4 H locs hw21 hP hS => ?_)
      have hw21 : r4 = nI (nxO od k 8) := hw21
      subst hw21
      refine r_ior (a := 1 <<< k) (b := nxO od k 8) hx hb dX5_findReaches_24  ?_
      refine r_iastN (i := k) hx hb hKB.1 hP hD hS 3 0 rfl rfl (by omega) (by decide) dX5_findReaches_25 (fun H locs hP hD hS => ?_)
      have hP : va_P D vwCl [(xq, .inr (5, [.ref sq, .ref hq, .ref lq, .ref oq, .ref pq, .ref req])), (pq, .inr (4, [.ref lq, .ref oq, .ref wq, .int (nI h), .ref bq, .ref teq, .ref loq, .ref rq, .ref odq, .int (nI kn), .ref nwq, .ref nxq])), (odq, .inl (cJ, 64, .inr (.inl (lF od)))), (req, .inl (cI, 8, .inl (nF (nu f1 k ((1 <<< k) ||| (nxO od k 8))))))] _ := hP
      have hD : va_D A [(xq, .inr (5, [.ref sq, .ref hq, .ref lq, .ref oq, .ref pq, .ref req])), (pq, .inr (4, [.ref lq, .ref oq, .ref wq, .int (nI h), .ref bq, .ref teq, .ref loq, .ref rq, .ref odq, .int (nI kn), .ref nwq, .ref nxq])), (odq, .inl (cJ, 64, .inr (.inl (lF od)))), (req, .inl (cI, 8, .inl (nF (nu f1 k ((1 <<< k) ||| (nxO od k 8))))))] := hD
      refine lv_iinc (v := nI (k + 1)) (lv' := [(1, .int (nI (k + 1))), (0, .ref xq)]) hx hb dX5_findReaches_26 hl (k := 0) rfl (n_inc _ 1) (by decide) rfl (fun ls hl => ?_)
      refine lv_goto (tgt := 2) hx hb dX5_findReaches_29 (by decide) ?_
      exact ih2 (k + 1) (nu f1 k ((1 <<< k) ||| (nxO od k 8))) _ _ _ (by omega) (by omega) (ag_s hf rfl) hP hD hS hl
  exact L2 (8 - 0 + 1) 0 re _ _ _ (Nat.lt_succ_self _) (by omega) (fun j hj => absurd hj (Nat.not_lt_zero j)) hP hD hS hl

set_option maxHeartbeats 4000000 in
set_option maxRecDepth 100000 in
theorem m_X5_lastingOnes (l : Launch) (D : va_G) (cI cJ : ClassId) (xq : Nat) (sq : Nat) (hq : Nat) (lq : Nat) (oq : Nat) (pq : Nat) (req : Nat) (re : Nat → Nat) (hre : ∀ j, j < 8 → re j < 256) : Met l yX5_lastingOnes wsX5_lastingOnes ({ frames := 1, cells := 0, slots := 0, locals := 21 }) (PR D cI cJ [(xq, .inr (5, [.ref sq, .ref hq, .ref lq, .ref oq, .ref pq, .ref req])), (req, .inl (cI, 8, .inl (nF re)))] [.ref xq]) (QRi (fun r => r = nI (lsO re 8))) 0 0 NA := by
  refine met_R (cc := cX5_lastingOnes) (maxL := 4) (ret := (some .int)) (by decide) rfl (Nat.le_of_ble_eq_true rfl) ?_
  intro p e s m args below meth c Q ls hQ hAt hKB hP hl
  obtain ⟨hx, hb, hr, hml, hlk, hts, hown, hnm⟩ := hAt
  have hown : s.vm.findClass RX5 = some m.cls := hown
  have hS : va_S NA s.heap s.heap [] := va_S.rf
  have hl : lv_has ls 4 [(0, .ref xq)] := hl
  have hiX5 : ∀ w ∈ u_ws RX5 TX5 6, w ∈ wsX5_lastingOnes := by decide +kernel
  have fl48 := hts (.fieldLink RX5 48 "TaughtTongues" "reaches" "[I") (by decide +kernel)
  refine lv_sipush (v := nI (255)) hx hb dX5_lastingOnes_0 (by decide) ?_
  refine lv_istore_n (lv' := [(1, .int (nI 255)), (0, .ref xq)]) hx hb dX5_lastingOnes_3 rfl hl (by decide) rfl (fun ls hl => ?_)
  refine lv_iconst (v := nI (0)) hx hb dX5_lastingOnes_4 (by decide) ?_
  refine lv_istore_n (lv' := [(2, .int (nI 0)), (1, .int (nI 255)), (0, .ref xq)]) hx hb dX5_lastingOnes_5 rfl hl (by decide) rfl (fun ls hl => ?_)
  have L6 : ∀ (n : Nat) (f : Nat) (H : Heap) (locs : List Loc) (ls : Array Slot), 8 - f < n → (f ≤ 8) → va_P D vwCl [(xq, .inr (5, [.ref sq, .ref hq, .ref lq, .ref oq, .ref pq, .ref req])), (req, .inl (cI, 8, .inl (nF re)))] H → va_S NA s.heap H locs → lv_has ls 4 [(2, .int (nI f)), (1, .int (nI (lsO re f))), (0, .ref xq)] → W p l e ({ frames := 1, cells := 0, slots := 0, locals := 21 }) s m args below meth c H locs 0 0 Q (F0 m 6 ls []) := by
    intro n
    induction n with
    | zero => intro f H locs ls hm; exact absurd hm (Nat.not_lt_zero _)
    | succ n ih6 =>
      intro f H locs ls hm hf8 hP hS hl
      refine lv_iload_n hx hb dX5_lastingOnes_6 rfl (lv_at hl 0 rfl) ?_
      refine lv_bipush (v := nI (8)) hx hb dX5_lastingOnes_7 (by decide) ?_
      refine r_icmp_ge (a := f) (b := 8) (tgt := 66) hx hb dX5_lastingOnes_9 (by decide) (by omega) (by omega)  (fun c9 => ?_) (fun c9 => ?_)
      · skip
        obtain rfl : 8 = f := by omega
        refine lv_iload_n hx hb dX5_lastingOnes_66 rfl (lv_at hl 1 rfl) ?_
        exact r_iret hx hb hr hlk hQ hS (rfl) dX5_lastingOnes_67
      refine lv_iconst (v := nI (0)) hx hb dX5_lastingOnes_12 (by decide) ?_
      refine lv_istore_n (lv' := [(3, .int (nI 0)), (2, .int (nI f)), (1, .int (nI (lsO re f))), (0, .ref xq)]) hx hb dX5_lastingOnes_13 rfl hl (by decide) rfl (fun ls hl => ?_)
      have L14 : ∀ (n : Nat) (k : Nat) (H : Heap) (locs : List Loc) (ls : Array Slot), 8 - k < n → (k ≤ 8) → va_P D vwCl [(xq, .inr (5, [.ref sq, .ref hq, .ref lq, .ref oq, .ref pq, .ref req])), (req, .inl (cI, 8, .inl (nF re)))] H → va_S NA s.heap H locs → lv_has ls 4 [(3, .int (nI k)), (2, .int (nI f)), (1, .int (nI (lsI re f (lsO re f) k))), (0, .ref xq)] → W p l e ({ frames := 1, cells := 0, slots := 0, locals := 21 }) s m args below meth c H locs 0 0 Q (F0 m 14 ls []) := by
        intro n
        induction n with
        | zero => intro k H locs ls hm; exact absurd hm (Nat.not_lt_zero _)
        | succ n ih14 =>
          intro k H locs ls hm hk hP hS hl
          refine lv_iload_n hx hb dX5_lastingOnes_14 rfl (lv_at hl 0 rfl) ?_
          refine lv_bipush (v := nI (8)) hx hb dX5_lastingOnes_15 (by decide) ?_
          refine r_icmp_ge (a := k) (b := 8) (tgt := 60) hx hb dX5_lastingOnes_17 (by decide) (by omega) (by omega)  (fun c17 => ?_) (fun c17 => ?_)
          · skip
            obtain rfl : 8 = k := by omega
            refine lv_iinc (v := nI (f + 1)) (lv' := [(2, .int (nI (f + 1))), (3, .int (nI 8)), (1, .int (nI (lsI re f (lsO re f) 8))), (0, .ref xq)]) hx hb dX5_lastingOnes_60 hl (k := 1) rfl (n_inc _ 1) (by decide) rfl (fun ls hl => ?_)
            refine lv_goto (tgt := 6) hx hb dX5_lastingOnes_63 (by decide) ?_
            exact ih6 (f + 1) _ _ _ (by omega) (by omega) hP hS (lv_sub hl [0, 2, 3] rfl)
          have hl1 := hre f c9
          have hl2 := hre k c17
          refine lv_aload_n hx hb dX5_lastingOnes_20 rfl (lv_at hl 3 rfl) ?_
          refine va_get (D := D) (ci := 5) (v := .ref req) (C := RX5) (T := TX5) (N := 6) hx hb hts hiX5 hown hKB.1 hP 0 rfl rfl 5 (by decide) fl48 (fun _ h9 => h9) rfl dX5_lastingOnes_21 ?_
          refine lv_iload_n hx hb dX5_lastingOnes_24 rfl (lv_at hl 1 rfl) ?_
          refine r_iald (i := f) (v := nI (re f)) hx hb hKB.1 hP 1 0 rfl rfl (by omega) (by decide) (rfl) dX5_lastingOnes_25 ?_
          refine lv_iload_n hx hb dX5_lastingOnes_26 rfl (lv_at hl 0 rfl) ?_
          have hPc := hP.sub (ws' := []) [] rfl
          refine r_calli hP hS (va_runS (As := [.int (nI (re f)), .int (nI k)]) (rest := []) ⟨hx, hb, hml, hown, hts⟩ (m_X5_isIn l D cI cJ (re f) k (by omega) (by omega)) (va_cwS 2 hts gX5_lastingOnes_X5_isIn rfl rfl rfl (by decide +kernel) ⟨Nat.le_of_ble_eq_true rfl, Nat.le_of_ble_eq_true rfl⟩) ⟨PR.blind, fun U hU hW => ⟨rfl, hKB.warm hW, by rw [hU]; exact hPc⟩⟩ rfl rfl hl.1 rfl (lv_room (Nat.le_of_ble_eq_true rfl)) dX5_lastingOnes_27 ⟨Nat.le_of_ble_eq_true rfl, Nat.le_of_ble_eq_true rfl⟩) (fun r1 H locs hw27 hP hS => ?_)
          have hw27 : r1 = bI (ibt (re f) k) := hw27
          subst hw27
          refine r_bif_eq (b := ibt (re f) k) (tgt := 54) hx hb dX5_lastingOnes_30 (by decide) (fun c30 => ?_) (fun c30 => ?_)
          · skip
            have hw2 : nI (lsI re f (lsO re f) k) = nI (lsI re f (lsO re f) (k + 1)) := by first | exact congrArg nI (lsI_n (Or.inl c30)) | exact congrArg nI (lsI_n (Or.inr c43)) | exact (clr_I f c9 _ (lsI_lt (lsO_lt f) k)).trans (congrArg nI (lsI_y c30 c43))
            rw [hw2] at hl
            refine lv_iinc (v := nI (k + 1)) (lv' := [(3, .int (nI (k + 1))), (2, .int (nI f)), (1, .int (nI (lsI re f (lsO re f) (k + 1)))), (0, .ref xq)]) hx hb dX5_lastingOnes_54 hl (k := 0) rfl (n_inc _ 1) (by decide) rfl (fun ls hl => ?_)
            refine lv_goto (tgt := 14) hx hb dX5_lastingOnes_57 (by decide) ?_
            exact ih14 (k + 1) _ _ _ (by omega) (by omega) hP hS hl
          refine lv_aload_n hx hb dX5_lastingOnes_33 rfl (lv_at hl 3 rfl) ?_
          refine va_get (D := D) (ci := 5) (v := .ref req) (C := RX5) (T := TX5) (N := 6) hx hb hts hiX5 hown hKB.1 hP 0 rfl rfl 5 (by decide) fl48 (fun _ h9 => h9) rfl dX5_lastingOnes_34 ?_
          refine lv_iload_n hx hb dX5_lastingOnes_37 rfl (lv_at hl 0 rfl) ?_
          refine r_iald (i := k) (v := nI (re k)) hx hb hKB.1 hP 1 0 rfl rfl (by omega) (by decide) (rfl) dX5_lastingOnes_38 ?_
          refine lv_iload_n hx hb dX5_lastingOnes_39 rfl (lv_at hl 1 rfl) ?_
          have hPc := hP.sub (ws' := []) [] rfl
          refine r_calli hP hS (va_runS (As := [.int (nI (re k)), .int (nI f)]) (rest := []) ⟨hx, hb, hml, hown, hts⟩ (m_X5_isIn l D cI cJ (re k) f (by omega) (by omega)) (va_cwS 2 hts gX5_lastingOnes_X5_isIn rfl rfl rfl (by decide +kernel) ⟨Nat.le_of_ble_eq_true rfl, Nat.le_of_ble_eq_true rfl⟩) ⟨PR.blind, fun U hU hW => ⟨rfl, hKB.warm hW, by rw [hU]; exact hPc⟩⟩ rfl rfl hl.1 rfl (lv_room (Nat.le_of_ble_eq_true rfl)) dX5_lastingOnes_40 ⟨Nat.le_of_ble_eq_true rfl, Nat.le_of_ble_eq_true rfl⟩) (fun r3 H locs hw40 hP hS => ?_)
          have hw40 : r3 = bI (ibt (re k) f) := hw40
          subst hw40
          refine r_bif_ne (b := ibt (re k) f) (tgt := 54) hx hb dX5_lastingOnes_43 (by decide) (fun c43 => ?_) (fun c43 => ?_)
          · skip
            have hw4 : nI (lsI re f (lsO re f) k) = nI (lsI re f (lsO re f) (k + 1)) := by first | exact congrArg nI (lsI_n (Or.inl c30)) | exact congrArg nI (lsI_n (Or.inr c43)) | exact (clr_I f c9 _ (lsI_lt (lsO_lt f) k)).trans (congrArg nI (lsI_y c30 c43))
            rw [hw4] at hl
            refine lv_iinc (v := nI (k + 1)) (lv' := [(3, .int (nI (k + 1))), (2, .int (nI f)), (1, .int (nI (lsI re f (lsO re f) (k + 1)))), (0, .ref xq)]) hx hb dX5_lastingOnes_54 hl (k := 0) rfl (n_inc _ 1) (by decide) rfl (fun ls hl => ?_)
            refine lv_goto (tgt := 14) hx hb dX5_lastingOnes_57 (by decide) ?_
            exact ih14 (k + 1) _ _ _ (by omega) (by omega) hP hS hl
          refine lv_iload_n hx hb dX5_lastingOnes_46 rfl (lv_at hl 2 rfl) ?_
          refine lv_iconst (v := nI (1)) hx hb dX5_lastingOnes_47 (by decide) ?_
          refine lv_iload_n hx hb dX5_lastingOnes_48 rfl (lv_at hl 1 rfl) ?_
          refine r_ishl (a := 1) (b := f) hx hb dX5_lastingOnes_49 (by omega) (sh1 f c9) ?_
          refine lv_iconst (v := (-1)) hx hb dX5_lastingOnes_50 (by decide) ?_
          refine lv_ixor hx hb dX5_lastingOnes_51  ?_
          refine lv_iand hx hb dX5_lastingOnes_52  ?_
          refine lv_istore_n (lv' := [(1, .int ((nI (lsI re f (lsO re f) k)) &&& ((nI (1 <<< f)) ^^^ ((-1))))), (3, .int (nI k)), (2, .int (nI f)), (0, .ref xq)]) hx hb dX5_lastingOnes_53 rfl hl (by decide) rfl (fun ls hl => ?_)
          have hw5 : (nI (lsI re f (lsO re f) k)) &&& ((nI (1 <<< f)) ^^^ ((-1))) = nI (lsI re f (lsO re f) (k + 1)) := by first | exact congrArg nI (lsI_n (Or.inl c30)) | exact congrArg nI (lsI_n (Or.inr c43)) | exact (clr_I f c9 _ (lsI_lt (lsO_lt f) k)).trans (congrArg nI (lsI_y c30 c43))
          rw [hw5] at hl
          refine lv_iinc (v := nI (k + 1)) (lv' := [(3, .int (nI (k + 1))), (1, .int (nI (lsI re f (lsO re f) (k + 1)))), (2, .int (nI f)), (0, .ref xq)]) hx hb dX5_lastingOnes_54 hl (k := 1) rfl (n_inc _ 1) (by decide) rfl (fun ls hl => ?_)
          refine lv_goto (tgt := 14) hx hb dX5_lastingOnes_57 (by decide) ?_
          exact ih14 (k + 1) _ _ _ (by omega) (by omega) hP hS (lv_sub hl [0, 2, 1, 3] rfl)
      exact L14 (8 - 0 + 1) 0 _ _ _ (Nat.lt_succ_self _) (by omega) hP hS hl
  exact L6 (8 - 0 + 1) 0 _ _ _ (Nat.lt_succ_self _) (by omega) hP hS hl

set_option maxHeartbeats 4000000 in
set_option maxRecDepth 100000 in
theorem m_X5_countParts (l : Launch) (D : va_G) (cI cJ : ClassId) (xq : Nat) (sq : Nat) (hq : Nat) (lq : Nat) (oq : Nat) (pq : Nat) (req : Nat) (re : Nat → Nat) (la : Nat) (hre : ∀ j, j < 8 → re j < 256) (hla : la < 2 ^ 31) : Met l yX5_countParts wsX5_countParts ({ frames := 1, cells := 0, slots := 0, locals := 21 }) (PR D cI cJ [(xq, .inr (5, [.ref sq, .ref hq, .ref lq, .ref oq, .ref pq, .ref req])), (req, .inl (cI, 8, .inl (nF re)))] [.ref xq, .int (nI la)]) (QRi (fun r => r = nI (cP re la 8))) 0 0 NA := by
  refine met_R (cc := cX5_countParts) (maxL := 5) (ret := (some .int)) (by decide) rfl (Nat.le_of_ble_eq_true rfl) ?_
  intro p e s m args below meth c Q ls hQ hAt hKB hP hl
  obtain ⟨hx, hb, hr, hml, hlk, hts, hown, hnm⟩ := hAt
  have hown : s.vm.findClass RX5 = some m.cls := hown
  have hS : va_S NA s.heap s.heap [] := va_S.rf
  have hl : lv_has ls 5 [(0, .ref xq), (1, .int (nI la))] := hl
  have hiX5 : ∀ w ∈ u_ws RX5 TX5 6, w ∈ wsX5_countParts := by decide +kernel
  have fl48 := hts (.fieldLink RX5 48 "TaughtTongues" "reaches" "[I") (by decide +kernel)
  refine lv_iconst (v := nI (0)) hx hb dX5_countParts_0 (by decide) ?_
  refine lv_istore_n (lv' := [(2, .int (nI 0)), (0, .ref xq), (1, .int (nI la))]) hx hb dX5_countParts_1 rfl hl (by decide) rfl (fun ls hl => ?_)
  refine lv_iconst (v := nI (0)) hx hb dX5_countParts_2 (by decide) ?_
  refine lv_istore_n (lv' := [(3, .int (nI 0)), (2, .int (nI 0)), (0, .ref xq), (1, .int (nI la))]) hx hb dX5_countParts_3 rfl hl (by decide) rfl (fun ls hl => ?_)
  have L4 : ∀ (n : Nat) (k : Nat) (H : Heap) (locs : List Loc) (ls : Array Slot), 8 - k < n → (k ≤ 8) → va_P D vwCl [(xq, .inr (5, [.ref sq, .ref hq, .ref lq, .ref oq, .ref pq, .ref req])), (req, .inl (cI, 8, .inl (nF re)))] H → va_S NA s.heap H locs → lv_has ls 5 [(3, .int (nI k)), (2, .int (nI (cP re la k))), (0, .ref xq), (1, .int (nI la))] → W p l e ({ frames := 1, cells := 0, slots := 0, locals := 21 }) s m args below meth c H locs 0 0 Q (F0 m 4 ls []) := by
    intro n
    induction n with
    | zero => intro k H locs ls hm; exact absurd hm (Nat.not_lt_zero _)
    | succ n ih4 =>
      intro k H locs ls hm hk hP hS hl
      refine lv_iload_n hx hb dX5_countParts_4 rfl (lv_at hl 0 rfl) ?_
      refine lv_bipush (v := nI (8)) hx hb dX5_countParts_5 (by decide) ?_
      refine r_icmp_ge (a := k) (b := 8) (tgt := 46) hx hb dX5_countParts_7 (by decide) (by omega) (by omega)  (fun c7 => ?_) (fun c7 => ?_)
      · skip
        obtain rfl : 8 = k := by omega
        refine lv_iload_n hx hb dX5_countParts_46 rfl (lv_at hl 1 rfl) ?_
        exact r_iret hx hb hr hlk hQ hS (rfl) dX5_countParts_47
      refine lv_aload_n hx hb dX5_countParts_10 rfl (lv_at hl 2 rfl) ?_
      refine va_get (D := D) (ci := 5) (v := .ref req) (C := RX5) (T := TX5) (N := 6) hx hb hts hiX5 hown hKB.1 hP 0 rfl rfl 5 (by decide) fl48 (fun _ h9 => h9) rfl dX5_countParts_11 ?_
      refine lv_iload_n hx hb dX5_countParts_14 rfl (lv_at hl 0 rfl) ?_
      refine r_iald (i := k) (v := nI (re k)) hx hb hKB.1 hP 1 0 rfl rfl (by omega) (by decide) (rfl) dX5_countParts_15 ?_
      refine lv_iconst (v := nI (1)) hx hb dX5_countParts_16 (by decide) ?_
      refine lv_iload_n hx hb dX5_countParts_17 rfl (lv_at hl 0 rfl) ?_
      refine r_ishl (a := 1) (b := k) hx hb dX5_countParts_18 (by omega) (sh1 k c7) ?_
      refine lv_iconst (v := nI (1)) hx hb dX5_countParts_19 (by decide) ?_
      refine r_isub (a := 1 <<< k) (b := 1) hx hb dX5_countParts_20 (sh_pos k c7) ?_
      refine r_iand (a := re k) (b := (1 <<< k) - 1) hx hb dX5_countParts_21  ?_
      refine lv_istore (lv' := [(4, .int (nI ((re k) &&& ((1 <<< k) - 1)))), (3, .int (nI k)), (2, .int (nI (cP re la k))), (0, .ref xq), (1, .int (nI la))]) hx hb dX5_countParts_22 hl (by decide) rfl (fun ls hl => ?_)
      refine lv_iload_n hx hb dX5_countParts_24 rfl (lv_at hl 4 rfl) ?_
      refine lv_iload_n hx hb dX5_countParts_25 rfl (lv_at hl 1 rfl) ?_
      have hPc := hP.sub (ws' := []) [] rfl
      refine r_calli hP hS (va_runS (As := [.int (nI la), .int (nI k)]) (rest := []) ⟨hx, hb, hml, hown, hts⟩ (m_X5_isIn l D cI cJ la k (by omega) (by omega)) (va_cwS 2 hts gX5_countParts_X5_isIn rfl rfl rfl (by decide +kernel) ⟨Nat.le_of_ble_eq_true rfl, Nat.le_of_ble_eq_true rfl⟩) ⟨PR.blind, fun U hU hW => ⟨rfl, hKB.warm hW, by rw [hU]; exact hPc⟩⟩ rfl rfl hl.1 rfl (lv_room (Nat.le_of_ble_eq_true rfl)) dX5_countParts_26 ⟨Nat.le_of_ble_eq_true rfl, Nat.le_of_ble_eq_true rfl⟩) (fun r1 H locs hw26 hP hS => ?_)
      have hw26 : r1 = bI (ibt la k) := hw26
      subst hw26
      refine r_bif_eq (b := ibt la k) (tgt := 40) hx hb dX5_countParts_29 (by decide) (fun c29 => ?_) (fun c29 => ?_)
      · skip
        have hw2 : nI (cP re la k) = nI (cP re la (k + 1)) := congrArg nI (by first | exact cP_n1 c29 | exact cP_n2 c34 | exact cP_y c29 c34)
        rw [hw2] at hl
        refine lv_iinc (v := nI (k + 1)) (lv' := [(3, .int (nI (k + 1))), (4, .int (nI ((re k) &&& ((1 <<< k) - 1)))), (2, .int (nI (cP re la (k + 1)))), (0, .ref xq), (1, .int (nI la))]) hx hb dX5_countParts_40 hl (k := 1) rfl (n_inc _ 1) (by decide) rfl (fun ls hl => ?_)
        refine lv_goto (tgt := 4) hx hb dX5_countParts_43 (by decide) ?_
        exact ih4 (k + 1) _ _ _ (by omega) (by omega) hP hS (lv_sub hl [0, 2, 3, 4] rfl)
      refine lv_iload hx hb dX5_countParts_32 (lv_at hl 0 rfl) ?_
      refine r_if_ne (a := (re k) &&& ((1 <<< k) - 1)) (tgt := 40) hx hb dX5_countParts_34 (by decide) (Nat.lt_of_le_of_lt Nat.and_le_left (Nat.lt_trans (hre k c7) (by decide))) (fun c34 => ?_) (fun c34 => ?_)
      · skip
        have hw3 : nI (cP re la k) = nI (cP re la (k + 1)) := congrArg nI (by first | exact cP_n1 c29 | exact cP_n2 c34 | exact cP_y c29 c34)
        rw [hw3] at hl
        refine lv_iinc (v := nI (k + 1)) (lv' := [(3, .int (nI (k + 1))), (4, .int (nI ((re k) &&& ((1 <<< k) - 1)))), (2, .int (nI (cP re la (k + 1)))), (0, .ref xq), (1, .int (nI la))]) hx hb dX5_countParts_40 hl (k := 1) rfl (n_inc _ 1) (by decide) rfl (fun ls hl => ?_)
        refine lv_goto (tgt := 4) hx hb dX5_countParts_43 (by decide) ?_
        exact ih4 (k + 1) _ _ _ (by omega) (by omega) hP hS (lv_sub hl [0, 2, 3, 4] rfl)
      refine lv_iinc (v := nI ((cP re la k) + 1)) (lv' := [(2, .int (nI ((cP re la k) + 1))), (4, .int (nI ((re k) &&& ((1 <<< k) - 1)))), (3, .int (nI k)), (0, .ref xq), (1, .int (nI la))]) hx hb dX5_countParts_37 hl (k := 2) rfl (n_inc _ 1) (by decide) rfl (fun ls hl => ?_)
      have hw4 : nI ((cP re la k) + 1) = nI (cP re la (k + 1)) := congrArg nI (by first | exact cP_n1 c29 | exact cP_n2 c34 | exact cP_y c29 c34)
      rw [hw4] at hl
      refine lv_iinc (v := nI (k + 1)) (lv' := [(3, .int (nI (k + 1))), (2, .int (nI (cP re la (k + 1)))), (4, .int (nI ((re k) &&& ((1 <<< k) - 1)))), (0, .ref xq), (1, .int (nI la))]) hx hb dX5_countParts_40 hl (k := 2) rfl (n_inc _ 1) (by decide) rfl (fun ls hl => ?_)
      refine lv_goto (tgt := 4) hx hb dX5_countParts_43 (by decide) ?_
      exact ih4 (k + 1) _ _ _ (by omega) (by omega) hP hS (lv_sub hl [0, 1, 3, 4] rfl)
  exact L4 (8 - 0 + 1) 0 _ _ _ (Nat.lt_succ_self _) (by omega) hP hS hl

set_option maxHeartbeats 4000000 in
set_option maxRecDepth 100000 in
theorem m_X5_step (l : Launch) (D : va_G) (cI cJ : ClassId) (tT : Nat) (sz : Nat) (xq : Nat) (sq : Nat) (hq : Nat) (lq : Nat) (oq : Nat) (pq : Nat) (req : Nat) (wq : Nat) (h : Nat) (bq : Nat) (teq : Nat) (loq : Nat) (rq : Nat) (odq : Nat) (kn : Nat) (nwq : Nat) (nxq : Nat) (smq : Nat) (laq : Nat) (grq : Nat) (chq : Nat) (cq : Nat) (tq : Nat) (al : Nat) (tn : Nat → Nat) (nq : Nat) (slip : Nat) (kd : Nat) (num : Nat → Nat) (fch : Nat → Int32) (w : Nat → Nat) (fb : Nat → Nat) (ft : Nat → Nat) (fl : Nat → Nat) (fr2 : Nat → Nat) (od : Nat → Nat) (p0 : Int32) (p1 : Int32) (p2 : Int32) (hh : 1 ≤ h ∧ h ≤ 4) (hw : ∀ j, j < 3 → w j ≤ 4) (hsl : slip ≤ 12) (hnum : ∀ j, j < 8 → num j < 10) (hkd : kd < 3) (hCI : CIv w slip kd num h kn od fch) : Met l yX5_step wsX5_step ({ frames := 5, cells := 0, slots := 0, locals := 121 }) (PXT D cI cJ tT [(xq, .inr (5, [.ref sq, .ref hq, .ref lq, .ref oq, .ref pq, .ref req])), (pq, .inr (4, [.ref lq, .ref oq, .ref wq, .int (nI h), .ref bq, .ref teq, .ref loq, .ref rq, .ref odq, .int (nI kn), .ref nwq, .ref nxq])), (wq, .inl (cI, 3, .inl (nF w))), (lq, .inr (1, [.ref nq, .int (nI slip), .int (nI kd)])), (nq, .inl (cI, 8, .inl (nF num))), (bq, .inl (cJ, 6, .inr (.inl (lF fb)))), (teq, .inl (cJ, 6, .inr (.inl (lF ft)))), (loq, .inl (cJ, 210, .inr (.inl (lF fl)))), (rq, .inl (cJ, 8, .inr (.inl (lF fr2)))), (oq, .inr (2, [.ref lq, .ref smq, .ref laq, .ref grq, .ref chq, .ref cq])), (smq, .inl (cI, 210, .inl (nF SM))), (laq, .inl (cI, 210, .inl (nF LA))), (grq, .inl (cI, 504, .inl (nF GR))), (chq, .inl (cI, 210, .inl fch)), (cq, .inr (0, [.ref tq, .int (nI al)])), (tq, .inl (cI, 6, .inl (nF tn)))] sz [.ref xq, .int p0, .int p1, .int p2]) (QWl D (S := (Nat → Nat) × (Nat → Nat) × (Nat → Nat) × (Nat → Nat) × (Nat → Int32) × (Nat → Nat) × Nat) [(xq, .inr (5, [.ref sq, .ref hq, .ref lq, .ref oq, .ref pq, .ref req])), (pq, .inr (4, [.ref lq, .ref oq, .ref wq, .int (nI h), .ref bq, .ref teq, .ref loq, .ref rq, .ref odq, .int (nI kn), .ref nwq, .ref nxq])), (wq, .inl (cI, 3, .inl (nF w))), (lq, .inr (1, [.ref nq, .int (nI slip), .int (nI kd)])), (nq, .inl (cI, 8, .inl (nF num))), (bq, .inl (cJ, 6, .inr (.inl (lF fb)))), (teq, .inl (cJ, 6, .inr (.inl (lF ft)))), (loq, .inl (cJ, 210, .inr (.inl (lF fl)))), (rq, .inl (cJ, 8, .inr (.inl (lF fr2)))), (oq, .inr (2, [.ref lq, .ref smq, .ref laq, .ref grq, .ref chq, .ref cq])), (smq, .inl (cI, 210, .inl (nF SM))), (laq, .inl (cI, 210, .inl (nF LA))), (grq, .inl (cI, 504, .inl (nF GR))), (chq, .inl (cI, 210, .inl fch)), (cq, .inr (0, [.ref tq, .int (nI al)])), (tq, .inl (cI, 6, .inl (nF tn)))] sz (fun r u => r = aLv (rfo (inR p0 0 7 && inR p1 0 7) (inR p2 0 1)) (rwF w slip kd num h (tN p0) (tN p0) 0 (tN p1)) (wh w h 1) p2 ∧ (CIv w slip kd num h kn od u.2.2.2.2.1)) (fun u => [(xq, .inr (5, [.ref sq, .ref hq, .ref lq, .ref oq, .ref pq, .ref req])), (pq, .inr (4, [.ref lq, .ref oq, .ref wq, .int (nI h), .ref bq, .ref teq, .ref loq, .ref rq, .ref odq, .int (nI kn), .ref nwq, .ref nxq])), (wq, .inl (cI, 3, .inl (nF w))), (lq, .inr (1, [.ref nq, .int (nI slip), .int (nI kd)])), (nq, .inl (cI, 8, .inl (nF num))), (bq, .inl (cJ, 6, .inr (.inl (lF u.1)))), (teq, .inl (cJ, 6, .inr (.inl (lF u.2.1)))), (loq, .inl (cJ, 210, .inr (.inl (lF u.2.2.1)))), (rq, .inl (cJ, 8, .inr (.inl (lF u.2.2.2.1)))), (oq, .inr (2, [.ref lq, .ref smq, .ref laq, .ref grq, .ref chq, .ref cq])), (smq, .inl (cI, 210, .inl (nF SM))), (laq, .inl (cI, 210, .inl (nF LA))), (grq, .inl (cI, 504, .inl (nF GR))), (chq, .inl (cI, 210, .inl u.2.2.2.2.1)), (cq, .inr (0, [.ref tq, .int (nI (u.2.2.2.2.2.2))])), (tq, .inl (cI, 6, .inl (nF u.2.2.2.2.2.1)))])) 0 0 (va_A [(xq, .inr (5, [.ref sq, .ref hq, .ref lq, .ref oq, .ref pq, .ref req])), (pq, .inr (4, [.ref lq, .ref oq, .ref wq, .int (nI h), .ref bq, .ref teq, .ref loq, .ref rq, .ref odq, .int (nI kn), .ref nwq, .ref nxq])), (wq, .inl (cI, 3, .inl (nF w))), (lq, .inr (1, [.ref nq, .int (nI slip), .int (nI kd)])), (nq, .inl (cI, 8, .inl (nF num))), (bq, .inl (cJ, 6, .inr (.inl (lF fb)))), (teq, .inl (cJ, 6, .inr (.inl (lF ft)))), (loq, .inl (cJ, 210, .inr (.inl (lF fl)))), (rq, .inl (cJ, 8, .inr (.inl (lF fr2)))), (oq, .inr (2, [.ref lq, .ref smq, .ref laq, .ref grq, .ref chq, .ref cq])), (smq, .inl (cI, 210, .inl (nF SM))), (laq, .inl (cI, 210, .inl (nF LA))), (grq, .inl (cI, 504, .inl (nF GR))), (chq, .inl (cI, 210, .inl fch)), (cq, .inr (0, [.ref tq, .int (nI al)])), (tq, .inl (cI, 6, .inl (nF tn)))] sz) := by
  refine met_XT (cc := cX5_step) (maxL := 5) (ret := (some .long)) (by decide) rfl (Nat.le_of_ble_eq_true rfl) ?_
  intro p e s m args below meth c Q ls A hQ hAe hFT hAt hKB hP hD hA hl
  obtain ⟨hx, hb, hr, hml, hlk, hts, hown, hnm⟩ := hAt
  have hown : s.vm.findClass RX5 = some m.cls := hown
  have hS : va_S A s.heap s.heap [] := va_S.rf
  have hl : lv_has ls 5 [(0, .ref xq), (1, .int p0), (2, .int p1), (3, .int p2)] := hl
  have kl130 := hts (.constantLong RX5 130 ((-1000000000000000000))) (by decide +kernel)
  have hiX5 : ∀ w ∈ u_ws RX5 TX5 6, w ∈ wsX5_step := by decide +kernel
  have fl44 := hts (.fieldLink RX5 44 "TaughtTongues" "steps" "LTaughtTongues$Steps;") (by decide +kernel)
  refine lv_iload_n hx hb dX5_step_0 rfl (lv_at hl 1 rfl) ?_
  have hPc := hP.sub (ws' := []) [] rfl
  refine r_calli hP hS (va_runS (As := [.int p0]) (rest := []) ⟨hx, hb, hml, hown, hts⟩ (m_X5_isTongue l D cI cJ p0) (va_cwS 1 hts gX5_step_X5_isTongue rfl rfl rfl (by decide +kernel) ⟨Nat.le_of_ble_eq_true rfl, Nat.le_of_ble_eq_true rfl⟩) ⟨PR.blind, fun U hU hW => ⟨rfl, hKB.warm hW, by rw [hU]; exact hPc⟩⟩ rfl rfl hl.1 rfl (lv_room (Nat.le_of_ble_eq_true rfl)) dX5_step_1 ⟨Nat.le_of_ble_eq_true rfl, Nat.le_of_ble_eq_true rfl⟩) (fun r1 H locs hw1 hP hS => ?_)
  have hw1 : r1 = bI (inR p0 0 7) := hw1
  subst hw1
  refine r_bif_eq (b := inR p0 0 7) (tgt := 18) hx hb dX5_step_4 (by decide) (fun c4 => ?_) (fun c4 => ?_)
  · skip
    refine lv_iconst (v := nI (0)) hx hb dX5_step_18 (by decide) ?_
    refine lv_iload_n hx hb dX5_step_19 rfl (lv_at hl 3 rfl) ?_
    have hPc := hP.sub (ws' := []) [] rfl
    refine r_calli hP hS (va_runS (As := [.int p2]) (rest := [.int (nI 0)]) ⟨hx, hb, hml, hown, hts⟩ (m_X5_isPart l D cI cJ p2) (va_cwS 1 hts gX5_step_X5_isPart rfl rfl rfl (by decide +kernel) ⟨Nat.le_of_ble_eq_true rfl, Nat.le_of_ble_eq_true rfl⟩) ⟨PR.blind, fun U hU hW => ⟨rfl, hKB.warm hW, by rw [hU]; exact hPc⟩⟩ rfl rfl hl.1 rfl (lv_room (Nat.le_of_ble_eq_true rfl)) dX5_step_20 ⟨Nat.le_of_ble_eq_true rfl, Nat.le_of_ble_eq_true rfl⟩) (fun r2 H locs hw20 hP hS => ?_)
    have hw20 : r2 = bI (inR p2 0 1) := hw20
    subst hw20
    have hPc := hP.sub (ws' := []) [] rfl
    refine r_calli hP hS (va_runS (As := [.int (nI 0), .int (bI (inR p2 0 1))]) (rest := []) ⟨hx, hb, hml, hown, hts⟩ (m_X5_refusalOf l D cI cJ false (inR p2 0 1)) (va_cwS 2 hts gX5_step_X5_refusalOf rfl rfl rfl (by decide +kernel) ⟨Nat.le_of_ble_eq_true rfl, Nat.le_of_ble_eq_true rfl⟩) ⟨PR.blind, fun U hU hW => ⟨rfl, hKB.warm hW, by rw [hU]; exact hPc⟩⟩ rfl rfl hl.1 rfl (lv_room (Nat.le_of_ble_eq_true rfl)) dX5_step_23 ⟨Nat.le_of_ble_eq_true rfl, Nat.le_of_ble_eq_true rfl⟩) (fun r3 H locs hw23 hP hS => ?_)
    have hw23 : r3 = rfo false (inR p2 0 1) := hw23
    subst hw23
    refine lv_istore (lv' := [(4, .int (rfo false (inR p2 0 1))), (0, .ref xq), (1, .int p0), (2, .int p1), (3, .int p2)]) hx hb dX5_step_26 hl (by decide) rfl (fun ls hl => ?_)
    refine lv_iload hx hb dX5_step_28 (lv_at hl 0 rfl) ?_
    refine lv_if_eq (tgt := 41) hx hb dX5_step_30 (by decide) (fun c30 => ?_) (fun c30 => ?_)
    · exact absurd (rfo_0.mp c30).1 (by decide)
    refine lv_ldc2 hx hb hown kl130 dX5_step_33 ?_
    refine lv_iload hx hb dX5_step_36 (lv_at hl 0 rfl) ?_
    refine lv_i2l (v := (rfo false (inR p2 0 1)).toInt64) hx hb dX5_step_38 rfl ?_
    refine lv_ladd hx hb dX5_step_39  ?_
    exact w_lret hx hb hr hlk hQ hAe (fb, ft, fl, fr2, fch, tn, al) hP hD hS (by refine ⟨?_, hCI⟩; first | (simp only [aLv, c4, Bool.false_and, Bool.and_false, Bool.true_and, Bool.and_true]; rw [if_neg c30]; rfl) | (simp only [aLv, c4, c11, Bool.false_and, Bool.and_false, Bool.true_and, Bool.and_true]; rw [if_neg c30]; rfl)) dX5_step_40
  refine lv_iload_n hx hb dX5_step_7 rfl (lv_at hl 2 rfl) ?_
  have hPc := hP.sub (ws' := []) [] rfl
  refine r_calli hP hS (va_runS (As := [.int p1]) (rest := []) ⟨hx, hb, hml, hown, hts⟩ (m_X5_isTongue l D cI cJ p1) (va_cwS 1 hts gX5_step_X5_isTongue rfl rfl rfl (by decide +kernel) ⟨Nat.le_of_ble_eq_true rfl, Nat.le_of_ble_eq_true rfl⟩) ⟨PR.blind, fun U hU hW => ⟨rfl, hKB.warm hW, by rw [hU]; exact hPc⟩⟩ rfl rfl hl.1 rfl (lv_room (Nat.le_of_ble_eq_true rfl)) dX5_step_8 ⟨Nat.le_of_ble_eq_true rfl, Nat.le_of_ble_eq_true rfl⟩) (fun r4 H locs hw8 hP hS => ?_)
  have hw8 : r4 = bI (inR p1 0 7) := hw8
  subst hw8
  refine r_bif_eq (b := inR p1 0 7) (tgt := 18) hx hb dX5_step_11 (by decide) (fun c11 => ?_) (fun c11 => ?_)
  · skip
    refine lv_iconst (v := nI (0)) hx hb dX5_step_18 (by decide) ?_
    refine lv_iload_n hx hb dX5_step_19 rfl (lv_at hl 3 rfl) ?_
    have hPc := hP.sub (ws' := []) [] rfl
    refine r_calli hP hS (va_runS (As := [.int p2]) (rest := [.int (nI 0)]) ⟨hx, hb, hml, hown, hts⟩ (m_X5_isPart l D cI cJ p2) (va_cwS 1 hts gX5_step_X5_isPart rfl rfl rfl (by decide +kernel) ⟨Nat.le_of_ble_eq_true rfl, Nat.le_of_ble_eq_true rfl⟩) ⟨PR.blind, fun U hU hW => ⟨rfl, hKB.warm hW, by rw [hU]; exact hPc⟩⟩ rfl rfl hl.1 rfl (lv_room (Nat.le_of_ble_eq_true rfl)) dX5_step_20 ⟨Nat.le_of_ble_eq_true rfl, Nat.le_of_ble_eq_true rfl⟩) (fun r5 H locs hw20 hP hS => ?_)
    have hw20 : r5 = bI (inR p2 0 1) := hw20
    subst hw20
    have hPc := hP.sub (ws' := []) [] rfl
    refine r_calli hP hS (va_runS (As := [.int (nI 0), .int (bI (inR p2 0 1))]) (rest := []) ⟨hx, hb, hml, hown, hts⟩ (m_X5_refusalOf l D cI cJ false (inR p2 0 1)) (va_cwS 2 hts gX5_step_X5_refusalOf rfl rfl rfl (by decide +kernel) ⟨Nat.le_of_ble_eq_true rfl, Nat.le_of_ble_eq_true rfl⟩) ⟨PR.blind, fun U hU hW => ⟨rfl, hKB.warm hW, by rw [hU]; exact hPc⟩⟩ rfl rfl hl.1 rfl (lv_room (Nat.le_of_ble_eq_true rfl)) dX5_step_23 ⟨Nat.le_of_ble_eq_true rfl, Nat.le_of_ble_eq_true rfl⟩) (fun r6 H locs hw23 hP hS => ?_)
    have hw23 : r6 = rfo false (inR p2 0 1) := hw23
    subst hw23
    refine lv_istore (lv' := [(4, .int (rfo false (inR p2 0 1))), (0, .ref xq), (1, .int p0), (2, .int p1), (3, .int p2)]) hx hb dX5_step_26 hl (by decide) rfl (fun ls hl => ?_)
    refine lv_iload hx hb dX5_step_28 (lv_at hl 0 rfl) ?_
    refine lv_if_eq (tgt := 41) hx hb dX5_step_30 (by decide) (fun c30 => ?_) (fun c30 => ?_)
    · exact absurd (rfo_0.mp c30).1 (by decide)
    refine lv_ldc2 hx hb hown kl130 dX5_step_33 ?_
    refine lv_iload hx hb dX5_step_36 (lv_at hl 0 rfl) ?_
    refine lv_i2l (v := (rfo false (inR p2 0 1)).toInt64) hx hb dX5_step_38 rfl ?_
    refine lv_ladd hx hb dX5_step_39  ?_
    exact w_lret hx hb hr hlk hQ hAe (fb, ft, fl, fr2, fch, tn, al) hP hD hS (by refine ⟨?_, hCI⟩; first | (simp only [aLv, c4, Bool.false_and, Bool.and_false, Bool.true_and, Bool.and_true]; rw [if_neg c30]; rfl) | (simp only [aLv, c4, c11, Bool.false_and, Bool.and_false, Bool.true_and, Bool.and_true]; rw [if_neg c30]; rfl)) dX5_step_40
  refine lv_iconst (v := nI (1)) hx hb dX5_step_14 (by decide) ?_
  refine lv_goto (tgt := 19) hx hb dX5_step_15 (by decide) ?_
  refine lv_iload_n hx hb dX5_step_19 rfl (lv_at hl 3 rfl) ?_
  have hPc := hP.sub (ws' := []) [] rfl
  refine r_calli hP hS (va_runS (As := [.int p2]) (rest := [.int (nI 1)]) ⟨hx, hb, hml, hown, hts⟩ (m_X5_isPart l D cI cJ p2) (va_cwS 1 hts gX5_step_X5_isPart rfl rfl rfl (by decide +kernel) ⟨Nat.le_of_ble_eq_true rfl, Nat.le_of_ble_eq_true rfl⟩) ⟨PR.blind, fun U hU hW => ⟨rfl, hKB.warm hW, by rw [hU]; exact hPc⟩⟩ rfl rfl hl.1 rfl (lv_room (Nat.le_of_ble_eq_true rfl)) dX5_step_20 ⟨Nat.le_of_ble_eq_true rfl, Nat.le_of_ble_eq_true rfl⟩) (fun r7 H locs hw20 hP hS => ?_)
  have hw20 : r7 = bI (inR p2 0 1) := hw20
  subst hw20
  have hPc := hP.sub (ws' := []) [] rfl
  refine r_calli hP hS (va_runS (As := [.int (nI 1), .int (bI (inR p2 0 1))]) (rest := []) ⟨hx, hb, hml, hown, hts⟩ (m_X5_refusalOf l D cI cJ true (inR p2 0 1)) (va_cwS 2 hts gX5_step_X5_refusalOf rfl rfl rfl (by decide +kernel) ⟨Nat.le_of_ble_eq_true rfl, Nat.le_of_ble_eq_true rfl⟩) ⟨PR.blind, fun U hU hW => ⟨rfl, hKB.warm hW, by rw [hU]; exact hPc⟩⟩ rfl rfl hl.1 rfl (lv_room (Nat.le_of_ble_eq_true rfl)) dX5_step_23 ⟨Nat.le_of_ble_eq_true rfl, Nat.le_of_ble_eq_true rfl⟩) (fun r8 H locs hw23 hP hS => ?_)
  have hw23 : r8 = rfo true (inR p2 0 1) := hw23
  subst hw23
  refine lv_istore (lv' := [(4, .int (rfo true (inR p2 0 1))), (0, .ref xq), (1, .int p0), (2, .int p1), (3, .int p2)]) hx hb dX5_step_26 hl (by decide) rfl (fun ls hl => ?_)
  refine lv_iload hx hb dX5_step_28 (lv_at hl 0 rfl) ?_
  refine lv_if_eq (tgt := 41) hx hb dX5_step_30 (by decide) (fun c30 => ?_) (fun c30 => ?_)
  · skip
    obtain ⟨V0, -, hV0, rfl⟩ := inR_t (by decide) (by decide) (c4)
    obtain ⟨V1, -, hV1, rfl⟩ := inR_t (by decide) (by decide) (c11)
    obtain ⟨V2, -, hV2, rfl⟩ := inR_t (by decide) (by decide) ((rfo_0.mp c30).2)
    refine lv_aload_n hx hb dX5_step_41 rfl (lv_at hl 1 rfl) ?_
    refine va_get (D := D) (ci := 5) (v := .ref pq) (C := RX5) (T := TX5) (N := 6) hx hb hts hiX5 hown hKB.1 hP 0 rfl rfl 4 (by decide) fl44 (fun _ h9 => h9) rfl dX5_step_42 ?_
    refine lv_iload_n hx hb dX5_step_45 rfl (lv_at hl 2 rfl) ?_
    refine lv_iload_n hx hb dX5_step_46 rfl (lv_at hl 2 rfl) ?_
    refine lv_iconst (v := nI (0)) hx hb dX5_step_47 (by decide) ?_
    have hPc := hP.sub (ws' := [(pq, .inr (4, [.ref lq, .ref oq, .ref wq, .int (nI h), .ref bq, .ref teq, .ref loq, .ref rq, .ref odq, .int (nI kn), .ref nwq, .ref nxq])), (wq, .inl (cI, 3, .inl (nF w))), (lq, .inr (1, [.ref nq, .int (nI slip), .int (nI kd)])), (nq, .inl (cI, 8, .inl (nF num))), (bq, .inl (cJ, 6, .inr (.inl (lF fb)))), (teq, .inl (cJ, 6, .inr (.inl (lF ft)))), (loq, .inl (cJ, 210, .inr (.inl (lF fl)))), (rq, .inl (cJ, 8, .inr (.inl (lF fr2)))), (oq, .inr (2, [.ref lq, .ref smq, .ref laq, .ref grq, .ref chq, .ref cq])), (smq, .inl (cI, 210, .inl (nF SM))), (laq, .inl (cI, 210, .inl (nF LA))), (grq, .inl (cI, 504, .inl (nF GR))), (chq, .inl (cI, 210, .inl fch)), (cq, .inr (0, [.ref tq, .int (nI al)])), (tq, .inl (cI, 6, .inl (nF tn)))]) [1, 2, 3, 4, 5, 6, 7, 8, 9, 10, 11, 12, 13, 14, 15] rfl
    have hDc := hD.sub (ws' := [(pq, .inr (4, [.ref lq, .ref oq, .ref wq, .int (nI h), .ref bq, .ref teq, .ref loq, .ref rq, .ref odq, .int (nI kn), .ref nwq, .ref nxq])), (wq, .inl (cI, 3, .inl (nF w))), (lq, .inr (1, [.ref nq, .int (nI slip), .int (nI kd)])), (nq, .inl (cI, 8, .inl (nF num))), (bq, .inl (cJ, 6, .inr (.inl (lF fb)))), (teq, .inl (cJ, 6, .inr (.inl (lF ft)))), (loq, .inl (cJ, 210, .inr (.inl (lF fl)))), (rq, .inl (cJ, 8, .inr (.inl (lF fr2)))), (oq, .inr (2, [.ref lq, .ref smq, .ref laq, .ref grq, .ref chq, .ref cq])), (smq, .inl (cI, 210, .inl (nF SM))), (laq, .inl (cI, 210, .inl (nF LA))), (grq, .inl (cI, 504, .inl (nF GR))), (chq, .inl (cI, 210, .inl fch)), (cq, .inr (0, [.ref tq, .int (nI al)])), (tq, .inl (cI, 6, .inl (nF tn)))]) [1, 2, 3, 4, 5, 6, 7, 8, 9, 10, 11, 12, 13, 14, 15] (by decide) rfl
    have hFc := va_free (wc := [(pq, .inr (4, [.ref lq, .ref oq, .ref wq, .int (nI h), .ref bq, .ref teq, .ref loq, .ref rq, .ref odq, .int (nI kn), .ref nwq, .ref nxq])), (wq, .inl (cI, 3, .inl (nF w))), (lq, .inr (1, [.ref nq, .int (nI slip), .int (nI kd)])), (nq, .inl (cI, 8, .inl (nF num))), (bq, .inl (cJ, 6, .inr (.inl (lF fb)))), (teq, .inl (cJ, 6, .inr (.inl (lF ft)))), (loq, .inl (cJ, 210, .inr (.inl (lF fl)))), (rq, .inl (cJ, 8, .inr (.inl (lF fr2)))), (oq, .inr (2, [.ref lq, .ref smq, .ref laq, .ref grq, .ref chq, .ref cq])), (smq, .inl (cI, 210, .inl (nF SM))), (laq, .inl (cI, 210, .inl (nF LA))), (grq, .inl (cI, 504, .inl (nF GR))), (chq, .inl (cI, 210, .inl fch)), (cq, .inr (0, [.ref tq, .int (nI al)])), (tq, .inl (cI, 6, .inl (nF tn)))]) hD hS hA [1, 2, 3, 4, 5, 6, 7, 8, 9, 10, 11, 12, 13, 14, 15] rfl
    refine w_callr (wc := [(pq, .inr (4, [.ref lq, .ref oq, .ref wq, .int (nI h), .ref bq, .ref teq, .ref loq, .ref rq, .ref odq, .int (nI kn), .ref nwq, .ref nxq])), (wq, .inl (cI, 3, .inl (nF w))), (lq, .inr (1, [.ref nq, .int (nI slip), .int (nI kd)])), (nq, .inl (cI, 8, .inl (nF num))), (bq, .inl (cJ, 6, .inr (.inl (lF fb)))), (teq, .inl (cJ, 6, .inr (.inl (lF ft)))), (loq, .inl (cJ, 210, .inr (.inl (lF fl)))), (rq, .inl (cJ, 8, .inr (.inl (lF fr2)))), (oq, .inr (2, [.ref lq, .ref smq, .ref laq, .ref grq, .ref chq, .ref cq])), (smq, .inl (cI, 210, .inl (nF SM))), (laq, .inl (cI, 210, .inl (nF LA))), (grq, .inl (cI, 504, .inl (nF GR))), (chq, .inl (cI, 210, .inl fch)), (cq, .inr (0, [.ref tq, .int (nI al)])), (tq, .inl (cI, 6, .inl (nF tn)))]) (wr := [(xq, .inr (5, [.ref sq, .ref hq, .ref lq, .ref oq, .ref pq, .ref req]))]) hP hD hS [1, 2, 3, 4, 5, 6, 7, 8, 9, 10, 11, 12, 13, 14, 15] [0] rfl rfl (by decide) (by decide) hFc (va_runV (As := [.int (nI V0), .int (nI V0), .int (nI 0)]) (rest := []) ⟨hx, hb, hml, hown, hts⟩ (m_X4_rowOf l D cI cJ tT _ pq lq oq wq h bq teq loq rq odq kn nwq nxq smq laq grq chq cq tq al tn nq slip kd num fch w fb ft fl fr2 V0 V0 0 (by omega) (by omega) (by omega) (by assumption) (by assumption) (by assumption) (by assumption) (by assumption) (hCI.2.2)) (cwV 3 hts gX5_step_X4_rowOf rfl rfl rfl (by decide +kernel) ⟨Nat.le_of_ble_eq_true rfl, Nat.le_of_ble_eq_true rfl⟩) ⟨PXT.blind, va_recv hKB.1 hP (ci := 4) (q0 := 1) rfl rfl, fun U hU hW => ⟨rfl, by rw [hU], hKB.warm hW, hFT.go hW (by rw [hU]; exact hS) hFc, by rw [hU]; exact hPc, hDc.weaken (fun _ _ _ _ => trivial)⟩⟩ rfl rfl hl.1 rfl (lv_room (Nat.le_of_ble_eq_true rfl)) dX5_step_48 ⟨Nat.le_of_ble_eq_true rfl, Nat.le_of_ble_eq_true rfl⟩) (fun u48 H locs hw48 hP hD hS => ?_)
    obtain ⟨fb9_48, ft9_48, fl9_48, row9_48, fch9_48, tn9_48, al9_48⟩ := u48
    have hP : va_P D vwCl [(xq, .inr (5, [.ref sq, .ref hq, .ref lq, .ref oq, .ref pq, .ref req])), (pq, .inr (4, [.ref lq, .ref oq, .ref wq, .int (nI h), .ref bq, .ref teq, .ref loq, .ref rq, .ref odq, .int (nI kn), .ref nwq, .ref nxq])), (wq, .inl (cI, 3, .inl (nF w))), (lq, .inr (1, [.ref nq, .int (nI slip), .int (nI kd)])), (nq, .inl (cI, 8, .inl (nF num))), (bq, .inl (cJ, 6, .inr (.inl (lF fb9_48)))), (teq, .inl (cJ, 6, .inr (.inl (lF ft9_48)))), (loq, .inl (cJ, 210, .inr (.inl (lF fl9_48)))), (rq, .inl (cJ, 8, .inr (.inl (lF row9_48)))), (oq, .inr (2, [.ref lq, .ref smq, .ref laq, .ref grq, .ref chq, .ref cq])), (smq, .inl (cI, 210, .inl (nF SM))), (laq, .inl (cI, 210, .inl (nF LA))), (grq, .inl (cI, 504, .inl (nF GR))), (chq, .inl (cI, 210, .inl fch9_48)), (cq, .inr (0, [.ref tq, .int (nI al9_48)])), (tq, .inl (cI, 6, .inl (nF tn9_48)))] _ := hP
    have hD : va_D A [(xq, .inr (5, [.ref sq, .ref hq, .ref lq, .ref oq, .ref pq, .ref req])), (pq, .inr (4, [.ref lq, .ref oq, .ref wq, .int (nI h), .ref bq, .ref teq, .ref loq, .ref rq, .ref odq, .int (nI kn), .ref nwq, .ref nxq])), (wq, .inl (cI, 3, .inl (nF w))), (lq, .inr (1, [.ref nq, .int (nI slip), .int (nI kd)])), (nq, .inl (cI, 8, .inl (nF num))), (bq, .inl (cJ, 6, .inr (.inl (lF fb9_48)))), (teq, .inl (cJ, 6, .inr (.inl (lF ft9_48)))), (loq, .inl (cJ, 210, .inr (.inl (lF fl9_48)))), (rq, .inl (cJ, 8, .inr (.inl (lF row9_48)))), (oq, .inr (2, [.ref lq, .ref smq, .ref laq, .ref grq, .ref chq, .ref cq])), (smq, .inl (cI, 210, .inl (nF SM))), (laq, .inl (cI, 210, .inl (nF LA))), (grq, .inl (cI, 504, .inl (nF GR))), (chq, .inl (cI, 210, .inl fch9_48)), (cq, .inr (0, [.ref tq, .int (nI al9_48)])), (tq, .inl (cI, 6, .inl (nF tn9_48)))] := hD
    have hw48 : row9_48 = rwF w slip kd num h V0 V0 0 ∧ (chOk num slip kd fch9_48) := hw48
    obtain ⟨erow9_48, hE48⟩ := hw48
    subst erow9_48
    have hP : va_P D vwCl [(xq, .inr (5, [.ref sq, .ref hq, .ref lq, .ref oq, .ref pq, .ref req])), (pq, .inr (4, [.ref lq, .ref oq, .ref wq, .int (nI h), .ref bq, .ref teq, .ref loq, .ref rq, .ref odq, .int (nI kn), .ref nwq, .ref nxq])), (wq, .inl (cI, 3, .inl (nF w))), (lq, .inr (1, [.ref nq, .int (nI slip), .int (nI kd)])), (nq, .inl (cI, 8, .inl (nF num))), (bq, .inl (cJ, 6, .inr (.inl (lF fb9_48)))), (teq, .inl (cJ, 6, .inr (.inl (lF ft9_48)))), (loq, .inl (cJ, 210, .inr (.inl (lF fl9_48)))), (rq, .inl (cJ, 8, .inr (.inl (lF (rwF w slip kd num h V0 V0 0))))), (oq, .inr (2, [.ref lq, .ref smq, .ref laq, .ref grq, .ref chq, .ref cq])), (smq, .inl (cI, 210, .inl (nF SM))), (laq, .inl (cI, 210, .inl (nF LA))), (grq, .inl (cI, 504, .inl (nF GR))), (chq, .inl (cI, 210, .inl fch9_48)), (cq, .inr (0, [.ref tq, .int (nI al9_48)])), (tq, .inl (cI, 6, .inl (nF tn9_48)))] _ := hP
    have hD : va_D A [(xq, .inr (5, [.ref sq, .ref hq, .ref lq, .ref oq, .ref pq, .ref req])), (pq, .inr (4, [.ref lq, .ref oq, .ref wq, .int (nI h), .ref bq, .ref teq, .ref loq, .ref rq, .ref odq, .int (nI kn), .ref nwq, .ref nxq])), (wq, .inl (cI, 3, .inl (nF w))), (lq, .inr (1, [.ref nq, .int (nI slip), .int (nI kd)])), (nq, .inl (cI, 8, .inl (nF num))), (bq, .inl (cJ, 6, .inr (.inl (lF fb9_48)))), (teq, .inl (cJ, 6, .inr (.inl (lF ft9_48)))), (loq, .inl (cJ, 210, .inr (.inl (lF fl9_48)))), (rq, .inl (cJ, 8, .inr (.inl (lF (rwF w slip kd num h V0 V0 0))))), (oq, .inr (2, [.ref lq, .ref smq, .ref laq, .ref grq, .ref chq, .ref cq])), (smq, .inl (cI, 210, .inl (nF SM))), (laq, .inl (cI, 210, .inl (nF LA))), (grq, .inl (cI, 504, .inl (nF GR))), (chq, .inl (cI, 210, .inl fch9_48)), (cq, .inr (0, [.ref tq, .int (nI al9_48)])), (tq, .inl (cI, 6, .inl (nF tn9_48)))] := hD
    have hch4 := hE48
    refine lv_iload_n hx hb dX5_step_51 rfl (lv_at hl 3 rfl) ?_
    refine r_lald (i := V1) (v := lN ((rwF w slip kd num h V0 V0 0) V1)) hx hb hKB.1 hP 8 1 rfl rfl (by omega) (by decide) (rfl) dX5_step_52 ?_
    refine lv_aload_n hx hb dX5_step_53 rfl (lv_at hl 1 rfl) ?_
    refine va_get (D := D) (ci := 5) (v := .ref pq) (C := RX5) (T := TX5) (N := 6) hx hb hts hiX5 hown hKB.1 hP 0 rfl rfl 4 (by decide) fl44 (fun _ h9 => h9) rfl dX5_step_54 ?_
    refine lv_iconst (v := nI (1)) hx hb dX5_step_57 (by decide) ?_
    have hPc := hP.sub (ws' := [(pq, .inr (4, [.ref lq, .ref oq, .ref wq, .int (nI h), .ref bq, .ref teq, .ref loq, .ref rq, .ref odq, .int (nI kn), .ref nwq, .ref nxq])), (wq, .inl (cI, 3, .inl (nF w)))]) [1, 2] rfl
    refine r_calll hP hS (va_runV (As := [.int (nI 1)]) (rest := [.long (lN ((rwF w slip kd num h V0 V0 0) V1))]) ⟨hx, hb, hml, hown, hts⟩ (m_X4_whole l D cI cJ pq lq oq wq h bq teq loq rq odq kn nwq nxq w 1 (by assumption) (hh.2) (by omega)) (cwV 1 hts gX5_step_X4_whole rfl rfl rfl (by decide +kernel) ⟨Nat.le_of_ble_eq_true rfl, Nat.le_of_ble_eq_true rfl⟩) ⟨PR.blind, va_recv hKB.1 hP (ci := 4) (q0 := 1) rfl rfl, fun U hU hW => ⟨rfl, hKB.warm hW, by rw [hU]; exact hPc⟩⟩ rfl rfl hl.1 rfl (lv_room (Nat.le_of_ble_eq_true rfl)) dX5_step_58 ⟨Nat.le_of_ble_eq_true rfl, Nat.le_of_ble_eq_true rfl⟩) (fun r10 H locs hw58 hP hS => ?_)
    have hw58 : r10 = lN (wh w h 1) := hw58
    subst hw58
    refine lv_iload_n hx hb dX5_step_61 rfl (lv_at hl 4 rfl) ?_
    have hPc := hP.sub (ws' := []) [] rfl
    refine r_calll hP hS (va_runS (As := [.long (lN ((rwF w slip kd num h V0 V0 0) V1)), .long (lN (wh w h 1)), .int (nI V2)]) (rest := []) ⟨hx, hb, hml, hown, hts⟩ (m_X5_fraction l D cI cJ ((rwF w slip kd num h V0 V0 0) V1) (wh w h 1) V2 (Nat.lt_of_le_of_lt (rwF_le hh.2 hsl (by omega)) (Nat.lt_of_le_of_lt (wh_lt hw (by rw [Nat.mul_one]; exact Nat.le_trans hh.2 (by decide))) (by decide))) (Nat.lt_of_le_of_lt (wh_lt hw (by rw [Nat.mul_one]; exact Nat.le_trans hh.2 (by decide))) (by decide)) (hV2)) (va_cwS 3 hts gX5_step_X5_fraction rfl rfl rfl (by decide +kernel) ⟨Nat.le_of_ble_eq_true rfl, Nat.le_of_ble_eq_true rfl⟩) ⟨PR.blind, fun U hU hW => ⟨rfl, hKB.warm hW, by rw [hU]; exact hPc⟩⟩ rfl rfl hl.1 rfl (lv_room (Nat.le_of_ble_eq_true rfl)) dX5_step_62 ⟨Nat.le_of_ble_eq_true rfl, Nat.le_of_ble_eq_true rfl⟩) (fun r11 H locs hw62 hP hS => ?_)
    have hw62 : r11 = lN (lwst ((rwF w slip kd num h V0 V0 0) V1) (wh w h 1) V2) := hw62
    subst hw62
    exact w_lret hx hb hr hlk hQ hAe (fb9_48, ft9_48, fl9_48, rwF w slip kd num h V0 V0 0, fch9_48, tn9_48, al9_48) hP hD hS (by refine ⟨?_, hCI.c hch4⟩; simp only [aLv, c4, c11, Bool.and_self]; rw [if_pos c30, tN_n (show V0 < 2 ^ 31 by omega), tN_n (show V1 < 2 ^ 31 by omega), tN_n (show V2 < 2 ^ 31 by omega)]) dX5_step_65
  refine lv_ldc2 hx hb hown kl130 dX5_step_33 ?_
  refine lv_iload hx hb dX5_step_36 (lv_at hl 0 rfl) ?_
  refine lv_i2l (v := (rfo true (inR p2 0 1)).toInt64) hx hb dX5_step_38 rfl ?_
  refine lv_ladd hx hb dX5_step_39  ?_
  exact w_lret hx hb hr hlk hQ hAe (fb, ft, fl, fr2, fch, tn, al) hP hD hS (by refine ⟨?_, hCI⟩; first | (simp only [aLv, c4, Bool.false_and, Bool.and_false, Bool.true_and, Bool.and_true]; rw [if_neg c30]; rfl) | (simp only [aLv, c4, c11, Bool.false_and, Bool.and_false, Bool.true_and, Bool.and_true]; rw [if_neg c30]; rfl)) dX5_step_40

set_option maxHeartbeats 4000000 in
set_option maxRecDepth 100000 in
theorem m_X5_book (l : Launch) (D : va_G) (cI cJ : ClassId) (tT : Nat) (sz : Nat) (xq : Nat) (sq : Nat) (hq : Nat) (lq : Nat) (oq : Nat) (pq : Nat) (req : Nat) (wq : Nat) (h : Nat) (bq : Nat) (teq : Nat) (loq : Nat) (rq : Nat) (odq : Nat) (kn : Nat) (nwq : Nat) (nxq : Nat) (smq : Nat) (laq : Nat) (grq : Nat) (chq : Nat) (cq : Nat) (tq : Nat) (al : Nat) (tn : Nat → Nat) (nq : Nat) (slip : Nat) (kd : Nat) (num : Nat → Nat) (fch : Nat → Int32) (w : Nat → Nat) (fb : Nat → Nat) (ft : Nat → Nat) (fl : Nat → Nat) (fr2 : Nat → Nat) (od : Nat → Nat) (p0 : Int32) (p1 : Int32) (p2 : Int32) (p3 : Int32) (p4 : Int32) (hh : 1 ≤ h ∧ h ≤ 4) (hw : ∀ j, j < 3 → w j ≤ 4) (hsl : slip ≤ 12) (hnum : ∀ j, j < 8 → num j < 10) (hkd : kd < 3) (hCI : CIv w slip kd num h kn od fch) : Met l yX5_book wsX5_book ({ frames := 5, cells := 0, slots := 0, locals := 121 }) (PXT D cI cJ tT [(xq, .inr (5, [.ref sq, .ref hq, .ref lq, .ref oq, .ref pq, .ref req])), (pq, .inr (4, [.ref lq, .ref oq, .ref wq, .int (nI h), .ref bq, .ref teq, .ref loq, .ref rq, .ref odq, .int (nI kn), .ref nwq, .ref nxq])), (wq, .inl (cI, 3, .inl (nF w))), (lq, .inr (1, [.ref nq, .int (nI slip), .int (nI kd)])), (nq, .inl (cI, 8, .inl (nF num))), (bq, .inl (cJ, 6, .inr (.inl (lF fb)))), (teq, .inl (cJ, 6, .inr (.inl (lF ft)))), (loq, .inl (cJ, 210, .inr (.inl (lF fl)))), (rq, .inl (cJ, 8, .inr (.inl (lF fr2)))), (oq, .inr (2, [.ref lq, .ref smq, .ref laq, .ref grq, .ref chq, .ref cq])), (smq, .inl (cI, 210, .inl (nF SM))), (laq, .inl (cI, 210, .inl (nF LA))), (grq, .inl (cI, 504, .inl (nF GR))), (chq, .inl (cI, 210, .inl fch)), (cq, .inr (0, [.ref tq, .int (nI al)])), (tq, .inl (cI, 6, .inl (nF tn)))] sz [.ref xq, .int p0, .int p1, .int p2, .int p3, .int p4]) (QWl D (S := (Nat → Nat) × (Nat → Nat) × (Nat → Nat) × (Nat → Nat) × (Nat → Int32) × (Nat → Nat) × Nat) [(xq, .inr (5, [.ref sq, .ref hq, .ref lq, .ref oq, .ref pq, .ref req])), (pq, .inr (4, [.ref lq, .ref oq, .ref wq, .int (nI h), .ref bq, .ref teq, .ref loq, .ref rq, .ref odq, .int (nI kn), .ref nwq, .ref nxq])), (wq, .inl (cI, 3, .inl (nF w))), (lq, .inr (1, [.ref nq, .int (nI slip), .int (nI kd)])), (nq, .inl (cI, 8, .inl (nF num))), (bq, .inl (cJ, 6, .inr (.inl (lF fb)))), (teq, .inl (cJ, 6, .inr (.inl (lF ft)))), (loq, .inl (cJ, 210, .inr (.inl (lF fl)))), (rq, .inl (cJ, 8, .inr (.inl (lF fr2)))), (oq, .inr (2, [.ref lq, .ref smq, .ref laq, .ref grq, .ref chq, .ref cq])), (smq, .inl (cI, 210, .inl (nF SM))), (laq, .inl (cI, 210, .inl (nF LA))), (grq, .inl (cI, 504, .inl (nF GR))), (chq, .inl (cI, 210, .inl fch)), (cq, .inr (0, [.ref tq, .int (nI al)])), (tq, .inl (cI, 6, .inl (nF tn)))] sz (fun r u => r = aLv (rfo (inR p0 0 7 && inR p2 0 7 && inR p3 0 7) (inR p1 0 h && inR p4 0 1)) (rwF w slip kd num h (tN p0) (tN p2) (tN p1) (tN p3)) (wh w h 1) p4 ∧ (CIv w slip kd num h kn od u.2.2.2.2.1)) (fun u => [(xq, .inr (5, [.ref sq, .ref hq, .ref lq, .ref oq, .ref pq, .ref req])), (pq, .inr (4, [.ref lq, .ref oq, .ref wq, .int (nI h), .ref bq, .ref teq, .ref loq, .ref rq, .ref odq, .int (nI kn), .ref nwq, .ref nxq])), (wq, .inl (cI, 3, .inl (nF w))), (lq, .inr (1, [.ref nq, .int (nI slip), .int (nI kd)])), (nq, .inl (cI, 8, .inl (nF num))), (bq, .inl (cJ, 6, .inr (.inl (lF u.1)))), (teq, .inl (cJ, 6, .inr (.inl (lF u.2.1)))), (loq, .inl (cJ, 210, .inr (.inl (lF u.2.2.1)))), (rq, .inl (cJ, 8, .inr (.inl (lF u.2.2.2.1)))), (oq, .inr (2, [.ref lq, .ref smq, .ref laq, .ref grq, .ref chq, .ref cq])), (smq, .inl (cI, 210, .inl (nF SM))), (laq, .inl (cI, 210, .inl (nF LA))), (grq, .inl (cI, 504, .inl (nF GR))), (chq, .inl (cI, 210, .inl u.2.2.2.2.1)), (cq, .inr (0, [.ref tq, .int (nI (u.2.2.2.2.2.2))])), (tq, .inl (cI, 6, .inl (nF u.2.2.2.2.2.1)))])) 0 0 (va_A [(xq, .inr (5, [.ref sq, .ref hq, .ref lq, .ref oq, .ref pq, .ref req])), (pq, .inr (4, [.ref lq, .ref oq, .ref wq, .int (nI h), .ref bq, .ref teq, .ref loq, .ref rq, .ref odq, .int (nI kn), .ref nwq, .ref nxq])), (wq, .inl (cI, 3, .inl (nF w))), (lq, .inr (1, [.ref nq, .int (nI slip), .int (nI kd)])), (nq, .inl (cI, 8, .inl (nF num))), (bq, .inl (cJ, 6, .inr (.inl (lF fb)))), (teq, .inl (cJ, 6, .inr (.inl (lF ft)))), (loq, .inl (cJ, 210, .inr (.inl (lF fl)))), (rq, .inl (cJ, 8, .inr (.inl (lF fr2)))), (oq, .inr (2, [.ref lq, .ref smq, .ref laq, .ref grq, .ref chq, .ref cq])), (smq, .inl (cI, 210, .inl (nF SM))), (laq, .inl (cI, 210, .inl (nF LA))), (grq, .inl (cI, 504, .inl (nF GR))), (chq, .inl (cI, 210, .inl fch)), (cq, .inr (0, [.ref tq, .int (nI al)])), (tq, .inl (cI, 6, .inl (nF tn)))] sz) := by
  refine met_XT (cc := cX5_book) (maxL := 8) (ret := (some .long)) (by decide) rfl (Nat.le_of_ble_eq_true rfl) ?_
  intro p e s m args below meth c Q ls A hQ hAe hFT hAt hKB hP hD hA hl
  obtain ⟨hx, hb, hr, hml, hlk, hts, hown, hnm⟩ := hAt
  have hown : s.vm.findClass RX5 = some m.cls := hown
  have hS : va_S A s.heap s.heap [] := va_S.rf
  have hl : lv_has ls 8 [(0, .ref xq), (1, .int p0), (2, .int p1), (3, .int p2), (4, .int p3), (5, .int p4)] := hl
  have hiX5 : ∀ w ∈ u_ws RX5 TX5 6, w ∈ wsX5_book := by decide +kernel
  have fl44 := hts (.fieldLink RX5 44 "TaughtTongues" "steps" "LTaughtTongues$Steps;") (by decide +kernel)
  have hiX4 : ∀ w ∈ u_ws RX4 TX4 12, w ∈ wsX5_book := by decide +kernel
  have kl130 := hts (.constantLong RX5 130 ((-1000000000000000000))) (by decide +kernel)
  refine lv_iload_n hx hb dX5_book_0 rfl (lv_at hl 1 rfl) ?_
  have hPc := hP.sub (ws' := []) [] rfl
  refine r_calli hP hS (va_runS (As := [.int p0]) (rest := []) ⟨hx, hb, hml, hown, hts⟩ (m_X5_isTongue l D cI cJ p0) (va_cwS 1 hts gX5_book_X5_isTongue rfl rfl rfl (by decide +kernel) ⟨Nat.le_of_ble_eq_true rfl, Nat.le_of_ble_eq_true rfl⟩) ⟨PR.blind, fun U hU hW => ⟨rfl, hKB.warm hW, by rw [hU]; exact hPc⟩⟩ rfl rfl hl.1 rfl (lv_room (Nat.le_of_ble_eq_true rfl)) dX5_book_1 ⟨Nat.le_of_ble_eq_true rfl, Nat.le_of_ble_eq_true rfl⟩) (fun r1 H locs hw1 hP hS => ?_)
  have hw1 : r1 = bI (inR p0 0 7) := hw1
  subst hw1
  refine r_bif_eq (b := inR p0 0 7) (tgt := 26) hx hb dX5_book_4 (by decide) (fun c4 => ?_) (fun c4 => ?_)
  · skip
    refine lv_iconst (v := nI (0)) hx hb dX5_book_26 (by decide) ?_
    refine lv_istore (lv' := [(6, .int (nI 0)), (0, .ref xq), (1, .int p0), (2, .int p1), (3, .int p2), (4, .int p3), (5, .int p4)]) hx hb dX5_book_27 hl (by decide) rfl (fun ls hl => ?_)
    refine lv_iload hx hb dX5_book_29 (lv_at hl 0 rfl) ?_
    refine lv_iload_n hx hb dX5_book_31 rfl (lv_at hl 3 rfl) ?_
    refine lv_iconst (v := nI (0)) hx hb dX5_book_32 (by decide) ?_
    refine lv_aload_n hx hb dX5_book_33 rfl (lv_at hl 1 rfl) ?_
    refine va_get (D := D) (ci := 5) (v := .ref pq) (C := RX5) (T := TX5) (N := 6) hx hb hts hiX5 hown hKB.1 hP 0 rfl rfl 4 (by decide) fl44 (fun _ h9 => h9) rfl dX5_book_34 ?_
    refine va_getN (D := D) (ci := 4) (v := .int (nI h)) (C := RX4) (T := TX4) (N := 12) hx hb hts hiX4 hown hKB.1 hP 1 rfl rfl 3 (by decide) (hKB.2.f (q := ("TaughtTongues", 148, "TaughtTongues$Steps", "hears", "I")) 1 rfl) (fun _ h9 => h9) rfl dX5_book_37 ?_
    have hPc := hP.sub (ws' := []) [] rfl
    refine r_calli hP hS (va_runS (As := [.int p1, .int (nI 0), .int (nI h)]) (rest := [.int (nI 0)]) ⟨hx, hb, hml, hown, hts⟩ (m_X5_isBetween l D cI cJ p1 0 h) (va_cwS 3 hts gX5_book_X5_isBetween rfl rfl rfl (by decide +kernel) ⟨Nat.le_of_ble_eq_true rfl, Nat.le_of_ble_eq_true rfl⟩) ⟨PR.blind, fun U hU hW => ⟨rfl, hKB.warm hW, by rw [hU]; exact hPc⟩⟩ rfl rfl hl.1 rfl (lv_room (Nat.le_of_ble_eq_true rfl)) dX5_book_40 ⟨Nat.le_of_ble_eq_true rfl, Nat.le_of_ble_eq_true rfl⟩) (fun r2 H locs hw40 hP hS => ?_)
    have hw40 : r2 = bI (inR p1 0 h) := hw40
    subst hw40
    refine r_bif_eq (b := inR p1 0 h) (tgt := 58) hx hb dX5_book_43 (by decide) (fun c43 => ?_) (fun c43 => ?_)
    · skip
      refine lv_iconst (v := nI (0)) hx hb dX5_book_58 (by decide) ?_
      have hPc := hP.sub (ws' := []) [] rfl
      refine r_calli hP hS (va_runS (As := [.int (nI 0), .int (nI 0)]) (rest := []) ⟨hx, hb, hml, hown, hts⟩ (m_X5_refusalOf l D cI cJ false false) (va_cwS 2 hts gX5_book_X5_refusalOf rfl rfl rfl (by decide +kernel) ⟨Nat.le_of_ble_eq_true rfl, Nat.le_of_ble_eq_true rfl⟩) ⟨PR.blind, fun U hU hW => ⟨rfl, hKB.warm hW, by rw [hU]; exact hPc⟩⟩ rfl rfl hl.1 rfl (lv_room (Nat.le_of_ble_eq_true rfl)) dX5_book_59 ⟨Nat.le_of_ble_eq_true rfl, Nat.le_of_ble_eq_true rfl⟩) (fun r3 H locs hw59 hP hS => ?_)
      have hw59 : r3 = rfo false false := hw59
      subst hw59
      refine lv_istore (lv' := [(7, .int (rfo false false)), (6, .int (nI 0)), (0, .ref xq), (1, .int p0), (2, .int p1), (3, .int p2), (4, .int p3), (5, .int p4)]) hx hb dX5_book_62 hl (by decide) rfl (fun ls hl => ?_)
      refine lv_iload hx hb dX5_book_64 (lv_at hl 0 rfl) ?_
      refine lv_if_eq (tgt := 77) hx hb dX5_book_66 (by decide) (fun c66 => ?_) (fun c66 => ?_)
      · exact absurd (rfo_0.mp c66).1 (by decide)
      refine lv_ldc2 hx hb hown kl130 dX5_book_69 ?_
      refine lv_iload hx hb dX5_book_72 (lv_at hl 0 rfl) ?_
      refine lv_i2l (v := (rfo false false).toInt64) hx hb dX5_book_74 rfl ?_
      refine lv_ladd hx hb dX5_book_75  ?_
      exact w_lret hx hb hr hlk hQ hAe (fb, ft, fl, fr2, fch, tn, al) hP hD hS (by refine ⟨?_, hCI⟩; first | (simp only [aLv, c4, c43, Bool.false_and, Bool.and_false, Bool.true_and, Bool.and_true]; rw [if_neg c66]; rfl) | (simp only [aLv, c4, c43, c51, Bool.false_and, Bool.and_false, Bool.true_and, Bool.and_true]; rw [if_neg c66]; rfl) | (simp only [aLv, c4, c11, c43, Bool.false_and, Bool.and_false, Bool.true_and, Bool.and_true]; rw [if_neg c66]; rfl) | (simp only [aLv, c4, c11, c43, c51, Bool.false_and, Bool.and_false, Bool.true_and, Bool.and_true]; rw [if_neg c66]; rfl) | (simp only [aLv, c4, c11, c19, c43, Bool.false_and, Bool.and_false, Bool.true_and, Bool.and_true]; rw [if_neg c66]; rfl) | (simp only [aLv, c4, c11, c19, c43, c51, Bool.false_and, Bool.and_false, Bool.true_and, Bool.and_true]; rw [if_neg c66]; rfl) ) dX5_book_76
    refine lv_iload hx hb dX5_book_46 (lv_at hl 6 rfl) ?_
    have hPc := hP.sub (ws' := []) [] rfl
    refine r_calli hP hS (va_runS (As := [.int p4]) (rest := [.int (nI 0)]) ⟨hx, hb, hml, hown, hts⟩ (m_X5_isPart l D cI cJ p4) (va_cwS 1 hts gX5_book_X5_isPart rfl rfl rfl (by decide +kernel) ⟨Nat.le_of_ble_eq_true rfl, Nat.le_of_ble_eq_true rfl⟩) ⟨PR.blind, fun U hU hW => ⟨rfl, hKB.warm hW, by rw [hU]; exact hPc⟩⟩ rfl rfl hl.1 rfl (lv_room (Nat.le_of_ble_eq_true rfl)) dX5_book_48 ⟨Nat.le_of_ble_eq_true rfl, Nat.le_of_ble_eq_true rfl⟩) (fun r4 H locs hw48 hP hS => ?_)
    have hw48 : r4 = bI (inR p4 0 1) := hw48
    subst hw48
    refine r_bif_eq (b := inR p4 0 1) (tgt := 58) hx hb dX5_book_51 (by decide) (fun c51 => ?_) (fun c51 => ?_)
    · skip
      refine lv_iconst (v := nI (0)) hx hb dX5_book_58 (by decide) ?_
      have hPc := hP.sub (ws' := []) [] rfl
      refine r_calli hP hS (va_runS (As := [.int (nI 0), .int (nI 0)]) (rest := []) ⟨hx, hb, hml, hown, hts⟩ (m_X5_refusalOf l D cI cJ false false) (va_cwS 2 hts gX5_book_X5_refusalOf rfl rfl rfl (by decide +kernel) ⟨Nat.le_of_ble_eq_true rfl, Nat.le_of_ble_eq_true rfl⟩) ⟨PR.blind, fun U hU hW => ⟨rfl, hKB.warm hW, by rw [hU]; exact hPc⟩⟩ rfl rfl hl.1 rfl (lv_room (Nat.le_of_ble_eq_true rfl)) dX5_book_59 ⟨Nat.le_of_ble_eq_true rfl, Nat.le_of_ble_eq_true rfl⟩) (fun r5 H locs hw59 hP hS => ?_)
      have hw59 : r5 = rfo false false := hw59
      subst hw59
      refine lv_istore (lv' := [(7, .int (rfo false false)), (6, .int (nI 0)), (0, .ref xq), (1, .int p0), (2, .int p1), (3, .int p2), (4, .int p3), (5, .int p4)]) hx hb dX5_book_62 hl (by decide) rfl (fun ls hl => ?_)
      refine lv_iload hx hb dX5_book_64 (lv_at hl 0 rfl) ?_
      refine lv_if_eq (tgt := 77) hx hb dX5_book_66 (by decide) (fun c66 => ?_) (fun c66 => ?_)
      · exact absurd (rfo_0.mp c66).1 (by decide)
      refine lv_ldc2 hx hb hown kl130 dX5_book_69 ?_
      refine lv_iload hx hb dX5_book_72 (lv_at hl 0 rfl) ?_
      refine lv_i2l (v := (rfo false false).toInt64) hx hb dX5_book_74 rfl ?_
      refine lv_ladd hx hb dX5_book_75  ?_
      exact w_lret hx hb hr hlk hQ hAe (fb, ft, fl, fr2, fch, tn, al) hP hD hS (by refine ⟨?_, hCI⟩; first | (simp only [aLv, c4, c43, Bool.false_and, Bool.and_false, Bool.true_and, Bool.and_true]; rw [if_neg c66]; rfl) | (simp only [aLv, c4, c43, c51, Bool.false_and, Bool.and_false, Bool.true_and, Bool.and_true]; rw [if_neg c66]; rfl) | (simp only [aLv, c4, c11, c43, Bool.false_and, Bool.and_false, Bool.true_and, Bool.and_true]; rw [if_neg c66]; rfl) | (simp only [aLv, c4, c11, c43, c51, Bool.false_and, Bool.and_false, Bool.true_and, Bool.and_true]; rw [if_neg c66]; rfl) | (simp only [aLv, c4, c11, c19, c43, Bool.false_and, Bool.and_false, Bool.true_and, Bool.and_true]; rw [if_neg c66]; rfl) | (simp only [aLv, c4, c11, c19, c43, c51, Bool.false_and, Bool.and_false, Bool.true_and, Bool.and_true]; rw [if_neg c66]; rfl) ) dX5_book_76
    refine lv_iconst (v := nI (1)) hx hb dX5_book_54 (by decide) ?_
    refine lv_goto (tgt := 59) hx hb dX5_book_55 (by decide) ?_
    have hPc := hP.sub (ws' := []) [] rfl
    refine r_calli hP hS (va_runS (As := [.int (nI 0), .int (nI 1)]) (rest := []) ⟨hx, hb, hml, hown, hts⟩ (m_X5_refusalOf l D cI cJ false true) (va_cwS 2 hts gX5_book_X5_refusalOf rfl rfl rfl (by decide +kernel) ⟨Nat.le_of_ble_eq_true rfl, Nat.le_of_ble_eq_true rfl⟩) ⟨PR.blind, fun U hU hW => ⟨rfl, hKB.warm hW, by rw [hU]; exact hPc⟩⟩ rfl rfl hl.1 rfl (lv_room (Nat.le_of_ble_eq_true rfl)) dX5_book_59 ⟨Nat.le_of_ble_eq_true rfl, Nat.le_of_ble_eq_true rfl⟩) (fun r6 H locs hw59 hP hS => ?_)
    have hw59 : r6 = rfo false true := hw59
    subst hw59
    refine lv_istore (lv' := [(7, .int (rfo false true)), (6, .int (nI 0)), (0, .ref xq), (1, .int p0), (2, .int p1), (3, .int p2), (4, .int p3), (5, .int p4)]) hx hb dX5_book_62 hl (by decide) rfl (fun ls hl => ?_)
    refine lv_iload hx hb dX5_book_64 (lv_at hl 0 rfl) ?_
    refine lv_if_eq (tgt := 77) hx hb dX5_book_66 (by decide) (fun c66 => ?_) (fun c66 => ?_)
    · exact absurd (rfo_0.mp c66).1 (by decide)
    refine lv_ldc2 hx hb hown kl130 dX5_book_69 ?_
    refine lv_iload hx hb dX5_book_72 (lv_at hl 0 rfl) ?_
    refine lv_i2l (v := (rfo false true).toInt64) hx hb dX5_book_74 rfl ?_
    refine lv_ladd hx hb dX5_book_75  ?_
    exact w_lret hx hb hr hlk hQ hAe (fb, ft, fl, fr2, fch, tn, al) hP hD hS (by refine ⟨?_, hCI⟩; first | (simp only [aLv, c4, c43, Bool.false_and, Bool.and_false, Bool.true_and, Bool.and_true]; rw [if_neg c66]; rfl) | (simp only [aLv, c4, c43, c51, Bool.false_and, Bool.and_false, Bool.true_and, Bool.and_true]; rw [if_neg c66]; rfl) | (simp only [aLv, c4, c11, c43, Bool.false_and, Bool.and_false, Bool.true_and, Bool.and_true]; rw [if_neg c66]; rfl) | (simp only [aLv, c4, c11, c43, c51, Bool.false_and, Bool.and_false, Bool.true_and, Bool.and_true]; rw [if_neg c66]; rfl) | (simp only [aLv, c4, c11, c19, c43, Bool.false_and, Bool.and_false, Bool.true_and, Bool.and_true]; rw [if_neg c66]; rfl) | (simp only [aLv, c4, c11, c19, c43, c51, Bool.false_and, Bool.and_false, Bool.true_and, Bool.and_true]; rw [if_neg c66]; rfl) ) dX5_book_76
  refine lv_iload_n hx hb dX5_book_7 rfl (lv_at hl 3 rfl) ?_
  have hPc := hP.sub (ws' := []) [] rfl
  refine r_calli hP hS (va_runS (As := [.int p2]) (rest := []) ⟨hx, hb, hml, hown, hts⟩ (m_X5_isTongue l D cI cJ p2) (va_cwS 1 hts gX5_book_X5_isTongue rfl rfl rfl (by decide +kernel) ⟨Nat.le_of_ble_eq_true rfl, Nat.le_of_ble_eq_true rfl⟩) ⟨PR.blind, fun U hU hW => ⟨rfl, hKB.warm hW, by rw [hU]; exact hPc⟩⟩ rfl rfl hl.1 rfl (lv_room (Nat.le_of_ble_eq_true rfl)) dX5_book_8 ⟨Nat.le_of_ble_eq_true rfl, Nat.le_of_ble_eq_true rfl⟩) (fun r7 H locs hw8 hP hS => ?_)
  have hw8 : r7 = bI (inR p2 0 7) := hw8
  subst hw8
  refine r_bif_eq (b := inR p2 0 7) (tgt := 26) hx hb dX5_book_11 (by decide) (fun c11 => ?_) (fun c11 => ?_)
  · skip
    refine lv_iconst (v := nI (0)) hx hb dX5_book_26 (by decide) ?_
    refine lv_istore (lv' := [(6, .int (nI 0)), (0, .ref xq), (1, .int p0), (2, .int p1), (3, .int p2), (4, .int p3), (5, .int p4)]) hx hb dX5_book_27 hl (by decide) rfl (fun ls hl => ?_)
    refine lv_iload hx hb dX5_book_29 (lv_at hl 0 rfl) ?_
    refine lv_iload_n hx hb dX5_book_31 rfl (lv_at hl 3 rfl) ?_
    refine lv_iconst (v := nI (0)) hx hb dX5_book_32 (by decide) ?_
    refine lv_aload_n hx hb dX5_book_33 rfl (lv_at hl 1 rfl) ?_
    refine va_get (D := D) (ci := 5) (v := .ref pq) (C := RX5) (T := TX5) (N := 6) hx hb hts hiX5 hown hKB.1 hP 0 rfl rfl 4 (by decide) fl44 (fun _ h9 => h9) rfl dX5_book_34 ?_
    refine va_getN (D := D) (ci := 4) (v := .int (nI h)) (C := RX4) (T := TX4) (N := 12) hx hb hts hiX4 hown hKB.1 hP 1 rfl rfl 3 (by decide) (hKB.2.f (q := ("TaughtTongues", 148, "TaughtTongues$Steps", "hears", "I")) 1 rfl) (fun _ h9 => h9) rfl dX5_book_37 ?_
    have hPc := hP.sub (ws' := []) [] rfl
    refine r_calli hP hS (va_runS (As := [.int p1, .int (nI 0), .int (nI h)]) (rest := [.int (nI 0)]) ⟨hx, hb, hml, hown, hts⟩ (m_X5_isBetween l D cI cJ p1 0 h) (va_cwS 3 hts gX5_book_X5_isBetween rfl rfl rfl (by decide +kernel) ⟨Nat.le_of_ble_eq_true rfl, Nat.le_of_ble_eq_true rfl⟩) ⟨PR.blind, fun U hU hW => ⟨rfl, hKB.warm hW, by rw [hU]; exact hPc⟩⟩ rfl rfl hl.1 rfl (lv_room (Nat.le_of_ble_eq_true rfl)) dX5_book_40 ⟨Nat.le_of_ble_eq_true rfl, Nat.le_of_ble_eq_true rfl⟩) (fun r8 H locs hw40 hP hS => ?_)
    have hw40 : r8 = bI (inR p1 0 h) := hw40
    subst hw40
    refine r_bif_eq (b := inR p1 0 h) (tgt := 58) hx hb dX5_book_43 (by decide) (fun c43 => ?_) (fun c43 => ?_)
    · skip
      refine lv_iconst (v := nI (0)) hx hb dX5_book_58 (by decide) ?_
      have hPc := hP.sub (ws' := []) [] rfl
      refine r_calli hP hS (va_runS (As := [.int (nI 0), .int (nI 0)]) (rest := []) ⟨hx, hb, hml, hown, hts⟩ (m_X5_refusalOf l D cI cJ false false) (va_cwS 2 hts gX5_book_X5_refusalOf rfl rfl rfl (by decide +kernel) ⟨Nat.le_of_ble_eq_true rfl, Nat.le_of_ble_eq_true rfl⟩) ⟨PR.blind, fun U hU hW => ⟨rfl, hKB.warm hW, by rw [hU]; exact hPc⟩⟩ rfl rfl hl.1 rfl (lv_room (Nat.le_of_ble_eq_true rfl)) dX5_book_59 ⟨Nat.le_of_ble_eq_true rfl, Nat.le_of_ble_eq_true rfl⟩) (fun r9 H locs hw59 hP hS => ?_)
      have hw59 : r9 = rfo false false := hw59
      subst hw59
      refine lv_istore (lv' := [(7, .int (rfo false false)), (6, .int (nI 0)), (0, .ref xq), (1, .int p0), (2, .int p1), (3, .int p2), (4, .int p3), (5, .int p4)]) hx hb dX5_book_62 hl (by decide) rfl (fun ls hl => ?_)
      refine lv_iload hx hb dX5_book_64 (lv_at hl 0 rfl) ?_
      refine lv_if_eq (tgt := 77) hx hb dX5_book_66 (by decide) (fun c66 => ?_) (fun c66 => ?_)
      · exact absurd (rfo_0.mp c66).1 (by decide)
      refine lv_ldc2 hx hb hown kl130 dX5_book_69 ?_
      refine lv_iload hx hb dX5_book_72 (lv_at hl 0 rfl) ?_
      refine lv_i2l (v := (rfo false false).toInt64) hx hb dX5_book_74 rfl ?_
      refine lv_ladd hx hb dX5_book_75  ?_
      exact w_lret hx hb hr hlk hQ hAe (fb, ft, fl, fr2, fch, tn, al) hP hD hS (by refine ⟨?_, hCI⟩; first | (simp only [aLv, c4, c43, Bool.false_and, Bool.and_false, Bool.true_and, Bool.and_true]; rw [if_neg c66]; rfl) | (simp only [aLv, c4, c43, c51, Bool.false_and, Bool.and_false, Bool.true_and, Bool.and_true]; rw [if_neg c66]; rfl) | (simp only [aLv, c4, c11, c43, Bool.false_and, Bool.and_false, Bool.true_and, Bool.and_true]; rw [if_neg c66]; rfl) | (simp only [aLv, c4, c11, c43, c51, Bool.false_and, Bool.and_false, Bool.true_and, Bool.and_true]; rw [if_neg c66]; rfl) | (simp only [aLv, c4, c11, c19, c43, Bool.false_and, Bool.and_false, Bool.true_and, Bool.and_true]; rw [if_neg c66]; rfl) | (simp only [aLv, c4, c11, c19, c43, c51, Bool.false_and, Bool.and_false, Bool.true_and, Bool.and_true]; rw [if_neg c66]; rfl) ) dX5_book_76
    refine lv_iload hx hb dX5_book_46 (lv_at hl 6 rfl) ?_
    have hPc := hP.sub (ws' := []) [] rfl
    refine r_calli hP hS (va_runS (As := [.int p4]) (rest := [.int (nI 0)]) ⟨hx, hb, hml, hown, hts⟩ (m_X5_isPart l D cI cJ p4) (va_cwS 1 hts gX5_book_X5_isPart rfl rfl rfl (by decide +kernel) ⟨Nat.le_of_ble_eq_true rfl, Nat.le_of_ble_eq_true rfl⟩) ⟨PR.blind, fun U hU hW => ⟨rfl, hKB.warm hW, by rw [hU]; exact hPc⟩⟩ rfl rfl hl.1 rfl (lv_room (Nat.le_of_ble_eq_true rfl)) dX5_book_48 ⟨Nat.le_of_ble_eq_true rfl, Nat.le_of_ble_eq_true rfl⟩) (fun r10 H locs hw48 hP hS => ?_)
    have hw48 : r10 = bI (inR p4 0 1) := hw48
    subst hw48
    refine r_bif_eq (b := inR p4 0 1) (tgt := 58) hx hb dX5_book_51 (by decide) (fun c51 => ?_) (fun c51 => ?_)
    · skip
      refine lv_iconst (v := nI (0)) hx hb dX5_book_58 (by decide) ?_
      have hPc := hP.sub (ws' := []) [] rfl
      refine r_calli hP hS (va_runS (As := [.int (nI 0), .int (nI 0)]) (rest := []) ⟨hx, hb, hml, hown, hts⟩ (m_X5_refusalOf l D cI cJ false false) (va_cwS 2 hts gX5_book_X5_refusalOf rfl rfl rfl (by decide +kernel) ⟨Nat.le_of_ble_eq_true rfl, Nat.le_of_ble_eq_true rfl⟩) ⟨PR.blind, fun U hU hW => ⟨rfl, hKB.warm hW, by rw [hU]; exact hPc⟩⟩ rfl rfl hl.1 rfl (lv_room (Nat.le_of_ble_eq_true rfl)) dX5_book_59 ⟨Nat.le_of_ble_eq_true rfl, Nat.le_of_ble_eq_true rfl⟩) (fun r11 H locs hw59 hP hS => ?_)
      have hw59 : r11 = rfo false false := hw59
      subst hw59
      refine lv_istore (lv' := [(7, .int (rfo false false)), (6, .int (nI 0)), (0, .ref xq), (1, .int p0), (2, .int p1), (3, .int p2), (4, .int p3), (5, .int p4)]) hx hb dX5_book_62 hl (by decide) rfl (fun ls hl => ?_)
      refine lv_iload hx hb dX5_book_64 (lv_at hl 0 rfl) ?_
      refine lv_if_eq (tgt := 77) hx hb dX5_book_66 (by decide) (fun c66 => ?_) (fun c66 => ?_)
      · exact absurd (rfo_0.mp c66).1 (by decide)
      refine lv_ldc2 hx hb hown kl130 dX5_book_69 ?_
      refine lv_iload hx hb dX5_book_72 (lv_at hl 0 rfl) ?_
      refine lv_i2l (v := (rfo false false).toInt64) hx hb dX5_book_74 rfl ?_
      refine lv_ladd hx hb dX5_book_75  ?_
      exact w_lret hx hb hr hlk hQ hAe (fb, ft, fl, fr2, fch, tn, al) hP hD hS (by refine ⟨?_, hCI⟩; first | (simp only [aLv, c4, c43, Bool.false_and, Bool.and_false, Bool.true_and, Bool.and_true]; rw [if_neg c66]; rfl) | (simp only [aLv, c4, c43, c51, Bool.false_and, Bool.and_false, Bool.true_and, Bool.and_true]; rw [if_neg c66]; rfl) | (simp only [aLv, c4, c11, c43, Bool.false_and, Bool.and_false, Bool.true_and, Bool.and_true]; rw [if_neg c66]; rfl) | (simp only [aLv, c4, c11, c43, c51, Bool.false_and, Bool.and_false, Bool.true_and, Bool.and_true]; rw [if_neg c66]; rfl) | (simp only [aLv, c4, c11, c19, c43, Bool.false_and, Bool.and_false, Bool.true_and, Bool.and_true]; rw [if_neg c66]; rfl) | (simp only [aLv, c4, c11, c19, c43, c51, Bool.false_and, Bool.and_false, Bool.true_and, Bool.and_true]; rw [if_neg c66]; rfl) ) dX5_book_76
    refine lv_iconst (v := nI (1)) hx hb dX5_book_54 (by decide) ?_
    refine lv_goto (tgt := 59) hx hb dX5_book_55 (by decide) ?_
    have hPc := hP.sub (ws' := []) [] rfl
    refine r_calli hP hS (va_runS (As := [.int (nI 0), .int (nI 1)]) (rest := []) ⟨hx, hb, hml, hown, hts⟩ (m_X5_refusalOf l D cI cJ false true) (va_cwS 2 hts gX5_book_X5_refusalOf rfl rfl rfl (by decide +kernel) ⟨Nat.le_of_ble_eq_true rfl, Nat.le_of_ble_eq_true rfl⟩) ⟨PR.blind, fun U hU hW => ⟨rfl, hKB.warm hW, by rw [hU]; exact hPc⟩⟩ rfl rfl hl.1 rfl (lv_room (Nat.le_of_ble_eq_true rfl)) dX5_book_59 ⟨Nat.le_of_ble_eq_true rfl, Nat.le_of_ble_eq_true rfl⟩) (fun r12 H locs hw59 hP hS => ?_)
    have hw59 : r12 = rfo false true := hw59
    subst hw59
    refine lv_istore (lv' := [(7, .int (rfo false true)), (6, .int (nI 0)), (0, .ref xq), (1, .int p0), (2, .int p1), (3, .int p2), (4, .int p3), (5, .int p4)]) hx hb dX5_book_62 hl (by decide) rfl (fun ls hl => ?_)
    refine lv_iload hx hb dX5_book_64 (lv_at hl 0 rfl) ?_
    refine lv_if_eq (tgt := 77) hx hb dX5_book_66 (by decide) (fun c66 => ?_) (fun c66 => ?_)
    · exact absurd (rfo_0.mp c66).1 (by decide)
    refine lv_ldc2 hx hb hown kl130 dX5_book_69 ?_
    refine lv_iload hx hb dX5_book_72 (lv_at hl 0 rfl) ?_
    refine lv_i2l (v := (rfo false true).toInt64) hx hb dX5_book_74 rfl ?_
    refine lv_ladd hx hb dX5_book_75  ?_
    exact w_lret hx hb hr hlk hQ hAe (fb, ft, fl, fr2, fch, tn, al) hP hD hS (by refine ⟨?_, hCI⟩; first | (simp only [aLv, c4, c43, Bool.false_and, Bool.and_false, Bool.true_and, Bool.and_true]; rw [if_neg c66]; rfl) | (simp only [aLv, c4, c43, c51, Bool.false_and, Bool.and_false, Bool.true_and, Bool.and_true]; rw [if_neg c66]; rfl) | (simp only [aLv, c4, c11, c43, Bool.false_and, Bool.and_false, Bool.true_and, Bool.and_true]; rw [if_neg c66]; rfl) | (simp only [aLv, c4, c11, c43, c51, Bool.false_and, Bool.and_false, Bool.true_and, Bool.and_true]; rw [if_neg c66]; rfl) | (simp only [aLv, c4, c11, c19, c43, Bool.false_and, Bool.and_false, Bool.true_and, Bool.and_true]; rw [if_neg c66]; rfl) | (simp only [aLv, c4, c11, c19, c43, c51, Bool.false_and, Bool.and_false, Bool.true_and, Bool.and_true]; rw [if_neg c66]; rfl) ) dX5_book_76
  refine lv_iload hx hb dX5_book_14 (lv_at hl 4 rfl) ?_
  have hPc := hP.sub (ws' := []) [] rfl
  refine r_calli hP hS (va_runS (As := [.int p3]) (rest := []) ⟨hx, hb, hml, hown, hts⟩ (m_X5_isTongue l D cI cJ p3) (va_cwS 1 hts gX5_book_X5_isTongue rfl rfl rfl (by decide +kernel) ⟨Nat.le_of_ble_eq_true rfl, Nat.le_of_ble_eq_true rfl⟩) ⟨PR.blind, fun U hU hW => ⟨rfl, hKB.warm hW, by rw [hU]; exact hPc⟩⟩ rfl rfl hl.1 rfl (lv_room (Nat.le_of_ble_eq_true rfl)) dX5_book_16 ⟨Nat.le_of_ble_eq_true rfl, Nat.le_of_ble_eq_true rfl⟩) (fun r13 H locs hw16 hP hS => ?_)
  have hw16 : r13 = bI (inR p3 0 7) := hw16
  subst hw16
  refine r_bif_eq (b := inR p3 0 7) (tgt := 26) hx hb dX5_book_19 (by decide) (fun c19 => ?_) (fun c19 => ?_)
  · skip
    refine lv_iconst (v := nI (0)) hx hb dX5_book_26 (by decide) ?_
    refine lv_istore (lv' := [(6, .int (nI 0)), (0, .ref xq), (1, .int p0), (2, .int p1), (3, .int p2), (4, .int p3), (5, .int p4)]) hx hb dX5_book_27 hl (by decide) rfl (fun ls hl => ?_)
    refine lv_iload hx hb dX5_book_29 (lv_at hl 0 rfl) ?_
    refine lv_iload_n hx hb dX5_book_31 rfl (lv_at hl 3 rfl) ?_
    refine lv_iconst (v := nI (0)) hx hb dX5_book_32 (by decide) ?_
    refine lv_aload_n hx hb dX5_book_33 rfl (lv_at hl 1 rfl) ?_
    refine va_get (D := D) (ci := 5) (v := .ref pq) (C := RX5) (T := TX5) (N := 6) hx hb hts hiX5 hown hKB.1 hP 0 rfl rfl 4 (by decide) fl44 (fun _ h9 => h9) rfl dX5_book_34 ?_
    refine va_getN (D := D) (ci := 4) (v := .int (nI h)) (C := RX4) (T := TX4) (N := 12) hx hb hts hiX4 hown hKB.1 hP 1 rfl rfl 3 (by decide) (hKB.2.f (q := ("TaughtTongues", 148, "TaughtTongues$Steps", "hears", "I")) 1 rfl) (fun _ h9 => h9) rfl dX5_book_37 ?_
    have hPc := hP.sub (ws' := []) [] rfl
    refine r_calli hP hS (va_runS (As := [.int p1, .int (nI 0), .int (nI h)]) (rest := [.int (nI 0)]) ⟨hx, hb, hml, hown, hts⟩ (m_X5_isBetween l D cI cJ p1 0 h) (va_cwS 3 hts gX5_book_X5_isBetween rfl rfl rfl (by decide +kernel) ⟨Nat.le_of_ble_eq_true rfl, Nat.le_of_ble_eq_true rfl⟩) ⟨PR.blind, fun U hU hW => ⟨rfl, hKB.warm hW, by rw [hU]; exact hPc⟩⟩ rfl rfl hl.1 rfl (lv_room (Nat.le_of_ble_eq_true rfl)) dX5_book_40 ⟨Nat.le_of_ble_eq_true rfl, Nat.le_of_ble_eq_true rfl⟩) (fun r14 H locs hw40 hP hS => ?_)
    have hw40 : r14 = bI (inR p1 0 h) := hw40
    subst hw40
    refine r_bif_eq (b := inR p1 0 h) (tgt := 58) hx hb dX5_book_43 (by decide) (fun c43 => ?_) (fun c43 => ?_)
    · skip
      refine lv_iconst (v := nI (0)) hx hb dX5_book_58 (by decide) ?_
      have hPc := hP.sub (ws' := []) [] rfl
      refine r_calli hP hS (va_runS (As := [.int (nI 0), .int (nI 0)]) (rest := []) ⟨hx, hb, hml, hown, hts⟩ (m_X5_refusalOf l D cI cJ false false) (va_cwS 2 hts gX5_book_X5_refusalOf rfl rfl rfl (by decide +kernel) ⟨Nat.le_of_ble_eq_true rfl, Nat.le_of_ble_eq_true rfl⟩) ⟨PR.blind, fun U hU hW => ⟨rfl, hKB.warm hW, by rw [hU]; exact hPc⟩⟩ rfl rfl hl.1 rfl (lv_room (Nat.le_of_ble_eq_true rfl)) dX5_book_59 ⟨Nat.le_of_ble_eq_true rfl, Nat.le_of_ble_eq_true rfl⟩) (fun r15 H locs hw59 hP hS => ?_)
      have hw59 : r15 = rfo false false := hw59
      subst hw59
      refine lv_istore (lv' := [(7, .int (rfo false false)), (6, .int (nI 0)), (0, .ref xq), (1, .int p0), (2, .int p1), (3, .int p2), (4, .int p3), (5, .int p4)]) hx hb dX5_book_62 hl (by decide) rfl (fun ls hl => ?_)
      refine lv_iload hx hb dX5_book_64 (lv_at hl 0 rfl) ?_
      refine lv_if_eq (tgt := 77) hx hb dX5_book_66 (by decide) (fun c66 => ?_) (fun c66 => ?_)
      · exact absurd (rfo_0.mp c66).1 (by decide)
      refine lv_ldc2 hx hb hown kl130 dX5_book_69 ?_
      refine lv_iload hx hb dX5_book_72 (lv_at hl 0 rfl) ?_
      refine lv_i2l (v := (rfo false false).toInt64) hx hb dX5_book_74 rfl ?_
      refine lv_ladd hx hb dX5_book_75  ?_
      exact w_lret hx hb hr hlk hQ hAe (fb, ft, fl, fr2, fch, tn, al) hP hD hS (by refine ⟨?_, hCI⟩; first | (simp only [aLv, c4, c43, Bool.false_and, Bool.and_false, Bool.true_and, Bool.and_true]; rw [if_neg c66]; rfl) | (simp only [aLv, c4, c43, c51, Bool.false_and, Bool.and_false, Bool.true_and, Bool.and_true]; rw [if_neg c66]; rfl) | (simp only [aLv, c4, c11, c43, Bool.false_and, Bool.and_false, Bool.true_and, Bool.and_true]; rw [if_neg c66]; rfl) | (simp only [aLv, c4, c11, c43, c51, Bool.false_and, Bool.and_false, Bool.true_and, Bool.and_true]; rw [if_neg c66]; rfl) | (simp only [aLv, c4, c11, c19, c43, Bool.false_and, Bool.and_false, Bool.true_and, Bool.and_true]; rw [if_neg c66]; rfl) | (simp only [aLv, c4, c11, c19, c43, c51, Bool.false_and, Bool.and_false, Bool.true_and, Bool.and_true]; rw [if_neg c66]; rfl) ) dX5_book_76
    refine lv_iload hx hb dX5_book_46 (lv_at hl 6 rfl) ?_
    have hPc := hP.sub (ws' := []) [] rfl
    refine r_calli hP hS (va_runS (As := [.int p4]) (rest := [.int (nI 0)]) ⟨hx, hb, hml, hown, hts⟩ (m_X5_isPart l D cI cJ p4) (va_cwS 1 hts gX5_book_X5_isPart rfl rfl rfl (by decide +kernel) ⟨Nat.le_of_ble_eq_true rfl, Nat.le_of_ble_eq_true rfl⟩) ⟨PR.blind, fun U hU hW => ⟨rfl, hKB.warm hW, by rw [hU]; exact hPc⟩⟩ rfl rfl hl.1 rfl (lv_room (Nat.le_of_ble_eq_true rfl)) dX5_book_48 ⟨Nat.le_of_ble_eq_true rfl, Nat.le_of_ble_eq_true rfl⟩) (fun r16 H locs hw48 hP hS => ?_)
    have hw48 : r16 = bI (inR p4 0 1) := hw48
    subst hw48
    refine r_bif_eq (b := inR p4 0 1) (tgt := 58) hx hb dX5_book_51 (by decide) (fun c51 => ?_) (fun c51 => ?_)
    · skip
      refine lv_iconst (v := nI (0)) hx hb dX5_book_58 (by decide) ?_
      have hPc := hP.sub (ws' := []) [] rfl
      refine r_calli hP hS (va_runS (As := [.int (nI 0), .int (nI 0)]) (rest := []) ⟨hx, hb, hml, hown, hts⟩ (m_X5_refusalOf l D cI cJ false false) (va_cwS 2 hts gX5_book_X5_refusalOf rfl rfl rfl (by decide +kernel) ⟨Nat.le_of_ble_eq_true rfl, Nat.le_of_ble_eq_true rfl⟩) ⟨PR.blind, fun U hU hW => ⟨rfl, hKB.warm hW, by rw [hU]; exact hPc⟩⟩ rfl rfl hl.1 rfl (lv_room (Nat.le_of_ble_eq_true rfl)) dX5_book_59 ⟨Nat.le_of_ble_eq_true rfl, Nat.le_of_ble_eq_true rfl⟩) (fun r17 H locs hw59 hP hS => ?_)
      have hw59 : r17 = rfo false false := hw59
      subst hw59
      refine lv_istore (lv' := [(7, .int (rfo false false)), (6, .int (nI 0)), (0, .ref xq), (1, .int p0), (2, .int p1), (3, .int p2), (4, .int p3), (5, .int p4)]) hx hb dX5_book_62 hl (by decide) rfl (fun ls hl => ?_)
      refine lv_iload hx hb dX5_book_64 (lv_at hl 0 rfl) ?_
      refine lv_if_eq (tgt := 77) hx hb dX5_book_66 (by decide) (fun c66 => ?_) (fun c66 => ?_)
      · exact absurd (rfo_0.mp c66).1 (by decide)
      refine lv_ldc2 hx hb hown kl130 dX5_book_69 ?_
      refine lv_iload hx hb dX5_book_72 (lv_at hl 0 rfl) ?_
      refine lv_i2l (v := (rfo false false).toInt64) hx hb dX5_book_74 rfl ?_
      refine lv_ladd hx hb dX5_book_75  ?_
      exact w_lret hx hb hr hlk hQ hAe (fb, ft, fl, fr2, fch, tn, al) hP hD hS (by refine ⟨?_, hCI⟩; first | (simp only [aLv, c4, c43, Bool.false_and, Bool.and_false, Bool.true_and, Bool.and_true]; rw [if_neg c66]; rfl) | (simp only [aLv, c4, c43, c51, Bool.false_and, Bool.and_false, Bool.true_and, Bool.and_true]; rw [if_neg c66]; rfl) | (simp only [aLv, c4, c11, c43, Bool.false_and, Bool.and_false, Bool.true_and, Bool.and_true]; rw [if_neg c66]; rfl) | (simp only [aLv, c4, c11, c43, c51, Bool.false_and, Bool.and_false, Bool.true_and, Bool.and_true]; rw [if_neg c66]; rfl) | (simp only [aLv, c4, c11, c19, c43, Bool.false_and, Bool.and_false, Bool.true_and, Bool.and_true]; rw [if_neg c66]; rfl) | (simp only [aLv, c4, c11, c19, c43, c51, Bool.false_and, Bool.and_false, Bool.true_and, Bool.and_true]; rw [if_neg c66]; rfl) ) dX5_book_76
    refine lv_iconst (v := nI (1)) hx hb dX5_book_54 (by decide) ?_
    refine lv_goto (tgt := 59) hx hb dX5_book_55 (by decide) ?_
    have hPc := hP.sub (ws' := []) [] rfl
    refine r_calli hP hS (va_runS (As := [.int (nI 0), .int (nI 1)]) (rest := []) ⟨hx, hb, hml, hown, hts⟩ (m_X5_refusalOf l D cI cJ false true) (va_cwS 2 hts gX5_book_X5_refusalOf rfl rfl rfl (by decide +kernel) ⟨Nat.le_of_ble_eq_true rfl, Nat.le_of_ble_eq_true rfl⟩) ⟨PR.blind, fun U hU hW => ⟨rfl, hKB.warm hW, by rw [hU]; exact hPc⟩⟩ rfl rfl hl.1 rfl (lv_room (Nat.le_of_ble_eq_true rfl)) dX5_book_59 ⟨Nat.le_of_ble_eq_true rfl, Nat.le_of_ble_eq_true rfl⟩) (fun r18 H locs hw59 hP hS => ?_)
    have hw59 : r18 = rfo false true := hw59
    subst hw59
    refine lv_istore (lv' := [(7, .int (rfo false true)), (6, .int (nI 0)), (0, .ref xq), (1, .int p0), (2, .int p1), (3, .int p2), (4, .int p3), (5, .int p4)]) hx hb dX5_book_62 hl (by decide) rfl (fun ls hl => ?_)
    refine lv_iload hx hb dX5_book_64 (lv_at hl 0 rfl) ?_
    refine lv_if_eq (tgt := 77) hx hb dX5_book_66 (by decide) (fun c66 => ?_) (fun c66 => ?_)
    · exact absurd (rfo_0.mp c66).1 (by decide)
    refine lv_ldc2 hx hb hown kl130 dX5_book_69 ?_
    refine lv_iload hx hb dX5_book_72 (lv_at hl 0 rfl) ?_
    refine lv_i2l (v := (rfo false true).toInt64) hx hb dX5_book_74 rfl ?_
    refine lv_ladd hx hb dX5_book_75  ?_
    exact w_lret hx hb hr hlk hQ hAe (fb, ft, fl, fr2, fch, tn, al) hP hD hS (by refine ⟨?_, hCI⟩; first | (simp only [aLv, c4, c43, Bool.false_and, Bool.and_false, Bool.true_and, Bool.and_true]; rw [if_neg c66]; rfl) | (simp only [aLv, c4, c43, c51, Bool.false_and, Bool.and_false, Bool.true_and, Bool.and_true]; rw [if_neg c66]; rfl) | (simp only [aLv, c4, c11, c43, Bool.false_and, Bool.and_false, Bool.true_and, Bool.and_true]; rw [if_neg c66]; rfl) | (simp only [aLv, c4, c11, c43, c51, Bool.false_and, Bool.and_false, Bool.true_and, Bool.and_true]; rw [if_neg c66]; rfl) | (simp only [aLv, c4, c11, c19, c43, Bool.false_and, Bool.and_false, Bool.true_and, Bool.and_true]; rw [if_neg c66]; rfl) | (simp only [aLv, c4, c11, c19, c43, c51, Bool.false_and, Bool.and_false, Bool.true_and, Bool.and_true]; rw [if_neg c66]; rfl) ) dX5_book_76
  refine lv_iconst (v := nI (1)) hx hb dX5_book_22 (by decide) ?_
  refine lv_goto (tgt := 27) hx hb dX5_book_23 (by decide) ?_
  refine lv_istore (lv' := [(6, .int (nI 1)), (0, .ref xq), (1, .int p0), (2, .int p1), (3, .int p2), (4, .int p3), (5, .int p4)]) hx hb dX5_book_27 hl (by decide) rfl (fun ls hl => ?_)
  refine lv_iload hx hb dX5_book_29 (lv_at hl 0 rfl) ?_
  refine lv_iload_n hx hb dX5_book_31 rfl (lv_at hl 3 rfl) ?_
  refine lv_iconst (v := nI (0)) hx hb dX5_book_32 (by decide) ?_
  refine lv_aload_n hx hb dX5_book_33 rfl (lv_at hl 1 rfl) ?_
  refine va_get (D := D) (ci := 5) (v := .ref pq) (C := RX5) (T := TX5) (N := 6) hx hb hts hiX5 hown hKB.1 hP 0 rfl rfl 4 (by decide) fl44 (fun _ h9 => h9) rfl dX5_book_34 ?_
  refine va_getN (D := D) (ci := 4) (v := .int (nI h)) (C := RX4) (T := TX4) (N := 12) hx hb hts hiX4 hown hKB.1 hP 1 rfl rfl 3 (by decide) (hKB.2.f (q := ("TaughtTongues", 148, "TaughtTongues$Steps", "hears", "I")) 1 rfl) (fun _ h9 => h9) rfl dX5_book_37 ?_
  have hPc := hP.sub (ws' := []) [] rfl
  refine r_calli hP hS (va_runS (As := [.int p1, .int (nI 0), .int (nI h)]) (rest := [.int (nI 1)]) ⟨hx, hb, hml, hown, hts⟩ (m_X5_isBetween l D cI cJ p1 0 h) (va_cwS 3 hts gX5_book_X5_isBetween rfl rfl rfl (by decide +kernel) ⟨Nat.le_of_ble_eq_true rfl, Nat.le_of_ble_eq_true rfl⟩) ⟨PR.blind, fun U hU hW => ⟨rfl, hKB.warm hW, by rw [hU]; exact hPc⟩⟩ rfl rfl hl.1 rfl (lv_room (Nat.le_of_ble_eq_true rfl)) dX5_book_40 ⟨Nat.le_of_ble_eq_true rfl, Nat.le_of_ble_eq_true rfl⟩) (fun r19 H locs hw40 hP hS => ?_)
  have hw40 : r19 = bI (inR p1 0 h) := hw40
  subst hw40
  refine r_bif_eq (b := inR p1 0 h) (tgt := 58) hx hb dX5_book_43 (by decide) (fun c43 => ?_) (fun c43 => ?_)
  · skip
    refine lv_iconst (v := nI (0)) hx hb dX5_book_58 (by decide) ?_
    have hPc := hP.sub (ws' := []) [] rfl
    refine r_calli hP hS (va_runS (As := [.int (nI 1), .int (nI 0)]) (rest := []) ⟨hx, hb, hml, hown, hts⟩ (m_X5_refusalOf l D cI cJ true false) (va_cwS 2 hts gX5_book_X5_refusalOf rfl rfl rfl (by decide +kernel) ⟨Nat.le_of_ble_eq_true rfl, Nat.le_of_ble_eq_true rfl⟩) ⟨PR.blind, fun U hU hW => ⟨rfl, hKB.warm hW, by rw [hU]; exact hPc⟩⟩ rfl rfl hl.1 rfl (lv_room (Nat.le_of_ble_eq_true rfl)) dX5_book_59 ⟨Nat.le_of_ble_eq_true rfl, Nat.le_of_ble_eq_true rfl⟩) (fun r20 H locs hw59 hP hS => ?_)
    have hw59 : r20 = rfo true false := hw59
    subst hw59
    refine lv_istore (lv' := [(7, .int (rfo true false)), (6, .int (nI 1)), (0, .ref xq), (1, .int p0), (2, .int p1), (3, .int p2), (4, .int p3), (5, .int p4)]) hx hb dX5_book_62 hl (by decide) rfl (fun ls hl => ?_)
    refine lv_iload hx hb dX5_book_64 (lv_at hl 0 rfl) ?_
    refine lv_if_eq (tgt := 77) hx hb dX5_book_66 (by decide) (fun c66 => ?_) (fun c66 => ?_)
    · exact absurd (rfo_0.mp c66).2 (by decide)
    refine lv_ldc2 hx hb hown kl130 dX5_book_69 ?_
    refine lv_iload hx hb dX5_book_72 (lv_at hl 0 rfl) ?_
    refine lv_i2l (v := (rfo true false).toInt64) hx hb dX5_book_74 rfl ?_
    refine lv_ladd hx hb dX5_book_75  ?_
    exact w_lret hx hb hr hlk hQ hAe (fb, ft, fl, fr2, fch, tn, al) hP hD hS (by refine ⟨?_, hCI⟩; first | (simp only [aLv, c4, c43, Bool.false_and, Bool.and_false, Bool.true_and, Bool.and_true]; rw [if_neg c66]; rfl) | (simp only [aLv, c4, c43, c51, Bool.false_and, Bool.and_false, Bool.true_and, Bool.and_true]; rw [if_neg c66]; rfl) | (simp only [aLv, c4, c11, c43, Bool.false_and, Bool.and_false, Bool.true_and, Bool.and_true]; rw [if_neg c66]; rfl) | (simp only [aLv, c4, c11, c43, c51, Bool.false_and, Bool.and_false, Bool.true_and, Bool.and_true]; rw [if_neg c66]; rfl) | (simp only [aLv, c4, c11, c19, c43, Bool.false_and, Bool.and_false, Bool.true_and, Bool.and_true]; rw [if_neg c66]; rfl) | (simp only [aLv, c4, c11, c19, c43, c51, Bool.false_and, Bool.and_false, Bool.true_and, Bool.and_true]; rw [if_neg c66]; rfl) ) dX5_book_76
  refine lv_iload hx hb dX5_book_46 (lv_at hl 6 rfl) ?_
  have hPc := hP.sub (ws' := []) [] rfl
  refine r_calli hP hS (va_runS (As := [.int p4]) (rest := [.int (nI 1)]) ⟨hx, hb, hml, hown, hts⟩ (m_X5_isPart l D cI cJ p4) (va_cwS 1 hts gX5_book_X5_isPart rfl rfl rfl (by decide +kernel) ⟨Nat.le_of_ble_eq_true rfl, Nat.le_of_ble_eq_true rfl⟩) ⟨PR.blind, fun U hU hW => ⟨rfl, hKB.warm hW, by rw [hU]; exact hPc⟩⟩ rfl rfl hl.1 rfl (lv_room (Nat.le_of_ble_eq_true rfl)) dX5_book_48 ⟨Nat.le_of_ble_eq_true rfl, Nat.le_of_ble_eq_true rfl⟩) (fun r21 H locs hw48 hP hS => ?_)
  have hw48 : r21 = bI (inR p4 0 1) := hw48
  subst hw48
  refine r_bif_eq (b := inR p4 0 1) (tgt := 58) hx hb dX5_book_51 (by decide) (fun c51 => ?_) (fun c51 => ?_)
  · skip
    refine lv_iconst (v := nI (0)) hx hb dX5_book_58 (by decide) ?_
    have hPc := hP.sub (ws' := []) [] rfl
    refine r_calli hP hS (va_runS (As := [.int (nI 1), .int (nI 0)]) (rest := []) ⟨hx, hb, hml, hown, hts⟩ (m_X5_refusalOf l D cI cJ true false) (va_cwS 2 hts gX5_book_X5_refusalOf rfl rfl rfl (by decide +kernel) ⟨Nat.le_of_ble_eq_true rfl, Nat.le_of_ble_eq_true rfl⟩) ⟨PR.blind, fun U hU hW => ⟨rfl, hKB.warm hW, by rw [hU]; exact hPc⟩⟩ rfl rfl hl.1 rfl (lv_room (Nat.le_of_ble_eq_true rfl)) dX5_book_59 ⟨Nat.le_of_ble_eq_true rfl, Nat.le_of_ble_eq_true rfl⟩) (fun r22 H locs hw59 hP hS => ?_)
    have hw59 : r22 = rfo true false := hw59
    subst hw59
    refine lv_istore (lv' := [(7, .int (rfo true false)), (6, .int (nI 1)), (0, .ref xq), (1, .int p0), (2, .int p1), (3, .int p2), (4, .int p3), (5, .int p4)]) hx hb dX5_book_62 hl (by decide) rfl (fun ls hl => ?_)
    refine lv_iload hx hb dX5_book_64 (lv_at hl 0 rfl) ?_
    refine lv_if_eq (tgt := 77) hx hb dX5_book_66 (by decide) (fun c66 => ?_) (fun c66 => ?_)
    · exact absurd (rfo_0.mp c66).2 (by decide)
    refine lv_ldc2 hx hb hown kl130 dX5_book_69 ?_
    refine lv_iload hx hb dX5_book_72 (lv_at hl 0 rfl) ?_
    refine lv_i2l (v := (rfo true false).toInt64) hx hb dX5_book_74 rfl ?_
    refine lv_ladd hx hb dX5_book_75  ?_
    exact w_lret hx hb hr hlk hQ hAe (fb, ft, fl, fr2, fch, tn, al) hP hD hS (by refine ⟨?_, hCI⟩; first | (simp only [aLv, c4, c43, Bool.false_and, Bool.and_false, Bool.true_and, Bool.and_true]; rw [if_neg c66]; rfl) | (simp only [aLv, c4, c43, c51, Bool.false_and, Bool.and_false, Bool.true_and, Bool.and_true]; rw [if_neg c66]; rfl) | (simp only [aLv, c4, c11, c43, Bool.false_and, Bool.and_false, Bool.true_and, Bool.and_true]; rw [if_neg c66]; rfl) | (simp only [aLv, c4, c11, c43, c51, Bool.false_and, Bool.and_false, Bool.true_and, Bool.and_true]; rw [if_neg c66]; rfl) | (simp only [aLv, c4, c11, c19, c43, Bool.false_and, Bool.and_false, Bool.true_and, Bool.and_true]; rw [if_neg c66]; rfl) | (simp only [aLv, c4, c11, c19, c43, c51, Bool.false_and, Bool.and_false, Bool.true_and, Bool.and_true]; rw [if_neg c66]; rfl) ) dX5_book_76
  refine lv_iconst (v := nI (1)) hx hb dX5_book_54 (by decide) ?_
  refine lv_goto (tgt := 59) hx hb dX5_book_55 (by decide) ?_
  have hPc := hP.sub (ws' := []) [] rfl
  refine r_calli hP hS (va_runS (As := [.int (nI 1), .int (nI 1)]) (rest := []) ⟨hx, hb, hml, hown, hts⟩ (m_X5_refusalOf l D cI cJ true true) (va_cwS 2 hts gX5_book_X5_refusalOf rfl rfl rfl (by decide +kernel) ⟨Nat.le_of_ble_eq_true rfl, Nat.le_of_ble_eq_true rfl⟩) ⟨PR.blind, fun U hU hW => ⟨rfl, hKB.warm hW, by rw [hU]; exact hPc⟩⟩ rfl rfl hl.1 rfl (lv_room (Nat.le_of_ble_eq_true rfl)) dX5_book_59 ⟨Nat.le_of_ble_eq_true rfl, Nat.le_of_ble_eq_true rfl⟩) (fun r23 H locs hw59 hP hS => ?_)
  have hw59 : r23 = rfo true true := hw59
  subst hw59
  refine lv_istore (lv' := [(7, .int (rfo true true)), (6, .int (nI 1)), (0, .ref xq), (1, .int p0), (2, .int p1), (3, .int p2), (4, .int p3), (5, .int p4)]) hx hb dX5_book_62 hl (by decide) rfl (fun ls hl => ?_)
  refine lv_iload hx hb dX5_book_64 (lv_at hl 0 rfl) ?_
  refine lv_if_eq (tgt := 77) hx hb dX5_book_66 (by decide) (fun c66 => ?_) (fun c66 => ?_)
  · skip
    obtain ⟨V0, -, hV0, rfl⟩ := inR_t (by decide) (by decide) (c4)
    obtain ⟨V2, -, hV2, rfl⟩ := inR_t (by decide) (by decide) (c11)
    obtain ⟨V3, -, hV3, rfl⟩ := inR_t (by decide) (by decide) (c19)
    obtain ⟨V1, -, hV1, rfl⟩ := inR_t (by omega) (by omega) c43
    obtain ⟨V4, -, hV4, rfl⟩ := inR_t (by decide) (by decide) (c51)
    refine lv_aload_n hx hb dX5_book_77 rfl (lv_at hl 2 rfl) ?_
    refine va_get (D := D) (ci := 5) (v := .ref pq) (C := RX5) (T := TX5) (N := 6) hx hb hts hiX5 hown hKB.1 hP 0 rfl rfl 4 (by decide) fl44 (fun _ h9 => h9) rfl dX5_book_78 ?_
    refine lv_iload_n hx hb dX5_book_81 rfl (lv_at hl 5 rfl) ?_
    refine lv_iload_n hx hb dX5_book_82 rfl (lv_at hl 3 rfl) ?_
    refine lv_iload_n hx hb dX5_book_83 rfl (lv_at hl 4 rfl) ?_
    have hPc := hP.sub (ws' := [(pq, .inr (4, [.ref lq, .ref oq, .ref wq, .int (nI h), .ref bq, .ref teq, .ref loq, .ref rq, .ref odq, .int (nI kn), .ref nwq, .ref nxq])), (wq, .inl (cI, 3, .inl (nF w))), (lq, .inr (1, [.ref nq, .int (nI slip), .int (nI kd)])), (nq, .inl (cI, 8, .inl (nF num))), (bq, .inl (cJ, 6, .inr (.inl (lF fb)))), (teq, .inl (cJ, 6, .inr (.inl (lF ft)))), (loq, .inl (cJ, 210, .inr (.inl (lF fl)))), (rq, .inl (cJ, 8, .inr (.inl (lF fr2)))), (oq, .inr (2, [.ref lq, .ref smq, .ref laq, .ref grq, .ref chq, .ref cq])), (smq, .inl (cI, 210, .inl (nF SM))), (laq, .inl (cI, 210, .inl (nF LA))), (grq, .inl (cI, 504, .inl (nF GR))), (chq, .inl (cI, 210, .inl fch)), (cq, .inr (0, [.ref tq, .int (nI al)])), (tq, .inl (cI, 6, .inl (nF tn)))]) [1, 2, 3, 4, 5, 6, 7, 8, 9, 10, 11, 12, 13, 14, 15] rfl
    have hDc := hD.sub (ws' := [(pq, .inr (4, [.ref lq, .ref oq, .ref wq, .int (nI h), .ref bq, .ref teq, .ref loq, .ref rq, .ref odq, .int (nI kn), .ref nwq, .ref nxq])), (wq, .inl (cI, 3, .inl (nF w))), (lq, .inr (1, [.ref nq, .int (nI slip), .int (nI kd)])), (nq, .inl (cI, 8, .inl (nF num))), (bq, .inl (cJ, 6, .inr (.inl (lF fb)))), (teq, .inl (cJ, 6, .inr (.inl (lF ft)))), (loq, .inl (cJ, 210, .inr (.inl (lF fl)))), (rq, .inl (cJ, 8, .inr (.inl (lF fr2)))), (oq, .inr (2, [.ref lq, .ref smq, .ref laq, .ref grq, .ref chq, .ref cq])), (smq, .inl (cI, 210, .inl (nF SM))), (laq, .inl (cI, 210, .inl (nF LA))), (grq, .inl (cI, 504, .inl (nF GR))), (chq, .inl (cI, 210, .inl fch)), (cq, .inr (0, [.ref tq, .int (nI al)])), (tq, .inl (cI, 6, .inl (nF tn)))]) [1, 2, 3, 4, 5, 6, 7, 8, 9, 10, 11, 12, 13, 14, 15] (by decide) rfl
    have hFc := va_free (wc := [(pq, .inr (4, [.ref lq, .ref oq, .ref wq, .int (nI h), .ref bq, .ref teq, .ref loq, .ref rq, .ref odq, .int (nI kn), .ref nwq, .ref nxq])), (wq, .inl (cI, 3, .inl (nF w))), (lq, .inr (1, [.ref nq, .int (nI slip), .int (nI kd)])), (nq, .inl (cI, 8, .inl (nF num))), (bq, .inl (cJ, 6, .inr (.inl (lF fb)))), (teq, .inl (cJ, 6, .inr (.inl (lF ft)))), (loq, .inl (cJ, 210, .inr (.inl (lF fl)))), (rq, .inl (cJ, 8, .inr (.inl (lF fr2)))), (oq, .inr (2, [.ref lq, .ref smq, .ref laq, .ref grq, .ref chq, .ref cq])), (smq, .inl (cI, 210, .inl (nF SM))), (laq, .inl (cI, 210, .inl (nF LA))), (grq, .inl (cI, 504, .inl (nF GR))), (chq, .inl (cI, 210, .inl fch)), (cq, .inr (0, [.ref tq, .int (nI al)])), (tq, .inl (cI, 6, .inl (nF tn)))]) hD hS hA [1, 2, 3, 4, 5, 6, 7, 8, 9, 10, 11, 12, 13, 14, 15] rfl
    refine w_callr (wc := [(pq, .inr (4, [.ref lq, .ref oq, .ref wq, .int (nI h), .ref bq, .ref teq, .ref loq, .ref rq, .ref odq, .int (nI kn), .ref nwq, .ref nxq])), (wq, .inl (cI, 3, .inl (nF w))), (lq, .inr (1, [.ref nq, .int (nI slip), .int (nI kd)])), (nq, .inl (cI, 8, .inl (nF num))), (bq, .inl (cJ, 6, .inr (.inl (lF fb)))), (teq, .inl (cJ, 6, .inr (.inl (lF ft)))), (loq, .inl (cJ, 210, .inr (.inl (lF fl)))), (rq, .inl (cJ, 8, .inr (.inl (lF fr2)))), (oq, .inr (2, [.ref lq, .ref smq, .ref laq, .ref grq, .ref chq, .ref cq])), (smq, .inl (cI, 210, .inl (nF SM))), (laq, .inl (cI, 210, .inl (nF LA))), (grq, .inl (cI, 504, .inl (nF GR))), (chq, .inl (cI, 210, .inl fch)), (cq, .inr (0, [.ref tq, .int (nI al)])), (tq, .inl (cI, 6, .inl (nF tn)))]) (wr := [(xq, .inr (5, [.ref sq, .ref hq, .ref lq, .ref oq, .ref pq, .ref req]))]) hP hD hS [1, 2, 3, 4, 5, 6, 7, 8, 9, 10, 11, 12, 13, 14, 15] [0] rfl rfl (by decide) (by decide) hFc (va_runV (As := [.int (nI V2), .int (nI V0), .int (nI V1)]) (rest := []) ⟨hx, hb, hml, hown, hts⟩ (m_X4_rowOf l D cI cJ tT _ pq lq oq wq h bq teq loq rq odq kn nwq nxq smq laq grq chq cq tq al tn nq slip kd num fch w fb ft fl fr2 V2 V0 V1 (by omega) (by omega) (by omega) (by assumption) (by assumption) (by assumption) (by assumption) (by assumption) (hCI.2.2)) (cwV 3 hts gX5_book_X4_rowOf rfl rfl rfl (by decide +kernel) ⟨Nat.le_of_ble_eq_true rfl, Nat.le_of_ble_eq_true rfl⟩) ⟨PXT.blind, va_recv hKB.1 hP (ci := 4) (q0 := 1) rfl rfl, fun U hU hW => ⟨rfl, by rw [hU], hKB.warm hW, hFT.go hW (by rw [hU]; exact hS) hFc, by rw [hU]; exact hPc, hDc.weaken (fun _ _ _ _ => trivial)⟩⟩ rfl rfl hl.1 rfl (lv_room (Nat.le_of_ble_eq_true rfl)) dX5_book_84 ⟨Nat.le_of_ble_eq_true rfl, Nat.le_of_ble_eq_true rfl⟩) (fun u84 H locs hw84 hP hD hS => ?_)
    obtain ⟨fb9_84, ft9_84, fl9_84, row9_84, fch9_84, tn9_84, al9_84⟩ := u84
    have hP : va_P D vwCl [(xq, .inr (5, [.ref sq, .ref hq, .ref lq, .ref oq, .ref pq, .ref req])), (pq, .inr (4, [.ref lq, .ref oq, .ref wq, .int (nI h), .ref bq, .ref teq, .ref loq, .ref rq, .ref odq, .int (nI kn), .ref nwq, .ref nxq])), (wq, .inl (cI, 3, .inl (nF w))), (lq, .inr (1, [.ref nq, .int (nI slip), .int (nI kd)])), (nq, .inl (cI, 8, .inl (nF num))), (bq, .inl (cJ, 6, .inr (.inl (lF fb9_84)))), (teq, .inl (cJ, 6, .inr (.inl (lF ft9_84)))), (loq, .inl (cJ, 210, .inr (.inl (lF fl9_84)))), (rq, .inl (cJ, 8, .inr (.inl (lF row9_84)))), (oq, .inr (2, [.ref lq, .ref smq, .ref laq, .ref grq, .ref chq, .ref cq])), (smq, .inl (cI, 210, .inl (nF SM))), (laq, .inl (cI, 210, .inl (nF LA))), (grq, .inl (cI, 504, .inl (nF GR))), (chq, .inl (cI, 210, .inl fch9_84)), (cq, .inr (0, [.ref tq, .int (nI al9_84)])), (tq, .inl (cI, 6, .inl (nF tn9_84)))] _ := hP
    have hD : va_D A [(xq, .inr (5, [.ref sq, .ref hq, .ref lq, .ref oq, .ref pq, .ref req])), (pq, .inr (4, [.ref lq, .ref oq, .ref wq, .int (nI h), .ref bq, .ref teq, .ref loq, .ref rq, .ref odq, .int (nI kn), .ref nwq, .ref nxq])), (wq, .inl (cI, 3, .inl (nF w))), (lq, .inr (1, [.ref nq, .int (nI slip), .int (nI kd)])), (nq, .inl (cI, 8, .inl (nF num))), (bq, .inl (cJ, 6, .inr (.inl (lF fb9_84)))), (teq, .inl (cJ, 6, .inr (.inl (lF ft9_84)))), (loq, .inl (cJ, 210, .inr (.inl (lF fl9_84)))), (rq, .inl (cJ, 8, .inr (.inl (lF row9_84)))), (oq, .inr (2, [.ref lq, .ref smq, .ref laq, .ref grq, .ref chq, .ref cq])), (smq, .inl (cI, 210, .inl (nF SM))), (laq, .inl (cI, 210, .inl (nF LA))), (grq, .inl (cI, 504, .inl (nF GR))), (chq, .inl (cI, 210, .inl fch9_84)), (cq, .inr (0, [.ref tq, .int (nI al9_84)])), (tq, .inl (cI, 6, .inl (nF tn9_84)))] := hD
    have hw84 : row9_84 = rwF w slip kd num h V0 V2 V1 ∧ (chOk num slip kd fch9_84) := hw84
    obtain ⟨erow9_84, hE84⟩ := hw84
    subst erow9_84
    have hP : va_P D vwCl [(xq, .inr (5, [.ref sq, .ref hq, .ref lq, .ref oq, .ref pq, .ref req])), (pq, .inr (4, [.ref lq, .ref oq, .ref wq, .int (nI h), .ref bq, .ref teq, .ref loq, .ref rq, .ref odq, .int (nI kn), .ref nwq, .ref nxq])), (wq, .inl (cI, 3, .inl (nF w))), (lq, .inr (1, [.ref nq, .int (nI slip), .int (nI kd)])), (nq, .inl (cI, 8, .inl (nF num))), (bq, .inl (cJ, 6, .inr (.inl (lF fb9_84)))), (teq, .inl (cJ, 6, .inr (.inl (lF ft9_84)))), (loq, .inl (cJ, 210, .inr (.inl (lF fl9_84)))), (rq, .inl (cJ, 8, .inr (.inl (lF (rwF w slip kd num h V0 V2 V1))))), (oq, .inr (2, [.ref lq, .ref smq, .ref laq, .ref grq, .ref chq, .ref cq])), (smq, .inl (cI, 210, .inl (nF SM))), (laq, .inl (cI, 210, .inl (nF LA))), (grq, .inl (cI, 504, .inl (nF GR))), (chq, .inl (cI, 210, .inl fch9_84)), (cq, .inr (0, [.ref tq, .int (nI al9_84)])), (tq, .inl (cI, 6, .inl (nF tn9_84)))] _ := hP
    have hD : va_D A [(xq, .inr (5, [.ref sq, .ref hq, .ref lq, .ref oq, .ref pq, .ref req])), (pq, .inr (4, [.ref lq, .ref oq, .ref wq, .int (nI h), .ref bq, .ref teq, .ref loq, .ref rq, .ref odq, .int (nI kn), .ref nwq, .ref nxq])), (wq, .inl (cI, 3, .inl (nF w))), (lq, .inr (1, [.ref nq, .int (nI slip), .int (nI kd)])), (nq, .inl (cI, 8, .inl (nF num))), (bq, .inl (cJ, 6, .inr (.inl (lF fb9_84)))), (teq, .inl (cJ, 6, .inr (.inl (lF ft9_84)))), (loq, .inl (cJ, 210, .inr (.inl (lF fl9_84)))), (rq, .inl (cJ, 8, .inr (.inl (lF (rwF w slip kd num h V0 V2 V1))))), (oq, .inr (2, [.ref lq, .ref smq, .ref laq, .ref grq, .ref chq, .ref cq])), (smq, .inl (cI, 210, .inl (nF SM))), (laq, .inl (cI, 210, .inl (nF LA))), (grq, .inl (cI, 504, .inl (nF GR))), (chq, .inl (cI, 210, .inl fch9_84)), (cq, .inr (0, [.ref tq, .int (nI al9_84)])), (tq, .inl (cI, 6, .inl (nF tn9_84)))] := hD
    have hch4 := hE84
    refine lv_iload hx hb dX5_book_87 (lv_at hl 6 rfl) ?_
    refine r_lald (i := V3) (v := lN ((rwF w slip kd num h V0 V2 V1) V3)) hx hb hKB.1 hP 8 1 rfl rfl (by omega) (by decide) (rfl) dX5_book_89 ?_
    refine lv_aload_n hx hb dX5_book_90 rfl (lv_at hl 2 rfl) ?_
    refine va_get (D := D) (ci := 5) (v := .ref pq) (C := RX5) (T := TX5) (N := 6) hx hb hts hiX5 hown hKB.1 hP 0 rfl rfl 4 (by decide) fl44 (fun _ h9 => h9) rfl dX5_book_91 ?_
    refine lv_iconst (v := nI (1)) hx hb dX5_book_94 (by decide) ?_
    have hPc := hP.sub (ws' := [(pq, .inr (4, [.ref lq, .ref oq, .ref wq, .int (nI h), .ref bq, .ref teq, .ref loq, .ref rq, .ref odq, .int (nI kn), .ref nwq, .ref nxq])), (wq, .inl (cI, 3, .inl (nF w)))]) [1, 2] rfl
    refine r_calll hP hS (va_runV (As := [.int (nI 1)]) (rest := [.long (lN ((rwF w slip kd num h V0 V2 V1) V3))]) ⟨hx, hb, hml, hown, hts⟩ (m_X4_whole l D cI cJ pq lq oq wq h bq teq loq rq odq kn nwq nxq w 1 (by assumption) (hh.2) (by omega)) (cwV 1 hts gX5_book_X4_whole rfl rfl rfl (by decide +kernel) ⟨Nat.le_of_ble_eq_true rfl, Nat.le_of_ble_eq_true rfl⟩) ⟨PR.blind, va_recv hKB.1 hP (ci := 4) (q0 := 1) rfl rfl, fun U hU hW => ⟨rfl, hKB.warm hW, by rw [hU]; exact hPc⟩⟩ rfl rfl hl.1 rfl (lv_room (Nat.le_of_ble_eq_true rfl)) dX5_book_95 ⟨Nat.le_of_ble_eq_true rfl, Nat.le_of_ble_eq_true rfl⟩) (fun r25 H locs hw95 hP hS => ?_)
    have hw95 : r25 = lN (wh w h 1) := hw95
    subst hw95
    refine lv_iload hx hb dX5_book_98 (lv_at hl 7 rfl) ?_
    have hPc := hP.sub (ws' := []) [] rfl
    refine r_calll hP hS (va_runS (As := [.long (lN ((rwF w slip kd num h V0 V2 V1) V3)), .long (lN (wh w h 1)), .int (nI V4)]) (rest := []) ⟨hx, hb, hml, hown, hts⟩ (m_X5_fraction l D cI cJ ((rwF w slip kd num h V0 V2 V1) V3) (wh w h 1) V4 (Nat.lt_of_le_of_lt (rwF_le hh.2 hsl (by omega)) (Nat.lt_of_le_of_lt (wh_lt hw (by rw [Nat.mul_one]; exact Nat.le_trans hh.2 (by decide))) (by decide))) (Nat.lt_of_le_of_lt (wh_lt hw (by rw [Nat.mul_one]; exact Nat.le_trans hh.2 (by decide))) (by decide)) (hV4)) (va_cwS 3 hts gX5_book_X5_fraction rfl rfl rfl (by decide +kernel) ⟨Nat.le_of_ble_eq_true rfl, Nat.le_of_ble_eq_true rfl⟩) ⟨PR.blind, fun U hU hW => ⟨rfl, hKB.warm hW, by rw [hU]; exact hPc⟩⟩ rfl rfl hl.1 rfl (lv_room (Nat.le_of_ble_eq_true rfl)) dX5_book_100 ⟨Nat.le_of_ble_eq_true rfl, Nat.le_of_ble_eq_true rfl⟩) (fun r26 H locs hw100 hP hS => ?_)
    have hw100 : r26 = lN (lwst ((rwF w slip kd num h V0 V2 V1) V3) (wh w h 1) V4) := hw100
    subst hw100
    exact w_lret hx hb hr hlk hQ hAe (fb9_84, ft9_84, fl9_84, rwF w slip kd num h V0 V2 V1, fch9_84, tn9_84, al9_84) hP hD hS (by refine ⟨?_, hCI.c hch4⟩; simp only [aLv, c4, c11, c19, c43, c51, Bool.and_self]; rw [if_pos c66, tN_n (show V0 < 2 ^ 31 by omega), tN_n (show V2 < 2 ^ 31 by omega), tN_n (show V1 < 2 ^ 31 by omega), tN_n (show V3 < 2 ^ 31 by omega), tN_n (show V4 < 2 ^ 31 by omega)]) dX5_book_103
  refine lv_ldc2 hx hb hown kl130 dX5_book_69 ?_
  refine lv_iload hx hb dX5_book_72 (lv_at hl 0 rfl) ?_
  refine lv_i2l (v := (rfo true true).toInt64) hx hb dX5_book_74 rfl ?_
  refine lv_ladd hx hb dX5_book_75  ?_
  exact w_lret hx hb hr hlk hQ hAe (fb, ft, fl, fr2, fch, tn, al) hP hD hS (by refine ⟨?_, hCI⟩; first | (simp only [aLv, c4, c43, Bool.false_and, Bool.and_false, Bool.true_and, Bool.and_true]; rw [if_neg c66]; rfl) | (simp only [aLv, c4, c43, c51, Bool.false_and, Bool.and_false, Bool.true_and, Bool.and_true]; rw [if_neg c66]; rfl) | (simp only [aLv, c4, c11, c43, Bool.false_and, Bool.and_false, Bool.true_and, Bool.and_true]; rw [if_neg c66]; rfl) | (simp only [aLv, c4, c11, c43, c51, Bool.false_and, Bool.and_false, Bool.true_and, Bool.and_true]; rw [if_neg c66]; rfl) | (simp only [aLv, c4, c11, c19, c43, Bool.false_and, Bool.and_false, Bool.true_and, Bool.and_true]; rw [if_neg c66]; rfl) | (simp only [aLv, c4, c11, c19, c43, c51, Bool.false_and, Bool.and_false, Bool.true_and, Bool.and_true]; rw [if_neg c66]; rfl) ) dX5_book_76


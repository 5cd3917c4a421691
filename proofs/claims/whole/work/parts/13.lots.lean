set_option maxHeartbeats 4000000 in
set_option maxRecDepth 100000 in
theorem m_X2_makeGreaterOnes (l : Launch) (D : va_G) (cI cJ : ClassId) (tT : Nat) (sz : Nat) (oq : Nat) (lq : Nat) (smq : Nat) (laq : Nat) (grq : Nat) (chq : Nat) (cq : Nat) (sm : Nat → Nat) (la : Nat → Nat) (gr : Nat → Nat) (zz : Nat) (hz : zz < 4) (hsm : ∀ j, j < fT (zz + 1) → sm j = SM j) (hla : ∀ j, j < fT (zz + 1) → la j = LA j) (hgr : gD gr (fT zz) (fT zz) 0) : Met l yX2_makeGreaterOnes wsX2_makeGreaterOnes ({ frames := 0, cells := 0, slots := 0, locals := 0 }) (PXT D cI cJ tT [(oq, .inr (2, [.ref lq, .ref smq, .ref laq, .ref grq, .ref chq, .ref cq])), (smq, .inl (cI, 210, .inl (nF sm))), (laq, .inl (cI, 210, .inl (nF la))), (grq, .inl (cI, 504, .inl (nF gr)))] sz [.ref oq, .int (nI zz)]) (QWv D (S := (Nat → Nat) × (Nat → Nat) × (Nat → Nat)) [(oq, .inr (2, [.ref lq, .ref smq, .ref laq, .ref grq, .ref chq, .ref cq])), (smq, .inl (cI, 210, .inl (nF sm))), (laq, .inl (cI, 210, .inl (nF la))), (grq, .inl (cI, 504, .inl (nF gr)))] sz (fun u => (∀ j, j < fT (zz + 2) → u.1 j = SM j) ∧ (∀ j, j < fT (zz + 2) → u.2.1 j = LA j) ∧ gD u.2.2 (fT zz) (fT (zz + 1)) 0) (fun u => [(oq, .inr (2, [.ref lq, .ref smq, .ref laq, .ref grq, .ref chq, .ref cq])), (smq, .inl (cI, 210, .inl (nF u.1))), (laq, .inl (cI, 210, .inl (nF u.2.1))), (grq, .inl (cI, 504, .inl (nF u.2.2)))])) 0 0 (va_A [(oq, .inr (2, [.ref lq, .ref smq, .ref laq, .ref grq, .ref chq, .ref cq])), (smq, .inl (cI, 210, .inl (nF sm))), (laq, .inl (cI, 210, .inl (nF la))), (grq, .inl (cI, 504, .inl (nF gr)))] sz) := by
  refine met_XT (cc := cX2_makeGreaterOnes) (maxL := 5) (ret := none) (by decide) rfl (Nat.le_of_ble_eq_true rfl) ?_
  intro p e s m args below meth c Q ls A hQ hAe hFT hAt hKB hP hD hA hl
  obtain ⟨hx, hb, hr, hml, hlk, hts, hown, hnm⟩ := hAt
  have hown : s.vm.findClass RX2 = some m.cls := hown
  have hS : va_S A s.heap s.heap [] := va_S.rf
  have hl : lv_has ls 5 [(0, .ref oq), (1, .int (nI zz))] := hl
  have fl18 := hts (.fieldLink RX2 18 "TaughtTongues$Lots" "FIRST" "[I") (by decide +kernel)
  have hiX2 : ∀ w ∈ u_ws RX2 TX2 6, w ∈ wsX2_makeGreaterOnes := by decide +kernel
  have fl15 := hts (.fieldLink RX2 15 "TaughtTongues$Lots" "last" "[I") (by decide +kernel)
  have fl21 := hts (.fieldLink RX2 21 "TaughtTongues$Lots" "greater" "[I") (by decide +kernel)
  have fl11 := hts (.fieldLink RX2 11 "TaughtTongues$Lots" "smaller" "[I") (by decide +kernel)
  have hN := tb_NXi zz hz
  refine va_gets hx hb hFT.1 hS hown fl18 (fun _ h9 => h9) dX2_makeGreaterOnes_0 ?_
  refine lv_iload_n hx hb dX2_makeGreaterOnes_3 rfl (lv_at hl 1 rfl) ?_
  refine lv_iconst (v := nI (1)) hx hb dX2_makeGreaterOnes_4 (by decide) ?_
  refine r_iadd (a := zz) (b := 1) hx hb dX2_makeGreaterOnes_5  ?_
  refine r_ti (i := zz + 1) hx hb hFT hS (by omega) dX2_makeGreaterOnes_6 ?_
  refine lv_istore_n (lv' := [(2, .int (nI (fT (zz + 1)))), (0, .ref oq), (1, .int (nI zz))]) hx hb dX2_makeGreaterOnes_7 rfl hl (by decide) rfl (fun ls hl => ?_)
  refine va_gets hx hb hFT.1 hS hown fl18 (fun _ h9 => h9) dX2_makeGreaterOnes_8 ?_
  refine lv_iload_n hx hb dX2_makeGreaterOnes_11 rfl (lv_at hl 2 rfl) ?_
  refine r_ti (i := zz) hx hb hFT hS (by omega) dX2_makeGreaterOnes_12 ?_
  refine lv_istore_n (lv' := [(3, .int (nI (fT zz))), (2, .int (nI (fT (zz + 1)))), (0, .ref oq), (1, .int (nI zz))]) hx hb dX2_makeGreaterOnes_13 rfl hl (by decide) rfl (fun ls hl => ?_)
  have hw1 : nI (fT (zz + 1)) = nI (NX (fT zz)) := by rw [hN.1]
  rw [hw1] at hl
  have L14 : ∀ (n : Nat) (lt : Nat) (sm3 : Nat → Nat) (la3 : Nat → Nat) (gr3 : Nat → Nat) (H : Heap) (locs : List Loc) (ls : Array Slot), fT (zz + 1) - lt < n → (fT zz ≤ lt ∧ lt ≤ fT (zz + 1)) → (∀ j, j < NX lt → sm3 j = SM j) → (∀ j, j < NX lt → la3 j = LA j) → (gD gr3 (fT zz) lt 0) → va_P D vwCl [(oq, .inr (2, [.ref lq, .ref smq, .ref laq, .ref grq, .ref chq, .ref cq])), (smq, .inl (cI, 210, .inl (nF sm3))), (laq, .inl (cI, 210, .inl (nF la3))), (grq, .inl (cI, 504, .inl (nF gr3)))] H → va_D A [(oq, .inr (2, [.ref lq, .ref smq, .ref laq, .ref grq, .ref chq, .ref cq])), (smq, .inl (cI, 210, .inl (nF sm3))), (laq, .inl (cI, 210, .inl (nF la3))), (grq, .inl (cI, 504, .inl (nF gr3)))] → va_S A s.heap H locs → lv_has ls 5 [(3, .int (nI lt)), (2, .int (nI (NX lt))), (0, .ref oq), (1, .int (nI zz))] → W p l e ({ frames := 0, cells := 0, slots := 0, locals := 0 }) s m args below meth c H locs 0 0 Q (F0 m 14 ls []) := by
    intro n
    induction n with
    | zero => intro lt sm3 la3 gr3 H locs ls hm; exact absurd hm (Nat.not_lt_zero _)
    | succ n ih14 =>
      intro lt sm3 la3 gr3 H locs ls hm hlt hs3 hl3 hg3 hP hD hS hl
      refine lv_iload_n hx hb dX2_makeGreaterOnes_14 rfl (lv_at hl 0 rfl) ?_
      refine va_gets hx hb hFT.1 hS hown fl18 (fun _ h9 => h9) dX2_makeGreaterOnes_15 ?_
      refine lv_iload_n hx hb dX2_makeGreaterOnes_18 rfl (lv_at hl 3 rfl) ?_
      refine lv_iconst (v := nI (1)) hx hb dX2_makeGreaterOnes_19 (by decide) ?_
      refine r_iadd (a := zz) (b := 1) hx hb dX2_makeGreaterOnes_20  ?_
      refine r_ti (i := zz + 1) hx hb hFT hS (by omega) dX2_makeGreaterOnes_21 ?_
      refine r_icmp_ge (a := lt) (b := fT (zz + 1)) (tgt := 83) hx hb dX2_makeGreaterOnes_22 (by decide) (by omega) (by omega)  (fun c22 => ?_) (fun c22 => ?_)
      · skip
        obtain rfl : lt = fT (zz + 1) := by omega
        exact w_vret hx hb hr hlk hQ hAe (sm3, la3, gr3) hP hD hS (by rw [hN.2.1] at hs3 hl3; exact ⟨hs3, hl3, hg3⟩) dX2_makeGreaterOnes_83
      have hl84 : lt < 84 := by omega
      have hla6 := tb_LA lt (by omega)
      have hnl := tb_NXl lt hl84
      have hlo := tb_lo lt hl84
      refine lv_aload_n hx hb dX2_makeGreaterOnes_25 rfl (lv_at hl 2 rfl) ?_
      refine va_get (D := D) (ci := 2) (v := .ref laq) (C := RX2) (T := TX2) (N := 6) hx hb hts hiX2 hown hKB.1 hP 0 rfl rfl 2 (by decide) fl15 (fun _ h9 => h9) rfl dX2_makeGreaterOnes_26 ?_
      refine lv_iload_n hx hb dX2_makeGreaterOnes_29 rfl (lv_at hl 0 rfl) ?_
      refine r_iald (i := lt) (v := nI (LA lt)) hx hb hKB.1 hP 2 0 rfl rfl (by omega) (by decide) (congrArg nI (hl3 lt hlo)) dX2_makeGreaterOnes_30 ?_
      refine lv_istore (lv' := [(4, .int (nI (LA lt))), (3, .int (nI lt)), (2, .int (nI (NX lt))), (0, .ref oq), (1, .int (nI zz))]) hx hb dX2_makeGreaterOnes_31 hl (by decide) rfl (fun ls hl => ?_)
      have hw2 : nI (NX lt) = nI (NX lt + (LA lt - LA lt)) := by rw [Nat.sub_self]; rfl
      rw [hw2] at hl
      have L33 : ∀ (n : Nat) (sy : Nat) (sm4 : Nat → Nat) (la4 : Nat → Nat) (gr4 : Nat → Nat) (H : Heap) (locs : List Loc) (ls : Array Slot), 6 - sy < n → (LA lt ≤ sy ∧ sy ≤ 6) → (∀ j, j < NX lt + (sy - LA lt) → sm4 j = SM j) → (∀ j, j < NX lt + (sy - LA lt) → la4 j = LA j) → (gD gr4 (fT zz) lt sy) → va_P D vwCl [(oq, .inr (2, [.ref lq, .ref smq, .ref laq, .ref grq, .ref chq, .ref cq])), (smq, .inl (cI, 210, .inl (nF sm4))), (laq, .inl (cI, 210, .inl (nF la4))), (grq, .inl (cI, 504, .inl (nF gr4)))] H → va_D A [(oq, .inr (2, [.ref lq, .ref smq, .ref laq, .ref grq, .ref chq, .ref cq])), (smq, .inl (cI, 210, .inl (nF sm4))), (laq, .inl (cI, 210, .inl (nF la4))), (grq, .inl (cI, 504, .inl (nF gr4)))] → va_S A s.heap H locs → lv_has ls 5 [(4, .int (nI sy)), (3, .int (nI lt)), (2, .int (nI (NX lt + (sy - LA lt)))), (0, .ref oq), (1, .int (nI zz))] → W p l e ({ frames := 0, cells := 0, slots := 0, locals := 0 }) s m args below meth c H locs 0 0 Q (F0 m 33 ls []) := by
        intro n
        induction n with
        | zero => intro sy sm4 la4 gr4 H locs ls hm; exact absurd hm (Nat.not_lt_zero _)
        | succ n ih33 =>
          intro sy sm4 la4 gr4 H locs ls hm hsy hs4 hl4 hg4 hP hD hS hl
          refine lv_iload hx hb dX2_makeGreaterOnes_33 (lv_at hl 0 rfl) ?_
          refine lv_bipush (v := nI (6)) hx hb dX2_makeGreaterOnes_35 (by decide) ?_
          refine r_icmp_ge (a := sy) (b := 6) (tgt := 77) hx hb dX2_makeGreaterOnes_37 (by decide) (by omega) (by omega)  (fun c37 => ?_) (fun c37 => ?_)
          · skip
            obtain rfl : 6 = sy := by omega
            rw [← tb_NX lt hl84] at hs4 hl4
            have hg4 := gD_n hg4 0 (Nat.zero_le _)
            refine lv_iinc (v := nI (lt + 1)) (lv' := [(3, .int (nI (lt + 1))), (4, .int (nI 6)), (2, .int (nI (NX lt + (6 - LA lt)))), (0, .ref oq), (1, .int (nI zz))]) hx hb dX2_makeGreaterOnes_77 hl (k := 1) rfl (n_inc _ 1) (by decide) rfl (fun ls hl => ?_)
            have hw3 : nI (NX lt + (6 - LA lt)) = nI (NX (lt + 1)) := by rw [tb_NX lt hl84]
            rw [hw3] at hl
            refine lv_goto (tgt := 14) hx hb dX2_makeGreaterOnes_80 (by decide) ?_
            exact ih14 (lt + 1) sm4 la4 gr4 _ _ _ (by omega) (by omega) (hs4) (hl4) (hg4) hP hD hS (lv_sub hl [0, 2, 3, 4] rfl)
          have hf := tb_mk0 lt hl84 sy c37 hsy.1
          have hstep : NX lt + (sy + 1 - LA lt) = NX lt + (sy - LA lt) + 1 := by omega
          refine lv_aload_n hx hb dX2_makeGreaterOnes_40 rfl (lv_at hl 3 rfl) ?_
          refine va_get (D := D) (ci := 2) (v := .ref grq) (C := RX2) (T := TX2) (N := 6) hx hb hts hiX2 hown hKB.1 hP 0 rfl rfl 3 (by decide) fl21 (fun _ h9 => h9) rfl dX2_makeGreaterOnes_41 ?_
          refine lv_iload_n hx hb dX2_makeGreaterOnes_44 rfl (lv_at hl 1 rfl) ?_
          refine lv_bipush (v := nI (6)) hx hb dX2_makeGreaterOnes_45 (by decide) ?_
          refine r_imul (a := lt) (b := 6) hx hb dX2_makeGreaterOnes_47  ?_
          refine lv_iload hx hb dX2_makeGreaterOnes_48 (lv_at hl 0 rfl) ?_
          refine r_iadd (a := lt * 6) (b := sy) hx hb dX2_makeGreaterOnes_50  ?_
          refine lv_iload_n hx hb dX2_makeGreaterOnes_51 rfl (lv_at hl 2 rfl) ?_
          refine r_iastN (i := (lt * 6) + sy) hx hb hKB.1 hP hD hS 3 0 rfl rfl (by omega) (by decide) dX2_makeGreaterOnes_52 (fun H locs hP hD hS => ?_)
          have hP : va_P D vwCl [(oq, .inr (2, [.ref lq, .ref smq, .ref laq, .ref grq, .ref chq, .ref cq])), (smq, .inl (cI, 210, .inl (nF sm4))), (laq, .inl (cI, 210, .inl (nF la4))), (grq, .inl (cI, 504, .inl (nF (nu gr4 ((lt * 6) + sy) (NX lt + (sy - LA lt))))))] _ := hP
          have hD : va_D A [(oq, .inr (2, [.ref lq, .ref smq, .ref laq, .ref grq, .ref chq, .ref cq])), (smq, .inl (cI, 210, .inl (nF sm4))), (laq, .inl (cI, 210, .inl (nF la4))), (grq, .inl (cI, 504, .inl (nF (nu gr4 ((lt * 6) + sy) (NX lt + (sy - LA lt))))))] := hD
          refine lv_aload_n hx hb dX2_makeGreaterOnes_53 rfl (lv_at hl 3 rfl) ?_
          refine va_get (D := D) (ci := 2) (v := .ref smq) (C := RX2) (T := TX2) (N := 6) hx hb hts hiX2 hown hKB.1 hP 0 rfl rfl 1 (by decide) fl11 (fun _ h9 => h9) rfl dX2_makeGreaterOnes_54 ?_
          refine lv_iload_n hx hb dX2_makeGreaterOnes_57 rfl (lv_at hl 2 rfl) ?_
          refine lv_iload_n hx hb dX2_makeGreaterOnes_58 rfl (lv_at hl 1 rfl) ?_
          refine r_iastN (i := NX lt + (sy - LA lt)) hx hb hKB.1 hP hD hS 1 0 rfl rfl (by omega) (by decide) dX2_makeGreaterOnes_59 (fun H locs hP hD hS => ?_)
          have hP : va_P D vwCl [(oq, .inr (2, [.ref lq, .ref smq, .ref laq, .ref grq, .ref chq, .ref cq])), (smq, .inl (cI, 210, .inl (nF (nu sm4 (NX lt + (sy - LA lt)) lt)))), (laq, .inl (cI, 210, .inl (nF la4))), (grq, .inl (cI, 504, .inl (nF (nu gr4 ((lt * 6) + sy) (NX lt + (sy - LA lt))))))] _ := hP
          have hD : va_D A [(oq, .inr (2, [.ref lq, .ref smq, .ref laq, .ref grq, .ref chq, .ref cq])), (smq, .inl (cI, 210, .inl (nF (nu sm4 (NX lt + (sy - LA lt)) lt)))), (laq, .inl (cI, 210, .inl (nF la4))), (grq, .inl (cI, 504, .inl (nF (nu gr4 ((lt * 6) + sy) (NX lt + (sy - LA lt))))))] := hD
          refine lv_aload_n hx hb dX2_makeGreaterOnes_60 rfl (lv_at hl 3 rfl) ?_
          refine va_get (D := D) (ci := 2) (v := .ref laq) (C := RX2) (T := TX2) (N := 6) hx hb hts hiX2 hown hKB.1 hP 0 rfl rfl 2 (by decide) fl15 (fun _ h9 => h9) rfl dX2_makeGreaterOnes_61 ?_
          refine lv_iload_n hx hb dX2_makeGreaterOnes_64 rfl (lv_at hl 2 rfl) ?_
          refine lv_iload hx hb dX2_makeGreaterOnes_65 (lv_at hl 0 rfl) ?_
          refine r_iastN (i := NX lt + (sy - LA lt)) hx hb hKB.1 hP hD hS 2 0 rfl rfl (by omega) (by decide) dX2_makeGreaterOnes_67 (fun H locs hP hD hS => ?_)
          have hP : va_P D vwCl [(oq, .inr (2, [.ref lq, .ref smq, .ref laq, .ref grq, .ref chq, .ref cq])), (smq, .inl (cI, 210, .inl (nF (nu sm4 (NX lt + (sy - LA lt)) lt)))), (laq, .inl (cI, 210, .inl (nF (nu la4 (NX lt + (sy - LA lt)) sy)))), (grq, .inl (cI, 504, .inl (nF (nu gr4 ((lt * 6) + sy) (NX lt + (sy - LA lt))))))] _ := hP
          have hD : va_D A [(oq, .inr (2, [.ref lq, .ref smq, .ref laq, .ref grq, .ref chq, .ref cq])), (smq, .inl (cI, 210, .inl (nF (nu sm4 (NX lt + (sy - LA lt)) lt)))), (laq, .inl (cI, 210, .inl (nF (nu la4 (NX lt + (sy - LA lt)) sy)))), (grq, .inl (cI, 504, .inl (nF (nu gr4 ((lt * 6) + sy) (NX lt + (sy - LA lt))))))] := hD
          refine lv_iinc (v := nI ((NX lt + (sy - LA lt)) + 1)) (lv' := [(2, .int (nI ((NX lt + (sy - LA lt)) + 1))), (4, .int (nI sy)), (3, .int (nI lt)), (0, .ref oq), (1, .int (nI zz))]) hx hb dX2_makeGreaterOnes_68 hl (k := 2) rfl (n_inc _ 1) (by decide) rfl (fun ls hl => ?_)
          refine lv_iinc (v := nI (sy + 1)) (lv' := [(4, .int (nI (sy + 1))), (2, .int (nI ((NX lt + (sy - LA lt)) + 1))), (3, .int (nI lt)), (0, .ref oq), (1, .int (nI zz))]) hx hb dX2_makeGreaterOnes_71 hl (k := 1) rfl (n_inc _ 1) (by decide) rfl (fun ls hl => ?_)
          have hw4 : nI ((NX lt + (sy - LA lt)) + 1) = nI (NX lt + (sy + 1 - LA lt)) := by rw [hstep]
          rw [hw4] at hl
          refine lv_goto (tgt := 33) hx hb dX2_makeGreaterOnes_74 (by decide) ?_
          exact ih33 (sy + 1) (nu sm4 (NX lt + (sy - LA lt)) lt) (nu la4 (NX lt + (sy - LA lt)) sy) (nu gr4 ((lt * 6) + sy) (NX lt + (sy - LA lt))) _ _ _ (by omega) (by omega) (by rw [hstep]; exact ag_s hs4 hf.2.1.symm) (by rw [hstep]; exact ag_s hl4 hf.2.2.symm) (gD_s hg4 hlt.1 c37 hf.1.symm) hP hD hS (lv_sub hl [0, 2, 1, 3, 4] rfl)
      exact L33 (6 - (LA lt) + 1) (LA lt) sm3 la3 gr3 _ _ _ (Nat.lt_succ_self _) (⟨Nat.le_refl _, by omega⟩) (by rw [Nat.sub_self]; exact hs3) (by rw [Nat.sub_self]; exact hl3) (gD_up hg3) hP hD hS hl
  exact L14 (fT (zz + 1) - (fT zz) + 1) (fT zz) sm la gr _ _ _ (Nat.lt_succ_self _) (⟨Nat.le_refl _, hN.2.2.2.1⟩) (by rw [hN.1]; exact hsm) (by rw [hN.1]; exact hla) (hgr) hP hD hS hl

set_option maxHeartbeats 4000000 in
set_option maxRecDepth 100000 in
theorem m_X2_joinGreaterOnes (l : Launch) (D : va_G) (cI cJ : ClassId) (tT : Nat) (sz : Nat) (oq : Nat) (lq : Nat) (smq : Nat) (laq : Nat) (grq : Nat) (chq : Nat) (cq : Nat) (sm : Nat → Nat) (la : Nat → Nat) (gr : Nat → Nat) (zz : Nat) (hz : zz < 4) (hsm : ∀ j, j < fT (zz + 2) → sm j = SM j) (hla : ∀ j, j < fT (zz + 2) → la j = LA j) (hgr : gD gr (fT zz) (fT (zz + 1)) 0) : Met l yX2_joinGreaterOnes wsX2_joinGreaterOnes ({ frames := 0, cells := 0, slots := 0, locals := 0 }) (PXT D cI cJ tT [(oq, .inr (2, [.ref lq, .ref smq, .ref laq, .ref grq, .ref chq, .ref cq])), (smq, .inl (cI, 210, .inl (nF sm))), (laq, .inl (cI, 210, .inl (nF la))), (grq, .inl (cI, 504, .inl (nF gr)))] sz [.ref oq, .int (nI zz)]) (QWv D (S := Nat → Nat) [(oq, .inr (2, [.ref lq, .ref smq, .ref laq, .ref grq, .ref chq, .ref cq])), (smq, .inl (cI, 210, .inl (nF sm))), (laq, .inl (cI, 210, .inl (nF la))), (grq, .inl (cI, 504, .inl (nF gr)))] sz (fun u => gJ u (fT (zz + 1)) (fT (zz + 1)) 0) (fun gr2 => [(oq, .inr (2, [.ref lq, .ref smq, .ref laq, .ref grq, .ref chq, .ref cq])), (smq, .inl (cI, 210, .inl (nF sm))), (laq, .inl (cI, 210, .inl (nF la))), (grq, .inl (cI, 504, .inl (nF gr2)))])) 0 0 (va_A [(oq, .inr (2, [.ref lq, .ref smq, .ref laq, .ref grq, .ref chq, .ref cq])), (smq, .inl (cI, 210, .inl (nF sm))), (laq, .inl (cI, 210, .inl (nF la))), (grq, .inl (cI, 504, .inl (nF gr)))] sz) := by
  refine met_XT (cc := cX2_joinGreaterOnes) (maxL := 5) (ret := none) (by decide) rfl (Nat.le_of_ble_eq_true rfl) ?_
  intro p e s m args below meth c Q ls A hQ hAe hFT hAt hKB hP hD hA hl
  obtain ⟨hx, hb, hr, hml, hlk, hts, hown, hnm⟩ := hAt
  have hown : s.vm.findClass RX2 = some m.cls := hown
  have hS : va_S A s.heap s.heap [] := va_S.rf
  have hl : lv_has ls 5 [(0, .ref oq), (1, .int (nI zz))] := hl
  have fl18 := hts (.fieldLink RX2 18 "TaughtTongues$Lots" "FIRST" "[I") (by decide +kernel)
  have hiX2 : ∀ w ∈ u_ws RX2 TX2 6, w ∈ wsX2_joinGreaterOnes := by decide +kernel
  have fl15 := hts (.fieldLink RX2 15 "TaughtTongues$Lots" "last" "[I") (by decide +kernel)
  have fl21 := hts (.fieldLink RX2 21 "TaughtTongues$Lots" "greater" "[I") (by decide +kernel)
  have fl11 := hts (.fieldLink RX2 11 "TaughtTongues$Lots" "smaller" "[I") (by decide +kernel)
  have hN := tb_NXi zz hz
  refine va_gets hx hb hFT.1 hS hown fl18 (fun _ h9 => h9) dX2_joinGreaterOnes_0 ?_
  refine lv_iload_n hx hb dX2_joinGreaterOnes_3 rfl (lv_at hl 1 rfl) ?_
  refine r_ti (i := zz) hx hb hFT hS (by omega) dX2_joinGreaterOnes_4 ?_
  refine lv_istore_n (lv' := [(2, .int (nI (fT zz))), (0, .ref oq), (1, .int (nI zz))]) hx hb dX2_joinGreaterOnes_5 rfl hl (by decide) rfl (fun ls hl => ?_)
  have L6 : ∀ (n : Nat) (lt : Nat) (gr3 : Nat → Nat) (H : Heap) (locs : List Loc) (ls : Array Slot), fT (zz + 1) - lt < n → (fT zz ≤ lt ∧ lt ≤ fT (zz + 1)) → (gJ gr3 (fT (zz + 1)) lt 0) → va_P D vwCl [(oq, .inr (2, [.ref lq, .ref smq, .ref laq, .ref grq, .ref chq, .ref cq])), (smq, .inl (cI, 210, .inl (nF sm))), (laq, .inl (cI, 210, .inl (nF la))), (grq, .inl (cI, 504, .inl (nF gr3)))] H → va_D A [(oq, .inr (2, [.ref lq, .ref smq, .ref laq, .ref grq, .ref chq, .ref cq])), (smq, .inl (cI, 210, .inl (nF sm))), (laq, .inl (cI, 210, .inl (nF la))), (grq, .inl (cI, 504, .inl (nF gr3)))] → va_S A s.heap H locs → lv_has ls 5 [(2, .int (nI lt)), (0, .ref oq), (1, .int (nI zz))] → W p l e ({ frames := 0, cells := 0, slots := 0, locals := 0 }) s m args below meth c H locs 0 0 Q (F0 m 6 ls []) := by
    intro n
    induction n with
    | zero => intro lt gr3 H locs ls hm; exact absurd hm (Nat.not_lt_zero _)
    | succ n ih6 =>
      intro lt gr3 H locs ls hm hlt hg3 hP hD hS hl
      refine lv_iload_n hx hb dX2_joinGreaterOnes_6 rfl (lv_at hl 0 rfl) ?_
      refine va_gets hx hb hFT.1 hS hown fl18 (fun _ h9 => h9) dX2_joinGreaterOnes_7 ?_
      refine lv_iload_n hx hb dX2_joinGreaterOnes_10 rfl (lv_at hl 2 rfl) ?_
      refine lv_iconst (v := nI (1)) hx hb dX2_joinGreaterOnes_11 (by decide) ?_
      refine r_iadd (a := zz) (b := 1) hx hb dX2_joinGreaterOnes_12  ?_
      refine r_ti (i := zz + 1) hx hb hFT hS (by omega) dX2_joinGreaterOnes_13 ?_
      refine r_icmp_ge (a := lt) (b := fT (zz + 1)) (tgt := 87) hx hb dX2_joinGreaterOnes_14 (by decide) (by omega) (by omega)  (fun c14 => ?_) (fun c14 => ?_)
      · skip
        obtain rfl : lt = fT (zz + 1) := by omega
        exact w_vret hx hb hr hlk hQ hAe gr3 hP hD hS (hg3) dX2_joinGreaterOnes_87
      have hl84 : lt < 84 := by omega
      have hla6 := tb_LA lt (by omega)
      have hsm8 := tb_SM lt (by omega)
      have hlo := tb_lo lt hl84
      have hle : fT (zz + 1) ≤ fT (zz + 2) := (tb_le zz hz)
      refine lv_iconst (v := nI (0)) hx hb dX2_joinGreaterOnes_17 (by decide) ?_
      refine lv_istore_n (lv' := [(3, .int (nI 0)), (2, .int (nI lt)), (0, .ref oq), (1, .int (nI zz))]) hx hb dX2_joinGreaterOnes_18 rfl hl (by decide) rfl (fun ls hl => ?_)
      have L19 : ∀ (n : Nat) (sy : Nat) (gr4 : Nat → Nat) (H : Heap) (locs : List Loc) (ls : Array Slot), 6 - sy < n → (sy ≤ LA lt) → (gJ gr4 (fT (zz + 1)) lt sy) → va_P D vwCl [(oq, .inr (2, [.ref lq, .ref smq, .ref laq, .ref grq, .ref chq, .ref cq])), (smq, .inl (cI, 210, .inl (nF sm))), (laq, .inl (cI, 210, .inl (nF la))), (grq, .inl (cI, 504, .inl (nF gr4)))] H → va_D A [(oq, .inr (2, [.ref lq, .ref smq, .ref laq, .ref grq, .ref chq, .ref cq])), (smq, .inl (cI, 210, .inl (nF sm))), (laq, .inl (cI, 210, .inl (nF la))), (grq, .inl (cI, 504, .inl (nF gr4)))] → va_S A s.heap H locs → lv_has ls 5 [(3, .int (nI sy)), (2, .int (nI lt)), (0, .ref oq), (1, .int (nI zz))] → W p l e ({ frames := 0, cells := 0, slots := 0, locals := 0 }) s m args below meth c H locs 0 0 Q (F0 m 19 ls []) := by
        intro n
        induction n with
        | zero => intro sy gr4 H locs ls hm; exact absurd hm (Nat.not_lt_zero _)
        | succ n ih19 =>
          intro sy gr4 H locs ls hm hsy hg4 hP hD hS hl
          refine lv_iload_n hx hb dX2_joinGreaterOnes_19 rfl (lv_at hl 0 rfl) ?_
          refine lv_aload_n hx hb dX2_joinGreaterOnes_20 rfl (lv_at hl 2 rfl) ?_
          refine va_get (D := D) (ci := 2) (v := .ref laq) (C := RX2) (T := TX2) (N := 6) hx hb hts hiX2 hown hKB.1 hP 0 rfl rfl 2 (by decide) fl15 (fun _ h9 => h9) rfl dX2_joinGreaterOnes_21 ?_
          refine lv_iload_n hx hb dX2_joinGreaterOnes_24 rfl (lv_at hl 1 rfl) ?_
          refine r_iald (i := lt) (v := nI (LA lt)) hx hb hKB.1 hP 2 0 rfl rfl (by omega) (by decide) (congrArg nI (hla lt (by omega))) dX2_joinGreaterOnes_25 ?_
          refine r_icmp_ge (a := sy) (b := LA lt) (tgt := 81) hx hb dX2_joinGreaterOnes_26 (by decide) (by omega) (by omega)  (fun c26 => ?_) (fun c26 => ?_)
          · skip
            refine lv_iinc (v := nI (lt + 1)) (lv' := [(2, .int (nI (lt + 1))), (3, .int (nI sy)), (0, .ref oq), (1, .int (nI zz))]) hx hb dX2_joinGreaterOnes_81 hl (k := 1) rfl (n_inc _ 1) (by decide) rfl (fun ls hl => ?_)
            refine lv_goto (tgt := 6) hx hb dX2_joinGreaterOnes_84 (by decide) ?_
            exact ih6 (lt + 1) gr4 _ _ _ (by omega) (by omega) (gJ_n hg4 (by omega) (by omega)) hP hD hS (lv_sub hl [0, 2, 3] rfl)
          have hf := tb_jn lt hl84 sy c26
          have hf2 := tb_jn2 zz hz lt hl84 ⟨hlt.1, c14⟩ sy c26
          refine lv_aload_n hx hb dX2_joinGreaterOnes_29 rfl (lv_at hl 2 rfl) ?_
          refine va_get (D := D) (ci := 2) (v := .ref grq) (C := RX2) (T := TX2) (N := 6) hx hb hts hiX2 hown hKB.1 hP 0 rfl rfl 3 (by decide) fl21 (fun _ h9 => h9) rfl dX2_joinGreaterOnes_30 ?_
          refine lv_aload_n hx hb dX2_joinGreaterOnes_33 rfl (lv_at hl 2 rfl) ?_
          refine va_get (D := D) (ci := 2) (v := .ref smq) (C := RX2) (T := TX2) (N := 6) hx hb hts hiX2 hown hKB.1 hP 0 rfl rfl 1 (by decide) fl11 (fun _ h9 => h9) rfl dX2_joinGreaterOnes_34 ?_
          refine lv_iload_n hx hb dX2_joinGreaterOnes_37 rfl (lv_at hl 1 rfl) ?_
          refine r_iald (i := lt) (v := nI (SM lt)) hx hb hKB.1 hP 1 0 rfl rfl (by omega) (by decide) (congrArg nI (hsm lt (by omega))) dX2_joinGreaterOnes_38 ?_
          refine lv_bipush (v := nI (6)) hx hb dX2_joinGreaterOnes_39 (by decide) ?_
          refine r_imul (a := SM lt) (b := 6) hx hb dX2_joinGreaterOnes_41  ?_
          refine lv_iload_n hx hb dX2_joinGreaterOnes_42 rfl (lv_at hl 0 rfl) ?_
          refine r_iadd (a := (SM lt) * 6) (b := sy) hx hb dX2_joinGreaterOnes_43  ?_
          refine r_iald (i := ((SM lt) * 6) + sy) (v := nI (GR (SM lt * 6 + sy))) hx hb hKB.1 hP 3 0 rfl rfl (by omega) (by decide) (congrArg nI (hg4.1 (SM lt) sy (by omega) (Or.inl (by omega)))) dX2_joinGreaterOnes_44 ?_
          refine lv_istore (lv' := [(4, .int (nI (GR (SM lt * 6 + sy)))), (3, .int (nI sy)), (2, .int (nI lt)), (0, .ref oq), (1, .int (nI zz))]) hx hb dX2_joinGreaterOnes_45 hl (by decide) rfl (fun ls hl => ?_)
          refine lv_aload_n hx hb dX2_joinGreaterOnes_47 rfl (lv_at hl 3 rfl) ?_
          refine va_get (D := D) (ci := 2) (v := .ref grq) (C := RX2) (T := TX2) (N := 6) hx hb hts hiX2 hown hKB.1 hP 0 rfl rfl 3 (by decide) fl21 (fun _ h9 => h9) rfl dX2_joinGreaterOnes_48 ?_
          refine lv_iload_n hx hb dX2_joinGreaterOnes_51 rfl (lv_at hl 2 rfl) ?_
          refine lv_bipush (v := nI (6)) hx hb dX2_joinGreaterOnes_52 (by decide) ?_
          refine r_imul (a := lt) (b := 6) hx hb dX2_joinGreaterOnes_54  ?_
          refine lv_iload_n hx hb dX2_joinGreaterOnes_55 rfl (lv_at hl 1 rfl) ?_
          refine r_iadd (a := lt * 6) (b := sy) hx hb dX2_joinGreaterOnes_56  ?_
          refine lv_aload_n hx hb dX2_joinGreaterOnes_57 rfl (lv_at hl 3 rfl) ?_
          refine va_get (D := D) (ci := 2) (v := .ref grq) (C := RX2) (T := TX2) (N := 6) hx hb hts hiX2 hown hKB.1 hP 0 rfl rfl 3 (by decide) fl21 (fun _ h9 => h9) rfl dX2_joinGreaterOnes_58 ?_
          refine lv_iload hx hb dX2_joinGreaterOnes_61 (lv_at hl 0 rfl) ?_
          refine lv_bipush (v := nI (6)) hx hb dX2_joinGreaterOnes_63 (by decide) ?_
          refine r_imul (a := GR (SM lt * 6 + sy)) (b := 6) hx hb dX2_joinGreaterOnes_65  ?_
          refine lv_aload_n hx hb dX2_joinGreaterOnes_66 rfl (lv_at hl 3 rfl) ?_
          refine va_get (D := D) (ci := 2) (v := .ref laq) (C := RX2) (T := TX2) (N := 6) hx hb hts hiX2 hown hKB.1 hP 0 rfl rfl 2 (by decide) fl15 (fun _ h9 => h9) rfl dX2_joinGreaterOnes_67 ?_
          refine lv_iload_n hx hb dX2_joinGreaterOnes_70 rfl (lv_at hl 2 rfl) ?_
          refine r_iald (i := lt) (v := nI (LA lt)) hx hb hKB.1 hP 2 0 rfl rfl (by omega) (by decide) (congrArg nI (hla lt (by omega))) dX2_joinGreaterOnes_71 ?_
          refine r_iadd (a := (GR (SM lt * 6 + sy)) * 6) (b := LA lt) hx hb dX2_joinGreaterOnes_72  ?_
          refine r_iald (i := ((GR (SM lt * 6 + sy)) * 6) + (LA lt)) (v := nI (GR (GR (SM lt * 6 + sy) * 6 + LA lt))) hx hb hKB.1 hP 3 0 rfl rfl (by omega) (by decide) (congrArg nI (hg4.2 (GR (SM lt * 6 + sy)) (LA lt) hf2.2.2 hla6 hf.1)) dX2_joinGreaterOnes_73 ?_
          refine r_iastN (i := (lt * 6) + sy) hx hb hKB.1 hP hD hS 3 0 rfl rfl (by omega) (by decide) dX2_joinGreaterOnes_74 (fun H locs hP hD hS => ?_)
          have hP : va_P D vwCl [(oq, .inr (2, [.ref lq, .ref smq, .ref laq, .ref grq, .ref chq, .ref cq])), (smq, .inl (cI, 210, .inl (nF sm))), (laq, .inl (cI, 210, .inl (nF la))), (grq, .inl (cI, 504, .inl (nF (nu gr4 ((lt * 6) + sy) (GR (GR (SM lt * 6 + sy) * 6 + LA lt))))))] _ := hP
          have hD : va_D A [(oq, .inr (2, [.ref lq, .ref smq, .ref laq, .ref grq, .ref chq, .ref cq])), (smq, .inl (cI, 210, .inl (nF sm))), (laq, .inl (cI, 210, .inl (nF la))), (grq, .inl (cI, 504, .inl (nF (nu gr4 ((lt * 6) + sy) (GR (GR (SM lt * 6 + sy) * 6 + LA lt))))))] := hD
          refine lv_iinc (v := nI (sy + 1)) (lv' := [(3, .int (nI (sy + 1))), (4, .int (nI (GR (SM lt * 6 + sy)))), (2, .int (nI lt)), (0, .ref oq), (1, .int (nI zz))]) hx hb dX2_joinGreaterOnes_75 hl (k := 1) rfl (n_inc _ 1) (by decide) rfl (fun ls hl => ?_)
          refine lv_goto (tgt := 19) hx hb dX2_joinGreaterOnes_78 (by decide) ?_
          exact ih19 (sy + 1) (nu gr4 ((lt * 6) + sy) (GR (GR (SM lt * 6 + sy) * 6 + LA lt))) _ _ _ (by omega) (by omega) (gJ_s hg4 (by omega) hf.2.2.symm) hP hD hS (lv_sub hl [0, 2, 3, 4] rfl)
      exact L19 (6 - 0 + 1) 0 gr3 _ _ _ (Nat.lt_succ_self _) (Nat.zero_le _) (hg3) hP hD hS hl
  exact L6 (fT (zz + 1) - (fT zz) + 1) (fT zz) gr _ _ _ (Nat.lt_succ_self _) (⟨Nat.le_refl _, hN.2.2.2.1⟩) (gJ_0 hgr) hP hD hS hl


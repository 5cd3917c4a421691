set_option maxHeartbeats 4000000 in
set_option maxRecDepth 100000 in
theorem law_loop {p : Program} {l : Launch} {e : Env} {s : State} {m : MethodId} {below : List Frame} {meth : Method} {c : Code} {D : va_G} {cI cJ : ClassId} {A : Nat → Prop} {tT b L : Nat} {xs : Nat → Int32} {Q : State → Prop} {xq sq hq lq oq pq req qc htq nq smq laq grq chq cq tq wq bq teq loq rq odq nwq nxq mq mw ms ml mh mr mst mn mth mld mpk mcm : Nat} (hL : L ≤ 3072) (C0 : lw_At p s m meth c b L xs) (hKB : KB D cI cJ s) (hFT : FT tT A s) (hA : ∀ q : Nat, s.heap.size ≤ q → A q) (hbA : ¬ A b) (hAq : ∀ q, A q → s.heap.size ≤ q) (hQ : Q = lw_Z below #[Value.ref b] s) : ∀ (n i : Nat), i ≤ 3078 → L + 6 ≤ i + n → ∀ (H : Heap) (locs : List Loc) (ls : Array Slot), LST D cI cJ A xq sq hq lq oq pq req qc htq nq smq laq grq chq cq tq wq bq teq loq rq odq nwq nxq mq mw ms ml mh mr mst mn mth mld mpk mcm H → va_S A s.heap H locs → lv_has ls 4 (LHS i b xq mq) → W p l e room_1 s m #[Value.ref b] below meth c H locs 36 1755 Q (F0 m 18 ls []) := by
  intro n
  induction n with
  | zero =>
    intro i h1 h2 H locs ls hT hS hl
    obtain ⟨hx, hb, hr, hml, hown, hts0, hX, hbl, hlk, hgv⟩ := C0
    have hts : ∀ w ∈ wsL_law, w.before #[Value.ref b] s = true := fun w h => hts0 w (wsL_law_in w h)
    have hb : c.code = cL_law := hb
    have hown : s.vm.findClass RL = some m.cls := hown
    have hl : lv_has ls 4 [(0, .ref b), (1, .ref xq), (2, .ref mq), (3, .int (nI i))] := hl
    refine lv_iload_n hx hb dL_law_18 rfl (lv_at hl 3 rfl) ?_
    refine lv_aload_n hx hb dL_law_19 rfl (lv_at hl 0 rfl) ?_
    refine va_slen hx hb hX hbl hbA hS dL_law_20 ?_
    refine lv_bipush (v := nI 6) hx hb dL_law_21 (by decide) ?_
    refine lv_isub hx hb dL_law_23 ?_
    refine lv_icmp_gt (tgt := 882) hx hb dL_law_24 (by decide) (fun q => ?_) (fun q => absurd (gt6 hL (by omega) q) (by omega))
    refine lv_iconst (v := 1) hx hb dL_law_882 (by decide) ?_
    subst hQ
    refine va_forget (fun q h => hAq _ (hS.2.2 q h)) ?_
    refine W.widen (k := 600000) (n := 7302250) (by decide) (by decide) ?_
    exact lw_ret hx hb hr hlk dL_law_883
  | succ n ih =>
    intro i h1 h2 H locs ls hT hS hl
    have C1 := C0
    obtain ⟨hx, hb, hr, hml, hown, hts0, hX, hbl, hlk, hgv⟩ := C0
    have hts : ∀ w ∈ wsL_law, w.before #[Value.ref b] s = true := fun w h => hts0 w (wsL_law_in w h)
    have hb : c.code = cL_law := hb
    have hown : s.vm.findClass RL = some m.cls := hown
    have hl : lv_has ls 4 [(0, .ref b), (1, .ref xq), (2, .ref mq), (3, .int (nI i))] := hl
    refine lv_iload_n hx hb dL_law_18 rfl (lv_at hl 3 rfl) ?_
    refine lv_aload_n hx hb dL_law_19 rfl (lv_at hl 0 rfl) ?_
    refine va_slen hx hb hX hbl hbA hS dL_law_20 ?_
    refine lv_bipush (v := nI 6) hx hb dL_law_21 (by decide) ?_
    refine lv_isub hx hb dL_law_23 ?_
    refine lv_icmp_gt (tgt := 882) hx hb dL_law_24 (by decide) (fun q => ?_) (fun q => ?_)
    · skip
      refine lv_iconst (v := 1) hx hb dL_law_882 (by decide) ?_
      subst hQ
      refine va_forget (fun q h => hAq _ (hS.2.2 q h)) ?_
      refine W.widen (k := 600000) (n := 7302250) (by decide) (by decide) ?_
      exact lw_ret hx hb hr hlk dL_law_883
    have hi : i + 6 ≤ L := gt6 hL (by omega) q
    have K : ∀ (H : Heap) (locs : List Loc) (ls : Array Slot), LST D cI cJ A xq sq hq lq oq pq req qc htq nq smq laq grq chq cq tq wq bq teq loq rq odq nwq nxq mq mw ms ml mh mr mst mn mth mld mpk mcm H → va_S A s.heap H locs → lv_has ls 4 (LHS i b xq mq) → W p l e room_1 s m #[Value.ref b] below meth c H locs 36 1755 Q (F0 m 876 ls []) := by
      intro H locs ls hT hS hl
      have hl : lv_has ls 4 [(0, .ref b), (1, .ref xq), (2, .ref mq), (3, .int (nI i))] := hl
      refine lv_iinc (v := nI (i + 6)) (lv' := [(3, .int (nI (i + 6))), (0, .ref b), (1, .ref xq), (2, .ref mq)]) hx hb dL_law_876 hl (k := 3) rfl (n_inc _ 6) (by decide) rfl (fun ls hl => ?_)
      refine lv_goto (tgt := 18) hx hb dL_law_879 (by decide) ?_
      exact ih (i + 6) (by omega) (by omega) H locs ls hT hS (lv_sub hl [1, 2, 3, 0] rfl)
    refine lv_aload_n hx hb dL_law_27 rfl (lv_at hl 0 rfl) ?_
    refine lv_iload_n hx hb dL_law_28 rfl (lv_at hl 3 rfl) ?_
    refine r_sld (i := i) hx hb hX hbl hbA hS (by omega) (by omega) dL_law_29 ?_
    refine lv_bipush (v := nI 31) hx hb dL_law_30 (by decide) ?_
    refine lv_iand hx hb dL_law_32 ?_
    refine lv_topi (fun z ez => ?_)
    clear ez
    by_cases sw0 : z = nI 0
    · rw [sw0]
      refine lv_tableIn (x := nI 0) (off := 107) (tgt := 140) hx hb dL_law_33 (by decide) (by decide) (by decide) (by decide) ?_
      exact law_c0 hL C1 hKB hFT hA hbA hi K hT hS hl
    by_cases sw1 : z = nI 1
    · rw [sw1]
      refine lv_tableIn (x := nI 1) (off := 140) (tgt := 173) hx hb dL_law_33 (by decide) (by decide) (by decide) (by decide) ?_
      exact law_c1 hL C1 hKB hFT hA hbA hi K hT hS hl
    by_cases sw2 : z = nI 2
    · rw [sw2]
      refine lv_tableIn (x := nI 2) (off := 173) (tgt := 206) hx hb dL_law_33 (by decide) (by decide) (by decide) (by decide) ?_
      exact law_c2 hL C1 hKB hFT hA hbA hi K hT hS hl
    by_cases sw3 : z = nI 3
    · rw [sw3]
      refine lv_tableIn (x := nI 3) (off := 196) (tgt := 229) hx hb dL_law_33 (by decide) (by decide) (by decide) (by decide) ?_
      exact law_c3 hL C1 hKB hFT hA hbA hi K hT hS hl
    by_cases sw4 : z = nI 4
    · rw [sw4]
      refine lv_tableIn (x := nI 4) (off := 209) (tgt := 242) hx hb dL_law_33 (by decide) (by decide) (by decide) (by decide) ?_
      exact law_c4 hL C1 hKB hFT hA hbA hi K hT hS hl
    by_cases sw5 : z = nI 5
    · rw [sw5]
      refine lv_tableIn (x := nI 5) (off := 222) (tgt := 255) hx hb dL_law_33 (by decide) (by decide) (by decide) (by decide) ?_
      exact law_c5 hL C1 hKB hFT hA hbA hi K hT hS hl
    by_cases sw6 : z = nI 6
    · rw [sw6]
      refine lv_tableIn (x := nI 6) (off := 235) (tgt := 268) hx hb dL_law_33 (by decide) (by decide) (by decide) (by decide) ?_
      exact law_c6 hL C1 hKB hFT hA hbA hi K hT hS hl
    by_cases sw7 : z = nI 7
    · rw [sw7]
      refine lv_tableIn (x := nI 7) (off := 258) (tgt := 291) hx hb dL_law_33 (by decide) (by decide) (by decide) (by decide) ?_
      exact law_c7 hL C1 hKB hFT hA hbA hi K hT hS hl
    by_cases sw8 : z = nI 8
    · rw [sw8]
      refine lv_tableIn (x := nI 8) (off := 291) (tgt := 324) hx hb dL_law_33 (by decide) (by decide) (by decide) (by decide) ?_
      exact law_c8 hL C1 hKB hFT hA hbA hi K hT hS hl
    by_cases sw9 : z = nI 9
    · rw [sw9]
      refine lv_tableIn (x := nI 9) (off := 304) (tgt := 337) hx hb dL_law_33 (by decide) (by decide) (by decide) (by decide) ?_
      exact law_c9 hL C1 hKB hFT hA hbA hi K hT hS hl
    by_cases sw10 : z = nI 10
    · rw [sw10]
      refine lv_tableIn (x := nI 10) (off := 328) (tgt := 361) hx hb dL_law_33 (by decide) (by decide) (by decide) (by decide) ?_
      exact law_c10 hL C1 hKB hFT hA hbA hi K hT hS hl
    by_cases sw11 : z = nI 11
    · rw [sw11]
      refine lv_tableIn (x := nI 11) (off := 362) (tgt := 395) hx hb dL_law_33 (by decide) (by decide) (by decide) (by decide) ?_
      exact law_c11 hL C1 hKB hFT hA hbA hi K hT hS hl
    by_cases sw12 : z = nI 12
    · rw [sw12]
      refine lv_tableIn (x := nI 12) (off := 375) (tgt := 408) hx hb dL_law_33 (by decide) (by decide) (by decide) (by decide) ?_
      exact law_c12 hL C1 hKB hFT hA hbA hi K hT hS hl
    by_cases sw13 : z = nI 13
    · rw [sw13]
      refine lv_tableIn (x := nI 13) (off := 419) (tgt := 452) hx hb dL_law_33 (by decide) (by decide) (by decide) (by decide) ?_
      exact law_c13 hL C1 hKB hFT hA hbA hi K hT hS hl
    by_cases sw14 : z = nI 14
    · rw [sw14]
      refine lv_tableIn (x := nI 14) (off := 483) (tgt := 516) hx hb dL_law_33 (by decide) (by decide) (by decide) (by decide) ?_
      exact law_c14 hL C1 hKB hFT hA hbA hi K hT hS hl
    by_cases sw15 : z = nI 15
    · rw [sw15]
      refine lv_tableIn (x := nI 15) (off := 537) (tgt := 570) hx hb dL_law_33 (by decide) (by decide) (by decide) (by decide) ?_
      exact law_c15 hL C1 hKB hFT hA hbA hi K hT hS hl
    by_cases sw16 : z = nI 16
    · rw [sw16]
      refine lv_tableIn (x := nI 16) (off := 560) (tgt := 593) hx hb dL_law_33 (by decide) (by decide) (by decide) (by decide) ?_
      exact law_c16 hL C1 hKB hFT hA hbA hi K hT hS hl
    by_cases sw17 : z = nI 17
    · rw [sw17]
      refine lv_tableIn (x := nI 17) (off := 583) (tgt := 616) hx hb dL_law_33 (by decide) (by decide) (by decide) (by decide) ?_
      exact law_c17 hL C1 hKB hFT hA hbA hi K hT hS hl
    by_cases sw18 : z = nI 18
    · rw [sw18]
      refine lv_tableIn (x := nI 18) (off := 647) (tgt := 680) hx hb dL_law_33 (by decide) (by decide) (by decide) (by decide) ?_
      exact law_c18 hL C1 hKB hFT hA hbA hi K hT hS hl
    by_cases sw19 : z = nI 19
    · rw [sw19]
      refine lv_tableIn (x := nI 19) (off := 690) (tgt := 723) hx hb dL_law_33 (by decide) (by decide) (by decide) (by decide) ?_
      exact law_c19 hL C1 hKB hFT hA hbA hi K hT hS hl
    by_cases sw20 : z = nI 20
    · rw [sw20]
      refine lv_tableIn (x := nI 20) (off := 723) (tgt := 756) hx hb dL_law_33 (by decide) (by decide) (by decide) (by decide) ?_
      exact law_c20 hL C1 hKB hFT hA hbA hi K hT hS hl
    by_cases sw21 : z = nI 21
    · rw [sw21]
      refine lv_tableIn (x := nI 21) (off := 777) (tgt := 810) hx hb dL_law_33 (by decide) (by decide) (by decide) (by decide) ?_
      exact law_c21 hL C1 hKB hFT hA hbA hi K hT hS hl
    by_cases sw22 : z = nI 22
    · rw [sw22]
      refine lv_tableIn (x := nI 22) (off := 820) (tgt := 853) hx hb dL_law_33 (by decide) (by decide) (by decide) (by decide) ?_
      exact law_c22 hL C1 hKB hFT hA hbA hi K hT hS hl
    refine lv_tableOut (x := z) (tgt := 876) hx hb dL_law_33 (sw_out (N := 22) (fun j hj => by rcases (show j = 0 ∨ j = 1 ∨ j = 2 ∨ j = 3 ∨ j = 4 ∨ j = 5 ∨ j = 6 ∨ j = 7 ∨ j = 8 ∨ j = 9 ∨ j = 10 ∨ j = 11 ∨ j = 12 ∨ j = 13 ∨ j = 14 ∨ j = 15 ∨ j = 16 ∨ j = 17 ∨ j = 18 ∨ j = 19 ∨ j = 20 ∨ j = 21 ∨ j = 22 by omega) with rfl | rfl | rfl | rfl | rfl | rfl | rfl | rfl | rfl | rfl | rfl | rfl | rfl | rfl | rfl | rfl | rfl | rfl | rfl | rfl | rfl | rfl | rfl <;> assumption)) (by decide) ?_
    exact K H locs ls hT hS hl

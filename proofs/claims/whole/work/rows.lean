section
-- ===== PART A: goes FIRST, ahead of the names: the tables' words, and 'selects' of the private methods out of them =====
/-- a private method of a class that the tables say can be made, by its rows of tables_1 -/
def lw_okq (q : MethodName × Nat) : Prop := (q.1.cls ≠ "java/lang/invoke/MethodHandle" ∧ q.1.cls ≠ "java/lang/invoke/VarHandle") ∧ Cond.instantiable q.1.cls q.2 ∈ tables_1 ∧ Cond.privateMethod q.1 ∈ tables_1 ∧ Cond.instanceMethod q.1 ∈ tables_1
theorem lw_p0 : lw_okq (⟨"TaughtTongues$Lots", "makeGreaterOnes", "(I)V"⟩, 6) := ⟨⟨by decide +kernel, by decide +kernel⟩, List.mem_of_getElem? (i := 71) (by decide +kernel), List.mem_of_getElem? (i := 81) (by decide +kernel), List.mem_of_getElem? (i := 82) (by decide +kernel)⟩
theorem lw_p1 : lw_okq (⟨"TaughtTongues$Lots", "joinGreaterOnes", "(I)V"⟩, 6) := ⟨⟨by decide +kernel, by decide +kernel⟩, List.mem_of_getElem? (i := 71) (by decide +kernel), List.mem_of_getElem? (i := 85) (by decide +kernel), List.mem_of_getElem? (i := 86) (by decide +kernel)⟩
theorem lw_p2 : lw_okq (⟨"TaughtTongues", "changeSlip", "(I)I"⟩, 6) := ⟨⟨by decide +kernel, by decide +kernel⟩, List.mem_of_getElem? (i := 12) (by decide +kernel), List.mem_of_getElem? (i := 196) (by decide +kernel), List.mem_of_getElem? (i := 197) (by decide +kernel)⟩
theorem lw_p3 : lw_okq (⟨"TaughtTongues", "learnerChanged", "()V"⟩, 6) := ⟨⟨by decide +kernel, by decide +kernel⟩, List.mem_of_getElem? (i := 12) (by decide +kernel), List.mem_of_getElem? (i := 200) (by decide +kernel), List.mem_of_getElem? (i := 201) (by decide +kernel)⟩
theorem lw_p4 : lw_okq (⟨"TaughtTongues", "changeHears", "(I)I"⟩, 6) := ⟨⟨by decide +kernel, by decide +kernel⟩, List.mem_of_getElem? (i := 12) (by decide +kernel), List.mem_of_getElem? (i := 205) (by decide +kernel), List.mem_of_getElem? (i := 206) (by decide +kernel)⟩
theorem lw_p5 : lw_okq (⟨"TaughtTongues", "changeLearner", "(I)I"⟩, 6) := ⟨⟨by decide +kernel, by decide +kernel⟩, List.mem_of_getElem? (i := 12) (by decide +kernel), List.mem_of_getElem? (i := 209) (by decide +kernel), List.mem_of_getElem? (i := 210) (by decide +kernel)⟩
theorem lw_p6 : lw_okq (⟨"TaughtTongues$Signs", "lineFits", "(II)Z"⟩, 2) := ⟨⟨by decide +kernel, by decide +kernel⟩, List.mem_of_getElem? (i := 20) (by decide +kernel), List.mem_of_getElem? (i := 252) (by decide +kernel), List.mem_of_getElem? (i := 253) (by decide +kernel)⟩
theorem lw_p7 : lw_okq (⟨"TaughtTongues$Learner", "likenessBy", "(III)J"⟩, 3) := ⟨⟨by decide +kernel, by decide +kernel⟩, List.mem_of_getElem? (i := 51) (by decide +kernel), List.mem_of_getElem? (i := 299) (by decide +kernel), List.mem_of_getElem? (i := 300) (by decide +kernel)⟩
theorem lw_p8 : lw_okq (⟨"TaughtTongues$Learner", "isRather", "(II)Z"⟩, 3) := ⟨⟨by decide +kernel, by decide +kernel⟩, List.mem_of_getElem? (i := 51) (by decide +kernel), List.mem_of_getElem? (i := 333) (by decide +kernel), List.mem_of_getElem? (i := 334) (by decide +kernel)⟩
theorem lw_p9 : lw_okq (⟨"TaughtTongues$Steps", "listSayings", "(I[J)V"⟩, 12) := ⟨⟨by decide +kernel, by decide +kernel⟩, List.mem_of_getElem? (i := 116) (by decide +kernel), List.mem_of_getElem? (i := 351) (by decide +kernel), List.mem_of_getElem? (i := 352) (by decide +kernel)⟩
theorem lw_p10 : lw_okq (⟨"TaughtTongues$Steps", "hearOneMore", "(I[J)V"⟩, 12) := ⟨⟨by decide +kernel, by decide +kernel⟩, List.mem_of_getElem? (i := 116) (by decide +kernel), List.mem_of_getElem? (i := 359) (by decide +kernel), List.mem_of_getElem? (i := 360) (by decide +kernel)⟩
theorem lw_p11 : lw_okq (⟨"TaughtTongues$Lots", "countSayings", "(I)V"⟩, 6) := ⟨⟨by decide +kernel, by decide +kernel⟩, List.mem_of_getElem? (i := 71) (by decide +kernel), List.mem_of_getElem? (i := 368) (by decide +kernel), List.mem_of_getElem? (i := 369) (by decide +kernel)⟩
theorem lw_p12 : lw_okq (⟨"TaughtTongues", "refusalOfLives", "(ZZI)I"⟩, 6) := ⟨⟨by decide +kernel, by decide +kernel⟩, List.mem_of_getElem? (i := 12) (by decide +kernel), List.mem_of_getElem? (i := 388) (by decide +kernel), List.mem_of_getElem? (i := 389) (by decide +kernel)⟩
theorem lw_p13 : lw_okq (⟨"TaughtTongues$Steps", "startAt", "(I)V"⟩, 12) := ⟨⟨by decide +kernel, by decide +kernel⟩, List.mem_of_getElem? (i := 116) (by decide +kernel), List.mem_of_getElem? (i := 404) (by decide +kernel), List.mem_of_getElem? (i := 405) (by decide +kernel)⟩
theorem lw_p14 : lw_okq (⟨"TaughtTongues", "findReaches", "()V"⟩, 6) := ⟨⟨by decide +kernel, by decide +kernel⟩, List.mem_of_getElem? (i := 12) (by decide +kernel), List.mem_of_getElem? (i := 412) (by decide +kernel), List.mem_of_getElem? (i := 413) (by decide +kernel)⟩
theorem lw_p15 : lw_okq (⟨"TaughtTongues", "lastingOnes", "()I"⟩, 6) := ⟨⟨by decide +kernel, by decide +kernel⟩, List.mem_of_getElem? (i := 12) (by decide +kernel), List.mem_of_getElem? (i := 432) (by decide +kernel), List.mem_of_getElem? (i := 433) (by decide +kernel)⟩
def lw_privs_1 : List (MethodName × Nat) := [(⟨"TaughtTongues$Lots", "makeGreaterOnes", "(I)V"⟩, 6), (⟨"TaughtTongues$Lots", "joinGreaterOnes", "(I)V"⟩, 6), (⟨"TaughtTongues", "changeSlip", "(I)I"⟩, 6), (⟨"TaughtTongues", "learnerChanged", "()V"⟩, 6), (⟨"TaughtTongues", "changeHears", "(I)I"⟩, 6), (⟨"TaughtTongues", "changeLearner", "(I)I"⟩, 6), (⟨"TaughtTongues$Signs", "lineFits", "(II)Z"⟩, 2), (⟨"TaughtTongues$Learner", "likenessBy", "(III)J"⟩, 3), (⟨"TaughtTongues$Learner", "isRather", "(II)Z"⟩, 3), (⟨"TaughtTongues$Steps", "listSayings", "(I[J)V"⟩, 12), (⟨"TaughtTongues$Steps", "hearOneMore", "(I[J)V"⟩, 12), (⟨"TaughtTongues$Lots", "countSayings", "(I)V"⟩, 6), (⟨"TaughtTongues", "refusalOfLives", "(ZZI)I"⟩, 6), (⟨"TaughtTongues$Steps", "startAt", "(I)V"⟩, 12), (⟨"TaughtTongues", "findReaches", "()V"⟩, 6), (⟨"TaughtTongues", "lastingOnes", "()I"⟩, 6)]
theorem lw_r1 : ∀ q ∈ lw_privs_1, lw_okq q := List.forall_mem_cons.mpr ⟨lw_p0, List.forall_mem_cons.mpr ⟨lw_p1, List.forall_mem_cons.mpr ⟨lw_p2, List.forall_mem_cons.mpr ⟨lw_p3, List.forall_mem_cons.mpr ⟨lw_p4, List.forall_mem_cons.mpr ⟨lw_p5, List.forall_mem_cons.mpr ⟨lw_p6, List.forall_mem_cons.mpr ⟨lw_p7, List.forall_mem_cons.mpr ⟨lw_p8, List.forall_mem_cons.mpr ⟨lw_p9, List.forall_mem_cons.mpr ⟨lw_p10, List.forall_mem_cons.mpr ⟨lw_p11, List.forall_mem_cons.mpr ⟨lw_p12, List.forall_mem_cons.mpr ⟨lw_p13, List.forall_mem_cons.mpr ⟨lw_p14, List.forall_mem_cons.mpr ⟨lw_p15, fun _ h => absurd h List.not_mem_nil⟩⟩⟩⟩⟩⟩⟩⟩⟩⟩⟩⟩⟩⟩⟩⟩
theorem lw_p16 : lw_okq (⟨"TaughtTongues", "countParts", "(I)I"⟩, 6) := ⟨⟨by decide +kernel, by decide +kernel⟩, List.mem_of_getElem? (i := 12) (by decide +kernel), List.mem_of_getElem? (i := 436) (by decide +kernel), List.mem_of_getElem? (i := 437) (by decide +kernel)⟩
theorem lw_p17 : lw_okq (⟨"TaughtTonguesModel", "numberIs", "(I)I"⟩, 20) := ⟨⟨by decide +kernel, by decide +kernel⟩, List.mem_of_getElem? (i := 487) (by decide +kernel), List.mem_of_getElem? (i := 571) (by decide +kernel), List.mem_of_getElem? (i := 572) (by decide +kernel)⟩
theorem lw_p18 : lw_okq (⟨"TaughtTonguesModel", "beforehand", "(I)I"⟩, 20) := ⟨⟨by decide +kernel, by decide +kernel⟩, List.mem_of_getElem? (i := 487) (by decide +kernel), List.mem_of_getElem? (i := 604) (by decide +kernel), List.mem_of_getElem? (i := 605) (by decide +kernel)⟩
theorem lw_p19 : lw_okq (⟨"TaughtTonguesModel", "layHeard", "()V"⟩, 20) := ⟨⟨by decide +kernel, by decide +kernel⟩, List.mem_of_getElem? (i := 487) (by decide +kernel), List.mem_of_getElem? (i := 621) (by decide +kernel), List.mem_of_getElem? (i := 622) (by decide +kernel)⟩
theorem lw_p20 : lw_okq (⟨"TaughtTonguesModel", "likenessOf", "(I)J"⟩, 20) := ⟨⟨by decide +kernel, by decide +kernel⟩, List.mem_of_getElem? (i := 487) (by decide +kernel), List.mem_of_getElem? (i := 625) (by decide +kernel), List.mem_of_getElem? (i := 626) (by decide +kernel)⟩
theorem lw_p21 : lw_okq (⟨"TaughtTonguesModel", "taken", "()I"⟩, 20) := ⟨⟨by decide +kernel, by decide +kernel⟩, List.mem_of_getElem? (i := 487) (by decide +kernel), List.mem_of_getElem? (i := 648) (by decide +kernel), List.mem_of_getElem? (i := 649) (by decide +kernel)⟩
theorem lw_p22 : lw_okq (⟨"TaughtTonguesModel", "hasAll", "(I)Z"⟩, 20) := ⟨⟨by decide +kernel, by decide +kernel⟩, List.mem_of_getElem? (i := 487) (by decide +kernel), List.mem_of_getElem? (i := 652) (by decide +kernel), List.mem_of_getElem? (i := 653) (by decide +kernel)⟩
theorem lw_p23 : lw_okq (⟨"TaughtTonguesModel", "findSteps", "(II)V"⟩, 20) := ⟨⟨by decide +kernel, by decide +kernel⟩, List.mem_of_getElem? (i := 487) (by decide +kernel), List.mem_of_getElem? (i := 667) (by decide +kernel), List.mem_of_getElem? (i := 668) (by decide +kernel)⟩
theorem lw_p24 : lw_okq (⟨"TaughtTonguesModel", "lowerOf", "()J"⟩, 20) := ⟨⟨by decide +kernel, by decide +kernel⟩, List.mem_of_getElem? (i := 487) (by decide +kernel), List.mem_of_getElem? (i := 671) (by decide +kernel), List.mem_of_getElem? (i := 672) (by decide +kernel)⟩
theorem lw_p25 : lw_okq (⟨"TaughtTonguesModel", "oddsOf", "(II)J"⟩, 20) := ⟨⟨by decide +kernel, by decide +kernel⟩, List.mem_of_getElem? (i := 487) (by decide +kernel), List.mem_of_getElem? (i := 676) (by decide +kernel), List.mem_of_getElem? (i := 677) (by decide +kernel)⟩
theorem lw_p26 : lw_okq (⟨"TaughtTonguesModel", "live", "(II)V"⟩, 20) := ⟨⟨by decide +kernel, by decide +kernel⟩, List.mem_of_getElem? (i := 487) (by decide +kernel), List.mem_of_getElem? (i := 689) (by decide +kernel), List.mem_of_getElem? (i := 690) (by decide +kernel)⟩
theorem lw_p27 : lw_okq (⟨"TaughtTonguesModel", "findLeads", "()V"⟩, 20) := ⟨⟨by decide +kernel, by decide +kernel⟩, List.mem_of_getElem? (i := 487) (by decide +kernel), List.mem_of_getElem? (i := 697) (by decide +kernel), List.mem_of_getElem? (i := 698) (by decide +kernel)⟩
theorem lw_p28 : lw_okq (⟨"TaughtTonguesModel", "doesLast", "(I)Z"⟩, 20) := ⟨⟨by decide +kernel, by decide +kernel⟩, List.mem_of_getElem? (i := 487) (by decide +kernel), List.mem_of_getElem? (i := 705) (by decide +kernel), List.mem_of_getElem? (i := 706) (by decide +kernel)⟩
theorem lw_p29 : lw_okq (⟨"TaughtTonguesModel", "choose", "(II)Z"⟩, 20) := ⟨⟨by decide +kernel, by decide +kernel⟩, List.mem_of_getElem? (i := 487) (by decide +kernel), List.mem_of_getElem? (i := 721) (by decide +kernel), List.mem_of_getElem? (i := 722) (by decide +kernel)⟩
theorem lw_p30 : lw_okq (⟨"TaughtTonguesModel", "findCame", "(II)J"⟩, 20) := ⟨⟨by decide +kernel, by decide +kernel⟩, List.mem_of_getElem? (i := 487) (by decide +kernel), List.mem_of_getElem? (i := 729) (by decide +kernel), List.mem_of_getElem? (i := 730) (by decide +kernel)⟩
def lw_privs_2 : List (MethodName × Nat) := [(⟨"TaughtTongues", "countParts", "(I)I"⟩, 6), (⟨"TaughtTonguesModel", "numberIs", "(I)I"⟩, 20), (⟨"TaughtTonguesModel", "beforehand", "(I)I"⟩, 20), (⟨"TaughtTonguesModel", "layHeard", "()V"⟩, 20), (⟨"TaughtTonguesModel", "likenessOf", "(I)J"⟩, 20), (⟨"TaughtTonguesModel", "taken", "()I"⟩, 20), (⟨"TaughtTonguesModel", "hasAll", "(I)Z"⟩, 20), (⟨"TaughtTonguesModel", "findSteps", "(II)V"⟩, 20), (⟨"TaughtTonguesModel", "lowerOf", "()J"⟩, 20), (⟨"TaughtTonguesModel", "oddsOf", "(II)J"⟩, 20), (⟨"TaughtTonguesModel", "live", "(II)V"⟩, 20), (⟨"TaughtTonguesModel", "findLeads", "()V"⟩, 20), (⟨"TaughtTonguesModel", "doesLast", "(I)Z"⟩, 20), (⟨"TaughtTonguesModel", "choose", "(II)Z"⟩, 20), (⟨"TaughtTonguesModel", "findCame", "(II)J"⟩, 20)]
theorem lw_r2 : ∀ q ∈ lw_privs_2, lw_okq q := List.forall_mem_cons.mpr ⟨lw_p16, List.forall_mem_cons.mpr ⟨lw_p17, List.forall_mem_cons.mpr ⟨lw_p18, List.forall_mem_cons.mpr ⟨lw_p19, List.forall_mem_cons.mpr ⟨lw_p20, List.forall_mem_cons.mpr ⟨lw_p21, List.forall_mem_cons.mpr ⟨lw_p22, List.forall_mem_cons.mpr ⟨lw_p23, List.forall_mem_cons.mpr ⟨lw_p24, List.forall_mem_cons.mpr ⟨lw_p25, List.forall_mem_cons.mpr ⟨lw_p26, List.forall_mem_cons.mpr ⟨lw_p27, List.forall_mem_cons.mpr ⟨lw_p28, List.forall_mem_cons.mpr ⟨lw_p29, List.forall_mem_cons.mpr ⟨lw_p30, fun _ h => absurd h List.not_mem_nil⟩⟩⟩⟩⟩⟩⟩⟩⟩⟩⟩⟩⟩⟩⟩
def lw_privs : List (MethodName × Nat) := lw_privs_1 ++ (lw_privs_2)
def lw_tbl : List Cond := k2_sels lw_privs ++ tables_1
theorem lw_privs_ok : ∀ q ∈ lw_privs, lw_okq q := by
  show ∀ q ∈ lw_privs_1 ++ (lw_privs_2), lw_okq q
  exact List.forall_mem_append.mpr ⟨lw_r1, lw_r2⟩
end
section
/-! ===== BEGIN words of one list among another's, by their places ===== -/
theorem goodIn_r {big : List Cond} (ws : List Cond) (ps : List Nat) (hp : ws = ps.filterMap (fun i => big[i]?)) (h : ws.all goodWord = true) : GoodIn big ws := by
  intro w hw
  have h1 := List.all_eq_true.mp h w hw
  rw [hp] at hw
  obtain ⟨i, -, hi⟩ := List.mem_filterMap.mp hw
  have hm : w ∈ big := by first | exact List.mem_of_getElem? hi | exact List.getElem?_mem hi
  exact ⟨hm, good_of_word h1⟩
theorem goodIn_app {big a b : List Cond} (ha : GoodIn big a) (hb : GoodIn big b) : GoodIn big (a ++ b) := fun w h => (List.mem_append.mp h).elim (ha w) (hb w)
theorem goodIn_ca {big a b : List Cond} {c : Cond} (ha : GoodIn big (c :: a)) (hb : GoodIn big b) : GoodIn big (c :: (a ++ b)) := fun w h => (List.mem_cons.mp h).elim (fun e => ha w (List.mem_cons.mpr (Or.inl e))) (fun h => (List.mem_append.mp h).elim (fun h => ha w (List.mem_cons.mpr (Or.inr h))) (hb w))
theorem goodIn_sub {big ws : List Cond} (hm : ∀ w ∈ ws, w ∈ big) (h : ws.all goodWord = true) : GoodIn big ws := fun w hw => ⟨hm w hw, good_of_word (List.all_eq_true.mp h w hw)⟩
/-! ===== END ===== -/

/-! ===== BEGIN printed: names, fields, word lists, decode rows ===== -/
def RX0 : String := "TaughtTongues$Counts"
def TX0 : u_T := fun k => match k with
  | 0 => ("TaughtTongues$Counts", "times", "[I", true)
  | _ => ("TaughtTongues$Counts", "all", "I", false)
def tyX0 : Nat → FieldType := fun k => match k with
  | 0 => .array .int
  | _ => .int
abbrev wsX00 : List Cond := u_ws RX0 TX0 2
theorem nmX0 : ∀ a, a < 2 → ∀ b, b < 2 → a ≠ b → (TX0 a).2.1 ≠ (TX0 b).2.1 := by decide +kernel
theorem tyX0_ok : ∀ k, k < 2 → parseFieldDescriptor (TX0 k).2.2.1 = some (tyX0 k) := by decide +kernel
abbrev cX0_init : ByteArray := prog_2_method_1_code
def yX0_init : MethodName := ⟨RX0, "<init>", "()V"⟩
abbrev cX0_add : ByteArray := prog_2_method_2_code
def yX0_add : MethodName := ⟨RX0, "add", "(I)V"⟩
abbrev cX0_clear : ByteArray := prog_2_method_3_code
def yX0_clear : MethodName := ⟨RX0, "clear", "()V"⟩
abbrev cX0_sharedWith : ByteArray := prog_2_method_4_code
def yX0_sharedWith : MethodName := ⟨RX0, "sharedWith", "(I)I"⟩
def RX1 : String := "TaughtTongues$Learner"
def TX1 : u_T := fun k => match k with
  | 0 => ("TaughtTongues$Learner", "numbers", "[I", true)
  | 1 => ("TaughtTongues$Learner", "slip", "I", false)
  | _ => ("TaughtTongues$Learner", "kind", "I", false)
def tyX1 : Nat → FieldType := fun k => match k with
  | 0 => .array .int
  | 1 => .int
  | _ => .int
abbrev wsX10 : List Cond := u_ws RX1 TX1 3
theorem nmX1 : ∀ a, a < 3 → ∀ b, b < 3 → a ≠ b → (TX1 a).2.1 ≠ (TX1 b).2.1 := by decide +kernel
theorem tyX1_ok : ∀ k, k < 3 → parseFieldDescriptor (TX1 k).2.2.1 = some (tyX1 k) := by decide +kernel
abbrev cX1_init : ByteArray := prog_3_method_1_code
def yX1_init : MethodName := ⟨RX1, "<init>", "()V"⟩
abbrev cX1_likenessOf : ByteArray := prog_3_method_2_code
def yX1_likenessOf : MethodName := ⟨RX1, "likenessOf", "(ILTaughtTongues$Counts;)J"⟩
abbrev cX1_likenessBy : ByteArray := prog_3_method_3_code
def yX1_likenessBy : MethodName := ⟨RX1, "likenessBy", "(III)J"⟩
abbrev cX1_choice : ByteArray := prog_3_method_4_code
def yX1_choice : MethodName := ⟨RX1, "choice", "(LTaughtTongues$Counts;)I"⟩
abbrev cX1_isRather : ByteArray := prog_3_method_5_code
def yX1_isRather : MethodName := ⟨RX1, "isRather", "(II)Z"⟩
def RX2 : String := "TaughtTongues$Lots"
def TX2 : u_T := fun k => match k with
  | 0 => ("TaughtTongues$Lots", "learner", "LTaughtTongues$Learner;", true)
  | 1 => ("TaughtTongues$Lots", "smaller", "[I", true)
  | 2 => ("TaughtTongues$Lots", "last", "[I", true)
  | 3 => ("TaughtTongues$Lots", "greater", "[I", true)
  | 4 => ("TaughtTongues$Lots", "choices", "[I", true)
  | _ => ("TaughtTongues$Lots", "counts", "LTaughtTongues$Counts;", true)
def tyX2 : Nat → FieldType := fun k => match k with
  | 0 => .object "TaughtTongues$Learner"
  | 1 => .array .int
  | 2 => .array .int
  | 3 => .array .int
  | 4 => .array .int
  | _ => .object "TaughtTongues$Counts"
abbrev wsX20 : List Cond := u_ws RX2 TX2 6
theorem nmX2 : ∀ a, a < 6 → ∀ b, b < 6 → a ≠ b → (TX2 a).2.1 ≠ (TX2 b).2.1 := by decide +kernel
theorem tyX2_ok : ∀ k, k < 6 → parseFieldDescriptor (TX2 k).2.2.1 = some (tyX2 k) := by decide +kernel
abbrev cX2_init : ByteArray := prog_4_method_1_code
def yX2_init : MethodName := ⟨RX2, "<init>", "(LTaughtTongues$Learner;)V"⟩
abbrev cX2_makeGreaterOnes : ByteArray := prog_4_method_2_code
def yX2_makeGreaterOnes : MethodName := ⟨RX2, "makeGreaterOnes", "(I)V"⟩
abbrev cX2_joinGreaterOnes : ByteArray := prog_4_method_3_code
def yX2_joinGreaterOnes : MethodName := ⟨RX2, "joinGreaterOnes", "(I)V"⟩
abbrev cX2_forgetChoices : ByteArray := prog_4_method_4_code
def yX2_forgetChoices : MethodName := ⟨RX2, "forgetChoices", "()V"⟩
abbrev cX2_choiceBehind : ByteArray := prog_4_method_5_code
def yX2_choiceBehind : MethodName := ⟨RX2, "choiceBehind", "(I)I"⟩
abbrev cX2_countSayings : ByteArray := prog_4_method_6_code
def yX2_countSayings : MethodName := ⟨RX2, "countSayings", "(I)V"⟩
abbrev cX2_sizeOf : ByteArray := prog_4_method_7_code
def yX2_sizeOf : MethodName := ⟨RX2, "sizeOf", "(I)I"⟩
abbrev cX2_sayingOf : ByteArray := prog_4_method_8_code
def yX2_sayingOf : MethodName := ⟨RX2, "sayingOf", "(II)I"⟩
abbrev cX2_firstThatTeaches : ByteArray := prog_4_method_9_code
def yX2_firstThatTeaches : MethodName := ⟨RX2, "firstThatTeaches", "(I)I"⟩
def RX3 : String := "TaughtTongues$Signs"
def TX3 : u_T := fun k => match k with
  | 0 => ("TaughtTongues$Signs", "codes", "[I", true)
  | _ => ("TaughtTongues$Signs", "count", "I", false)
def tyX3 : Nat → FieldType := fun k => match k with
  | 0 => .array .int
  | _ => .int
abbrev wsX30 : List Cond := u_ws RX3 TX3 2
theorem nmX3 : ∀ a, a < 2 → ∀ b, b < 2 → a ≠ b → (TX3 a).2.1 ≠ (TX3 b).2.1 := by decide +kernel
theorem tyX3_ok : ∀ k, k < 2 → parseFieldDescriptor (TX3 k).2.2.1 = some (tyX3 k) := by decide +kernel
abbrev cX3_init : ByteArray := prog_5_method_1_code
def yX3_init : MethodName := ⟨RX3, "<init>", "()V"⟩
abbrev cX3_add : ByteArray := prog_5_method_2_code
def yX3_add : MethodName := ⟨RX3, "add", "(I)Z"⟩
abbrev cX3_clear : ByteArray := prog_5_method_3_code
def yX3_clear : MethodName := ⟨RX3, "clear", "()I"⟩
abbrev cX3_firstFault : ByteArray := prog_5_method_4_code
def yX3_firstFault : MethodName := ⟨RX3, "firstFault", "()I"⟩
abbrev cX3_canStand : ByteArray := prog_5_method_5_code
def yX3_canStand : MethodName := ⟨RX3, "canStand", "(II)Z"⟩
abbrev cX3_lines : ByteArray := prog_5_method_6_code
def yX3_lines : MethodName := ⟨RX3, "lines", "()I"⟩
abbrev cX3_numberFor : ByteArray := prog_5_method_7_code
def yX3_numberFor : MethodName := ⟨RX3, "numberFor", "(I)I"⟩
abbrev cX3_lineFits : ByteArray := prog_5_method_8_code
def yX3_lineFits : MethodName := ⟨RX3, "lineFits", "(II)Z"⟩
def RX4 : String := "TaughtTongues$Steps"
def TX4 : u_T := fun k => match k with
  | 0 => ("TaughtTongues$Steps", "learner", "LTaughtTongues$Learner;", true)
  | 1 => ("TaughtTongues$Steps", "lots", "LTaughtTongues$Lots;", true)
  | 2 => ("TaughtTongues$Steps", "weights", "[I", true)
  | 3 => ("TaughtTongues$Steps", "hears", "I", false)
  | 4 => ("TaughtTongues$Steps", "bookSays", "[J", true)
  | 5 => ("TaughtTongues$Steps", "teacherSays", "[J", true)
  | 6 => ("TaughtTongues$Steps", "lotOdds", "[J", true)
  | 7 => ("TaughtTongues$Steps", "row", "[J", true)
  | 8 => ("TaughtTongues$Steps", "odds", "[J", true)
  | 9 => ("TaughtTongues$Steps", "known", "Z", false)
  | 10 => ("TaughtTongues$Steps", "now", "[J", true)
  | _ => ("TaughtTongues$Steps", "next", "[J", true)
def tyX4 : Nat → FieldType := fun k => match k with
  | 0 => .object "TaughtTongues$Learner"
  | 1 => .object "TaughtTongues$Lots"
  | 2 => .array .int
  | 3 => .int
  | 4 => .array .long
  | 5 => .array .long
  | 6 => .array .long
  | 7 => .array .long
  | 8 => .array .long
  | 9 => .boolean
  | 10 => .array .long
  | _ => .array .long
abbrev wsX40 : List Cond := u_ws RX4 TX4 12
theorem nmX4 : ∀ a, a < 12 → ∀ b, b < 12 → a ≠ b → (TX4 a).2.1 ≠ (TX4 b).2.1 := by decide +kernel
theorem tyX4_ok : ∀ k, k < 12 → parseFieldDescriptor (TX4 k).2.2.1 = some (tyX4 k) := by decide +kernel
abbrev cX4_init : ByteArray := prog_6_method_1_code
def yX4_init : MethodName := ⟨RX4, "<init>", "(LTaughtTongues$Learner;LTaughtTongues$Lots;)V"⟩
abbrev cX4_whole : ByteArray := prog_6_method_2_code
def yX4_whole : MethodName := ⟨RX4, "whole", "(I)J"⟩
abbrev cX4_rowOf : ByteArray := prog_6_method_3_code
def yX4_rowOf : MethodName := ⟨RX4, "rowOf", "(III)[J"⟩
abbrev cX4_listSayings : ByteArray := prog_6_method_4_code
def yX4_listSayings : MethodName := ⟨RX4, "listSayings", "(I[J)V"⟩
abbrev cX4_hearOneMore : ByteArray := prog_6_method_5_code
def yX4_hearOneMore : MethodName := ⟨RX4, "hearOneMore", "(I[J)V"⟩
abbrev cX4_know : ByteArray := prog_6_method_6_code
def yX4_know : MethodName := ⟨RX4, "know", "()V"⟩
abbrev cX4_forward : ByteArray := prog_6_method_7_code
def yX4_forward : MethodName := ⟨RX4, "forward", "(II)[J"⟩
abbrev cX4_backward : ByteArray := prog_6_method_8_code
def yX4_backward : MethodName := ⟨RX4, "backward", "(II)[J"⟩
abbrev cX4_startAt : ByteArray := prog_6_method_9_code
def yX4_startAt : MethodName := ⟨RX4, "startAt", "(I)V"⟩
abbrev cX4_nextOnes : ByteArray := prog_6_method_10_code
def yX4_nextOnes : MethodName := ⟨RX4, "nextOnes", "(I)I"⟩
abbrev cX4_keptOnes : ByteArray := prog_6_method_11_code
def yX4_keptOnes : MethodName := ⟨RX4, "keptOnes", "()I"⟩
def RX5 : String := "TaughtTongues"
def TX5 : u_T := fun k => match k with
  | 0 => ("TaughtTongues", "signs", "LTaughtTongues$Signs;", true)
  | 1 => ("TaughtTongues", "heard", "LTaughtTongues$Counts;", true)
  | 2 => ("TaughtTongues", "learner", "LTaughtTongues$Learner;", true)
  | 3 => ("TaughtTongues", "lots", "LTaughtTongues$Lots;", true)
  | 4 => ("TaughtTongues", "steps", "LTaughtTongues$Steps;", true)
  | _ => ("TaughtTongues", "reaches", "[I", true)
def tyX5 : Nat → FieldType := fun k => match k with
  | 0 => .object "TaughtTongues$Signs"
  | 1 => .object "TaughtTongues$Counts"
  | 2 => .object "TaughtTongues$Learner"
  | 3 => .object "TaughtTongues$Lots"
  | 4 => .object "TaughtTongues$Steps"
  | _ => .array .int
abbrev wsX50 : List Cond := u_ws RX5 TX5 6
theorem nmX5 : ∀ a, a < 6 → ∀ b, b < 6 → a ≠ b → (TX5 a).2.1 ≠ (TX5 b).2.1 := by decide +kernel
theorem tyX5_ok : ∀ k, k < 6 → parseFieldDescriptor (TX5 k).2.2.1 = some (tyX5 k) := by decide +kernel
abbrev cX5_init : ByteArray := prog_1_method_1_code
def yX5_init : MethodName := ⟨RX5, "<init>", "()V"⟩
abbrev cX5_weight : ByteArray := prog_1_method_2_code
def yX5_weight : MethodName := ⟨RX5, "weight", "(II)I"⟩
abbrev cX5_set : ByteArray := prog_1_method_3_code
def yX5_set : MethodName := ⟨RX5, "set", "(II)I"⟩
abbrev cX5_say : ByteArray := prog_1_method_4_code
def yX5_say : MethodName := ⟨RX5, "say", "(I)I"⟩
abbrev cX5_wipe : ByteArray := prog_1_method_5_code
def yX5_wipe : MethodName := ⟨RX5, "wipe", "()I"⟩
abbrev cX5_fault : ByteArray := prog_1_method_6_code
def yX5_fault : MethodName := ⟨RX5, "fault", "()I"⟩
abbrev cX5_before : ByteArray := prog_1_method_7_code
def yX5_before : MethodName := ⟨RX5, "before", "()I"⟩
abbrev cX5_number : ByteArray := prog_1_method_8_code
def yX5_number : MethodName := ⟨RX5, "number", "(I)I"⟩
abbrev cX5_hear : ByteArray := prog_1_method_9_code
def yX5_hear : MethodName := ⟨RX5, "hear", "(II)I"⟩
abbrev cX5_forget : ByteArray := prog_1_method_10_code
def yX5_forget : MethodName := ⟨RX5, "forget", "()I"⟩
abbrev cX5_likeness : ByteArray := prog_1_method_11_code
def yX5_likeness : MethodName := ⟨RX5, "likeness", "(I)J"⟩
abbrev cX5_thinks : ByteArray := prog_1_method_12_code
def yX5_thinks : MethodName := ⟨RX5, "thinks", "(II)J"⟩
abbrev cX5_takes : ByteArray := prog_1_method_13_code
def yX5_takes : MethodName := ⟨RX5, "takes", "()I"⟩
abbrev cX5_step : ByteArray := prog_1_method_14_code
def yX5_step : MethodName := ⟨RX5, "step", "(III)J"⟩
abbrev cX5_book : ByteArray := prog_1_method_15_code
def yX5_book : MethodName := ⟨RX5, "book", "(IIIII)J"⟩
abbrev cX5_after : ByteArray := prog_1_method_16_code
def yX5_after : MethodName := ⟨RX5, "after", "(IIII)J"⟩
abbrev cX5_leads : ByteArray := prog_1_method_17_code
def yX5_leads : MethodName := ⟨RX5, "leads", "(I)I"⟩
abbrev cX5_lasts : ByteArray := prog_1_method_18_code
def yX5_lasts : MethodName := ⟨RX5, "lasts", "(I)I"⟩
abbrev cX5_lives : ByteArray := prog_1_method_19_code
def yX5_lives : MethodName := ⟨RX5, "lives", "(IIIII)J"⟩
abbrev cX5_often : ByteArray := prog_1_method_20_code
def yX5_often : MethodName := ⟨RX5, "often", "(III)I"⟩
abbrev cX5_chosen : ByteArray := prog_1_method_21_code
def yX5_chosen : MethodName := ⟨RX5, "chosen", "(II)I"⟩
abbrev cX5_back : ByteArray := prog_1_method_22_code
def yX5_back : MethodName := ⟨RX5, "back", "(IIII)J"⟩
abbrev cX5_guess : ByteArray := prog_1_method_23_code
def yX5_guess : MethodName := ⟨RX5, "guess", "(III)I"⟩
abbrev cX5_told : ByteArray := prog_1_method_24_code
def yX5_told : MethodName := ⟨RX5, "told", "(I)I"⟩
abbrev cX5_changeSlip : ByteArray := prog_1_method_25_code
def yX5_changeSlip : MethodName := ⟨RX5, "changeSlip", "(I)I"⟩
abbrev cX5_changeHears : ByteArray := prog_1_method_26_code
def yX5_changeHears : MethodName := ⟨RX5, "changeHears", "(I)I"⟩
abbrev cX5_changeLearner : ByteArray := prog_1_method_27_code
def yX5_changeLearner : MethodName := ⟨RX5, "changeLearner", "(I)I"⟩
abbrev cX5_learnerChanged : ByteArray := prog_1_method_28_code
def yX5_learnerChanged : MethodName := ⟨RX5, "learnerChanged", "()V"⟩
abbrev cX5_findReaches : ByteArray := prog_1_method_29_code
def yX5_findReaches : MethodName := ⟨RX5, "findReaches", "()V"⟩
abbrev cX5_lastingOnes : ByteArray := prog_1_method_30_code
def yX5_lastingOnes : MethodName := ⟨RX5, "lastingOnes", "()I"⟩
abbrev cX5_countParts : ByteArray := prog_1_method_31_code
def yX5_countParts : MethodName := ⟨RX5, "countParts", "(I)I"⟩
abbrev cX5_isIn : ByteArray := prog_1_method_32_code
def yX5_isIn : MethodName := ⟨RX5, "isIn", "(II)Z"⟩
abbrev cX5_oddsOfForm : ByteArray := prog_1_method_33_code
def yX5_oddsOfForm : MethodName := ⟨RX5, "oddsOfForm", "([JII)J"⟩
abbrev cX5_refusalOf : ByteArray := prog_1_method_34_code
def yX5_refusalOf : MethodName := ⟨RX5, "refusalOf", "(ZZ)I"⟩
abbrev cX5_refusalOfLives : ByteArray := prog_1_method_35_code
def yX5_refusalOfLives : MethodName := ⟨RX5, "refusalOfLives", "(ZZI)I"⟩
abbrev cX5_isTongue : ByteArray := prog_1_method_36_code
def yX5_isTongue : MethodName := ⟨RX5, "isTongue", "(I)Z"⟩
abbrev cX5_isMeaning : ByteArray := prog_1_method_37_code
def yX5_isMeaning : MethodName := ⟨RX5, "isMeaning", "(I)Z"⟩
abbrev cX5_isForm : ByteArray := prog_1_method_38_code
def yX5_isForm : MethodName := ⟨RX5, "isForm", "(I)Z"⟩
abbrev cX5_isPart : ByteArray := prog_1_method_39_code
def yX5_isPart : MethodName := ⟨RX5, "isPart", "(I)Z"⟩
abbrev cX5_isBetween : ByteArray := prog_1_method_40_code
def yX5_isBetween : MethodName := ⟨RX5, "isBetween", "(III)Z"⟩
abbrev cX5_formOf : ByteArray := prog_1_method_41_code
def yX5_formOf : MethodName := ⟨RX5, "formOf", "(II)I"⟩
abbrev cX5_power : ByteArray := prog_1_method_42_code
def yX5_power : MethodName := ⟨RX5, "power", "(JI)J"⟩
abbrev cX5_fraction : ByteArray := prog_1_method_43_code
def yX5_fraction : MethodName := ⟨RX5, "fraction", "(JJI)J"⟩
abbrev cX5_commonDivisor : ByteArray := prog_1_method_44_code
def yX5_commonDivisor : MethodName := ⟨RX5, "commonDivisor", "(JJ)J"⟩
def RX6 : String := "TaughtTonguesModel"
def TX6 : u_T := fun k => match k with
  | 0 => ("TaughtTonguesModel", "weights", "[I", true)
  | 1 => ("TaughtTonguesModel", "slipIs", "I", false)
  | 2 => ("TaughtTonguesModel", "hearsIs", "I", false)
  | 3 => ("TaughtTonguesModel", "learnerIs", "I", false)
  | 4 => ("TaughtTonguesModel", "signs", "[I", true)
  | 5 => ("TaughtTonguesModel", "signMany", "I", false)
  | 6 => ("TaughtTonguesModel", "lineSigns", "[I", true)
  | 7 => ("TaughtTonguesModel", "lines", "I", false)
  | 8 => ("TaughtTonguesModel", "heard", "[I", true)
  | 9 => ("TaughtTonguesModel", "heardMany", "I", false)
  | 10 => ("TaughtTonguesModel", "row", "[I", true)
  | 11 => ("TaughtTonguesModel", "rowMany", "I", false)
  | 12 => ("TaughtTonguesModel", "steps", "[J", true)
  | 13 => ("TaughtTonguesModel", "lower", "J", false)
  | 14 => ("TaughtTonguesModel", "now", "[J", true)
  | 15 => ("TaughtTonguesModel", "then", "[J", true)
  | 16 => ("TaughtTonguesModel", "lowerNow", "J", false)
  | 17 => ("TaughtTonguesModel", "led", "[I", true)
  | 18 => ("TaughtTonguesModel", "picked", "[I", true)
  | _ => ("TaughtTonguesModel", "came", "[J", true)
def tyX6 : Nat → FieldType := fun k => match k with
  | 0 => .array .int
  | 1 => .int
  | 2 => .int
  | 3 => .int
  | 4 => .array .int
  | 5 => .int
  | 6 => .array .int
  | 7 => .int
  | 8 => .array .int
  | 9 => .int
  | 10 => .array .int
  | 11 => .int
  | 12 => .array .long
  | 13 => .long
  | 14 => .array .long
  | 15 => .array .long
  | 16 => .long
  | 17 => .array .int
  | 18 => .array .int
  | _ => .array .long
abbrev wsX60 : List Cond := u_ws RX6 TX6 20
theorem nmX6 : ∀ a, a < 20 → ∀ b, b < 20 → a ≠ b → (TX6 a).2.1 ≠ (TX6 b).2.1 := by decide +kernel
theorem tyX6_ok : ∀ k, k < 20 → parseFieldDescriptor (TX6 k).2.2.1 = some (tyX6 k) := by decide +kernel
abbrev cX6_init : ByteArray := prog_8_method_1_code
def yX6_init : MethodName := ⟨RX6, "<init>", "()V"⟩
abbrev cX6_in : ByteArray := prog_8_method_3_code
def yX6_in : MethodName := ⟨RX6, "in", "(JJJ)Z"⟩
abbrev cX6_ones : ByteArray := prog_8_method_4_code
def yX6_ones : MethodName := ⟨RX6, "ones", "(I)I"⟩
abbrev cX6_isMeaning : ByteArray := prog_8_method_5_code
def yX6_isMeaning : MethodName := ⟨RX6, "isMeaning", "(I)Z"⟩
abbrev cX6_isTongue : ByteArray := prog_8_method_6_code
def yX6_isTongue : MethodName := ⟨RX6, "isTongue", "(I)Z"⟩
abbrev cX6_isPart : ByteArray := prog_8_method_7_code
def yX6_isPart : MethodName := ⟨RX6, "isPart", "(I)Z"⟩
abbrev cX6_lowest : ByteArray := prog_8_method_8_code
def yX6_lowest : MethodName := ⟨RX6, "lowest", "(JJI)J"⟩
abbrev cX6_weight : ByteArray := prog_8_method_9_code
def yX6_weight : MethodName := ⟨RX6, "weight", "(II)I"⟩
abbrev cX6_numberIs : ByteArray := prog_8_method_10_code
def yX6_numberIs : MethodName := ⟨RX6, "numberIs", "(I)I"⟩
abbrev cX6_set : ByteArray := prog_8_method_11_code
def yX6_set : MethodName := ⟨RX6, "set", "(II)I"⟩
abbrev cX6_say : ByteArray := prog_8_method_12_code
def yX6_say : MethodName := ⟨RX6, "say", "(I)I"⟩
abbrev cX6_wipe : ByteArray := prog_8_method_13_code
def yX6_wipe : MethodName := ⟨RX6, "wipe", "()I"⟩
abbrev cX6_fault : ByteArray := prog_8_method_14_code
def yX6_fault : MethodName := ⟨RX6, "fault", "()I"⟩
abbrev cX6_before : ByteArray := prog_8_method_15_code
def yX6_before : MethodName := ⟨RX6, "before", "()I"⟩
abbrev cX6_beforehand : ByteArray := prog_8_method_16_code
def yX6_beforehand : MethodName := ⟨RX6, "beforehand", "(I)I"⟩
abbrev cX6_number : ByteArray := prog_8_method_17_code
def yX6_number : MethodName := ⟨RX6, "number", "(I)I"⟩
abbrev cX6_hear : ByteArray := prog_8_method_18_code
def yX6_hear : MethodName := ⟨RX6, "hear", "(II)I"⟩
abbrev cX6_forget : ByteArray := prog_8_method_19_code
def yX6_forget : MethodName := ⟨RX6, "forget", "()I"⟩
abbrev cX6_layHeard : ByteArray := prog_8_method_20_code
def yX6_layHeard : MethodName := ⟨RX6, "layHeard", "()V"⟩
abbrev cX6_hasForm : ByteArray := prog_8_method_21_code
def yX6_hasForm : MethodName := ⟨RX6, "hasForm", "(II)Z"⟩
abbrev cX6_likenessOf : ByteArray := prog_8_method_22_code
def yX6_likenessOf : MethodName := ⟨RX6, "likenessOf", "(I)J"⟩
abbrev cX6_likeness : ByteArray := prog_8_method_23_code
def yX6_likeness : MethodName := ⟨RX6, "likeness", "(I)J"⟩
abbrev cX6_thinks : ByteArray := prog_8_method_24_code
def yX6_thinks : MethodName := ⟨RX6, "thinks", "(II)J"⟩
abbrev cX6_hasAll : ByteArray := prog_8_method_25_code
def yX6_hasAll : MethodName := ⟨RX6, "hasAll", "(I)Z"⟩
abbrev cX6_taken : ByteArray := prog_8_method_26_code
def yX6_taken : MethodName := ⟨RX6, "taken", "()I"⟩
abbrev cX6_takes : ByteArray := prog_8_method_27_code
def yX6_takes : MethodName := ⟨RX6, "takes", "()I"⟩
abbrev cX6_lowerOf : ByteArray := prog_8_method_28_code
def yX6_lowerOf : MethodName := ⟨RX6, "lowerOf", "()J"⟩
abbrev cX6_oddsOf : ByteArray := prog_8_method_29_code
def yX6_oddsOf : MethodName := ⟨RX6, "oddsOf", "(II)J"⟩
abbrev cX6_findSteps : ByteArray := prog_8_method_30_code
def yX6_findSteps : MethodName := ⟨RX6, "findSteps", "(II)V"⟩
abbrev cX6_step : ByteArray := prog_8_method_31_code
def yX6_step : MethodName := ⟨RX6, "step", "(III)J"⟩
abbrev cX6_book : ByteArray := prog_8_method_32_code
def yX6_book : MethodName := ⟨RX6, "book", "(IIIII)J"⟩
abbrev cX6_live : ByteArray := prog_8_method_33_code
def yX6_live : MethodName := ⟨RX6, "live", "(II)V"⟩
abbrev cX6_isLives : ByteArray := prog_8_method_34_code
def yX6_isLives : MethodName := ⟨RX6, "isLives", "(I)Z"⟩
abbrev cX6_after : ByteArray := prog_8_method_35_code
def yX6_after : MethodName := ⟨RX6, "after", "(IIII)J"⟩
abbrev cX6_findLeads : ByteArray := prog_8_method_36_code
def yX6_findLeads : MethodName := ⟨RX6, "findLeads", "()V"⟩
abbrev cX6_leads : ByteArray := prog_8_method_37_code
def yX6_leads : MethodName := ⟨RX6, "leads", "(I)I"⟩
abbrev cX6_doesLast : ByteArray := prog_8_method_38_code
def yX6_doesLast : MethodName := ⟨RX6, "doesLast", "(I)Z"⟩
abbrev cX6_lasts : ByteArray := prog_8_method_39_code
def yX6_lasts : MethodName := ⟨RX6, "lasts", "(I)I"⟩
abbrev cX6_lives : ByteArray := prog_8_method_40_code
def yX6_lives : MethodName := ⟨RX6, "lives", "(IIIII)J"⟩
abbrev cX6_often : ByteArray := prog_8_method_41_code
def yX6_often : MethodName := ⟨RX6, "often", "(III)I"⟩
abbrev cX6_choose : ByteArray := prog_8_method_42_code
def yX6_choose : MethodName := ⟨RX6, "choose", "(II)Z"⟩
abbrev cX6_chosen : ByteArray := prog_8_method_43_code
def yX6_chosen : MethodName := ⟨RX6, "chosen", "(II)I"⟩
abbrev cX6_findCame : ByteArray := prog_8_method_44_code
def yX6_findCame : MethodName := ⟨RX6, "findCame", "(II)J"⟩
abbrev cX6_back : ByteArray := prog_8_method_45_code
def yX6_back : MethodName := ⟨RX6, "back", "(IIII)J"⟩
abbrev cX6_guess : ByteArray := prog_8_method_46_code
def yX6_guess : MethodName := ⟨RX6, "guess", "(III)I"⟩
abbrev cX6_told : ByteArray := prog_8_method_47_code
def yX6_told : MethodName := ⟨RX6, "told", "(I)I"⟩
def RJ6 : String := "java/lang/Integer"
def TJ6 : u_T := fun k => match k with
  | _ => ("", "", "", false)
def tyJ6 : Nat → FieldType := fun k => match k with
  | _ => .int
abbrev wsJ60 : List Cond := u_ws RJ6 TJ6 0
theorem nmJ6 : ∀ a, a < 0 → ∀ b, b < 0 → a ≠ b → (TJ6 a).2.1 ≠ (TJ6 b).2.1 := by decide +kernel
theorem tyJ6_ok : ∀ k, k < 0 → parseFieldDescriptor (TJ6 k).2.2.1 = some (tyJ6 k) := by decide +kernel
abbrev cJ6_bitCount_0f7a4 : ByteArray := prog_9_method_49_code
def yJ6_bitCount_0f7a4 : MethodName := ⟨RJ6, "bitCount", "(I)I"⟩
def RJ10 : String := "java/lang/System"
def TJ10 : u_T := fun k => match k with
  | _ => ("", "", "", false)
def tyJ10 : Nat → FieldType := fun k => match k with
  | _ => .int
abbrev wsJ100 : List Cond := u_ws RJ10 TJ10 0
theorem nmJ10 : ∀ a, a < 0 → ∀ b, b < 0 → a ≠ b → (TJ10 a).2.1 ≠ (TJ10 b).2.1 := by decide +kernel
theorem tyJ10_ok : ∀ k, k < 0 → parseFieldDescriptor (TJ10 k).2.2.1 = some (tyJ10 k) := by decide +kernel
def RJ7 : String := "java/util/Arrays"
def TJ7 : u_T := fun k => match k with
  | _ => ("", "", "", false)
def tyJ7 : Nat → FieldType := fun k => match k with
  | _ => .int
abbrev wsJ70 : List Cond := u_ws RJ7 TJ7 0
theorem nmJ7 : ∀ a, a < 0 → ∀ b, b < 0 → a ≠ b → (TJ7 a).2.1 ≠ (TJ7 b).2.1 := by decide +kernel
theorem tyJ7_ok : ∀ k, k < 0 → parseFieldDescriptor (TJ7 k).2.2.1 = some (tyJ7 k) := by decide +kernel
abbrev cJ7_fill_d0a16 : ByteArray := prog_11_method_101_code
def yJ7_fill_d0a16 : MethodName := ⟨RJ7, "fill", "([JJ)V"⟩
abbrev cJ7_fill_53178 : ByteArray := prog_11_method_103_code
def yJ7_fill_53178 : MethodName := ⟨RJ7, "fill", "([II)V"⟩
def RL : String := "TaughtTonguesLaw"
abbrev cL_law : ByteArray := code
def yL_law : MethodName := ⟨RL, "law", "([I)Z"⟩
def wsX0_init : List Cond := .code yX0_init cX0_init 1 none :: ([.methodLink RX0 3 objectInit, .instanceMethod objectInit, .code objectInit ⟨#[0xb1]⟩ 1 none, .arrayClass .int, .fieldLink RX0 9 "TaughtTongues$Counts" "times" "[I", .fieldLink RX0 15 "TaughtTongues$Counts" "all" "I"] ++ wsX00)
def wsX0_add : List Cond := .code yX0_add cX0_add 2 none :: ([.fieldLink RX0 9 "TaughtTongues$Counts" "times" "[I", .fieldLink RX0 15 "TaughtTongues$Counts" "all" "I"] ++ wsX00)
def wsJ7_fill_53178 : List Cond := .code yJ7_fill_53178 cJ7_fill_53178 4 none :: ([])
def wsX0_clear : List Cond := .code yX0_clear cX0_clear 1 none :: ([.fieldLink RX0 9 "TaughtTongues$Counts" "times" "[I", .fieldLink RX0 15 "TaughtTongues$Counts" "all" "I", .methodLink RX0 19 yJ7_fill_53178, .static yJ7_fill_53178, .initialized RJ7, .code yJ7_fill_53178 cJ7_fill_53178 4 none] ++ wsX00)
def wsX5_formOf : List Cond := .code yX5_formOf cX5_formOf 2 (some .int) :: ([])
def wsX0_sharedWith : List Cond := .code yX0_sharedWith cX0_sharedWith 4 (some .int) :: ([.fieldLink RX0 9 "TaughtTongues$Counts" "times" "[I", .static yX5_formOf, .initialized RX5, .code yX5_formOf cX5_formOf 2 (some .int)] ++ wsX00)
def wsX1_init : List Cond := .code yX1_init cX1_init 1 none :: ([.methodLink RX1 3 objectInit, .instanceMethod objectInit, .code objectInit ⟨#[0xb1]⟩ 1 none, .arrayClass .int, .fieldLink RX1 9 "TaughtTongues$Learner" "numbers" "[I", .fieldLink RX1 15 "TaughtTongues$Learner" "slip" "I", .fieldLink RX1 19 "TaughtTongues$Learner" "kind" "I"] ++ wsX10)
def wsX5_power : List Cond := .code yX5_power cX5_power 6 (some .long) :: ([])
def wsX1_likenessBy : List Cond := .code yX1_likenessBy cX1_likenessBy 4 (some .long) :: ([.fieldLink RX1 9 "TaughtTongues$Learner" "numbers" "[I", .fieldLink RX1 15 "TaughtTongues$Learner" "slip" "I", .static yX5_power, .initialized RX5, .code yX5_power cX5_power 6 (some .long)] ++ wsX10)
def wsX1_likenessOf : List Cond := .code yX1_likenessOf cX1_likenessOf 4 (some .long) :: ([.methodLink RX1 22 yX0_sharedWith, .instanceMethod yX0_sharedWith, .selects RX0 yX0_sharedWith yX0_sharedWith, .initialized RX0, .code yX0_sharedWith cX0_sharedWith 4 (some .int), .fieldLink RX0 9 "TaughtTongues$Counts" "times" "[I", .static yX5_formOf, .initialized RX5, .code yX5_formOf cX5_formOf 2 (some .int), .methodLink RX1 31 yX1_likenessBy, .instanceMethod yX1_likenessBy, .selects RX1 yX1_likenessBy yX1_likenessBy, .initialized RX1, .code yX1_likenessBy cX1_likenessBy 4 (some .long), .fieldLink RX1 9 "TaughtTongues$Learner" "numbers" "[I", .fieldLink RX1 15 "TaughtTongues$Learner" "slip" "I", .static yX5_power, .code yX5_power cX5_power 6 (some .long)] ++ wsX00 ++ wsX10)
def wsJ6_bitCount_0f7a4 : List Cond := .code yJ6_bitCount_0f7a4 cJ6_bitCount_0f7a4 1 (some .int) :: ([.constant RJ6 265 (1431655765), .constant RJ6 266 (858993459), .constant RJ6 267 (252645135)])
def wsX1_isRather : List Cond := .code yX1_isRather cX1_isRather 3 (some .boolean) :: ([.fieldLink RX1 19 "TaughtTongues$Learner" "kind" "I", .methodLink RX1 45 yJ6_bitCount_0f7a4, .static yJ6_bitCount_0f7a4, .initialized RJ6, .code yJ6_bitCount_0f7a4 cJ6_bitCount_0f7a4 1 (some .int), .constant RJ6 265 (1431655765), .constant RJ6 266 (858993459), .constant RJ6 267 (252645135)] ++ wsX10)
def wsX1_choice_r1 : List Cond := [Cond.constantLong RX1 39 (-1), Cond.fieldLink RX1 19 "TaughtTongues$Learner" "kind" "I", Cond.methodLink RX1 22 yX0_sharedWith, Cond.instanceMethod yX0_sharedWith, Cond.selects RX0 yX0_sharedWith yX0_sharedWith, Cond.initialized RX0, Cond.code yX0_sharedWith cX0_sharedWith 4 (some .int), Cond.fieldLink RX0 9 "TaughtTongues$Counts" "times" "[I", Cond.static yX5_formOf, Cond.initialized RX5, Cond.code yX5_formOf cX5_formOf 2 (some .int), Cond.methodLink RX1 31 yX1_likenessBy, Cond.instanceMethod yX1_likenessBy, Cond.selects RX1 yX1_likenessBy yX1_likenessBy, Cond.initialized RX1, Cond.code yX1_likenessBy cX1_likenessBy 4 (some .long), Cond.fieldLink RX1 9 "TaughtTongues$Learner" "numbers" "[I", Cond.fieldLink RX1 15 "TaughtTongues$Learner" "slip" "I", Cond.static yX5_power, Cond.code yX5_power cX5_power 6 (some .long), Cond.methodLink RX1 41 yX1_isRather, Cond.instanceMethod yX1_isRather, Cond.selects RX1 yX1_isRather yX1_isRather, Cond.code yX1_isRather cX1_isRather 3 (some .boolean)]
def wsX1_choice_r2 : List Cond := [Cond.methodLink RX1 45 yJ6_bitCount_0f7a4, Cond.static yJ6_bitCount_0f7a4, Cond.initialized RJ6, Cond.code yJ6_bitCount_0f7a4 cJ6_bitCount_0f7a4 1 (some .int), Cond.constant RJ6 265 (1431655765), Cond.constant RJ6 266 (858993459), Cond.constant RJ6 267 (252645135)]
def wsX1_choice : List Cond := .code yX1_choice cX1_choice 9 (some .int) :: ((wsX1_choice_r1 ++ wsX1_choice_r2) ++ wsX10 ++ wsX00)
def wsX2_makeGreaterOnes : List Cond := .code yX2_makeGreaterOnes cX2_makeGreaterOnes 5 none :: ([.fieldLink RX2 18 "TaughtTongues$Lots" "FIRST" "[I", .fieldLink RX2 15 "TaughtTongues$Lots" "last" "[I", .fieldLink RX2 21 "TaughtTongues$Lots" "greater" "[I", .fieldLink RX2 11 "TaughtTongues$Lots" "smaller" "[I"] ++ wsX20)
def wsX2_joinGreaterOnes : List Cond := .code yX2_joinGreaterOnes cX2_joinGreaterOnes 5 none :: ([.fieldLink RX2 18 "TaughtTongues$Lots" "FIRST" "[I", .fieldLink RX2 15 "TaughtTongues$Lots" "last" "[I", .fieldLink RX2 21 "TaughtTongues$Lots" "greater" "[I", .fieldLink RX2 11 "TaughtTongues$Lots" "smaller" "[I"] ++ wsX20)
def wsX2_forgetChoices : List Cond := .code yX2_forgetChoices cX2_forgetChoices 1 none :: ([.fieldLink RX2 24 "TaughtTongues$Lots" "choices" "[I", .methodLink RX2 48 yJ7_fill_53178, .static yJ7_fill_53178, .initialized RJ7, .code yJ7_fill_53178 cJ7_fill_53178 4 none] ++ wsX20)
def wsX2_init_r1 : List Cond := [Cond.methodLink RX2 3 objectInit, Cond.instanceMethod objectInit, Cond.code objectInit ⟨#[0xb1]⟩ 1 none, Cond.arrayClass .int, Cond.fieldLink RX2 11 "TaughtTongues$Lots" "smaller" "[I", Cond.fieldLink RX2 15 "TaughtTongues$Lots" "last" "[I", Cond.fieldLink RX2 18 "TaughtTongues$Lots" "FIRST" "[I", Cond.fieldLink RX2 21 "TaughtTongues$Lots" "greater" "[I", Cond.fieldLink RX2 24 "TaughtTongues$Lots" "choices" "[I", Cond.classLink RX2 27 RX0, Cond.instantiable RX0 2, Cond.initialized RX0, Cond.fieldLink RX2 30 "TaughtTongues$Lots" "counts" "LTaughtTongues$Counts;", Cond.fieldLink RX2 34 "TaughtTongues$Lots" "learner" "LTaughtTongues$Learner;", Cond.instanceMethod yX0_init, Cond.code yX0_init cX0_init 1 none, Cond.methodLink RX0 3 objectInit, Cond.fieldLink RX0 9 "TaughtTongues$Counts" "times" "[I", Cond.fieldLink RX0 15 "TaughtTongues$Counts" "all" "I", Cond.methodLink RX2 38 yX2_makeGreaterOnes, Cond.instanceMethod yX2_makeGreaterOnes, Cond.selects RX2 yX2_makeGreaterOnes yX2_makeGreaterOnes, Cond.initialized RX2, Cond.code yX2_makeGreaterOnes cX2_makeGreaterOnes 5 none]
def wsX2_init_r2 : List Cond := [Cond.methodLink RX2 42 yX2_joinGreaterOnes, Cond.instanceMethod yX2_joinGreaterOnes, Cond.selects RX2 yX2_joinGreaterOnes yX2_joinGreaterOnes, Cond.code yX2_joinGreaterOnes cX2_joinGreaterOnes 5 none, Cond.methodLink RX2 45 yX2_forgetChoices, Cond.instanceMethod yX2_forgetChoices, Cond.selects RX2 yX2_forgetChoices yX2_forgetChoices, Cond.code yX2_forgetChoices cX2_forgetChoices 1 none, Cond.methodLink RX2 48 yJ7_fill_53178, Cond.static yJ7_fill_53178, Cond.initialized RJ7, Cond.code yJ7_fill_53178 cJ7_fill_53178 4 none]
def wsX2_init : List Cond := .code yX2_init cX2_init 3 none :: ((wsX2_init_r1 ++ wsX2_init_r2) ++ wsX20 ++ wsX00)
def wsX2_countSayings : List Cond := .code yX2_countSayings cX2_countSayings 4 none :: ([.fieldLink RX2 30 "TaughtTongues$Lots" "counts" "LTaughtTongues$Counts;", .fieldLink RX2 15 "TaughtTongues$Lots" "last" "[I", .fieldLink RX2 11 "TaughtTongues$Lots" "smaller" "[I", .methodLink RX2 63 yX0_clear, .instanceMethod yX0_clear, .selects RX0 yX0_clear yX0_clear, .initialized RX0, .code yX0_clear cX0_clear 1 none, .fieldLink RX0 9 "TaughtTongues$Counts" "times" "[I", .fieldLink RX0 15 "TaughtTongues$Counts" "all" "I", .methodLink RX0 19 yJ7_fill_53178, .static yJ7_fill_53178, .initialized RJ7, .code yJ7_fill_53178 cJ7_fill_53178 4 none, .methodLink RX2 66 yX0_add, .instanceMethod yX0_add, .selects RX0 yX0_add yX0_add, .code yX0_add cX0_add 2 none] ++ wsX20 ++ wsX00)
def wsX2_choiceBehind_r1 : List Cond := [Cond.fieldLink RX2 24 "TaughtTongues$Lots" "choices" "[I", Cond.fieldLink RX2 34 "TaughtTongues$Lots" "learner" "LTaughtTongues$Learner;", Cond.fieldLink RX2 30 "TaughtTongues$Lots" "counts" "LTaughtTongues$Counts;", Cond.methodLink RX2 54 yX2_countSayings, Cond.instanceMethod yX2_countSayings, Cond.selects RX2 yX2_countSayings yX2_countSayings, Cond.initialized RX2, Cond.code yX2_countSayings cX2_countSayings 4 none, Cond.fieldLink RX2 15 "TaughtTongues$Lots" "last" "[I", Cond.fieldLink RX2 11 "TaughtTongues$Lots" "smaller" "[I", Cond.methodLink RX2 63 yX0_clear, Cond.instanceMethod yX0_clear, Cond.selects RX0 yX0_clear yX0_clear, Cond.initialized RX0, Cond.code yX0_clear cX0_clear 1 none, Cond.fieldLink RX0 9 "TaughtTongues$Counts" "times" "[I", Cond.fieldLink RX0 15 "TaughtTongues$Counts" "all" "I", Cond.methodLink RX0 19 yJ7_fill_53178, Cond.static yJ7_fill_53178, Cond.initialized RJ7, Cond.code yJ7_fill_53178 cJ7_fill_53178 4 none, Cond.methodLink RX2 66 yX0_add, Cond.instanceMethod yX0_add, Cond.selects RX0 yX0_add yX0_add]
def wsX2_choiceBehind_r2 : List Cond := [Cond.code yX0_add cX0_add 2 none, Cond.methodLink RX2 57 yX1_choice, Cond.instanceMethod yX1_choice, Cond.selects RX1 yX1_choice yX1_choice, Cond.initialized RX1, Cond.code yX1_choice cX1_choice 9 (some .int), Cond.constantLong RX1 39 (-1), Cond.fieldLink RX1 19 "TaughtTongues$Learner" "kind" "I", Cond.methodLink RX1 22 yX0_sharedWith, Cond.instanceMethod yX0_sharedWith, Cond.selects RX0 yX0_sharedWith yX0_sharedWith, Cond.code yX0_sharedWith cX0_sharedWith 4 (some .int), Cond.static yX5_formOf, Cond.initialized RX5, Cond.code yX5_formOf cX5_formOf 2 (some .int), Cond.methodLink RX1 31 yX1_likenessBy, Cond.instanceMethod yX1_likenessBy, Cond.selects RX1 yX1_likenessBy yX1_likenessBy, Cond.code yX1_likenessBy cX1_likenessBy 4 (some .long), Cond.fieldLink RX1 9 "TaughtTongues$Learner" "numbers" "[I", Cond.fieldLink RX1 15 "TaughtTongues$Learner" "slip" "I", Cond.static yX5_power, Cond.code yX5_power cX5_power 6 (some .long), Cond.methodLink RX1 41 yX1_isRather]
def wsX2_choiceBehind_r3 : List Cond := [Cond.instanceMethod yX1_isRather, Cond.selects RX1 yX1_isRather yX1_isRather, Cond.code yX1_isRather cX1_isRather 3 (some .boolean), Cond.methodLink RX1 45 yJ6_bitCount_0f7a4, Cond.static yJ6_bitCount_0f7a4, Cond.initialized RJ6, Cond.code yJ6_bitCount_0f7a4 cJ6_bitCount_0f7a4 1 (some .int), Cond.constant RJ6 265 (1431655765), Cond.constant RJ6 266 (858993459), Cond.constant RJ6 267 (252645135)]
def wsX2_choiceBehind : List Cond := .code yX2_choiceBehind cX2_choiceBehind 2 (some .int) :: ((wsX2_choiceBehind_r1 ++ (wsX2_choiceBehind_r2 ++ wsX2_choiceBehind_r3)) ++ wsX20 ++ wsX00 ++ wsX10)
def wsX2_sizeOf : List Cond := .code yX2_sizeOf cX2_sizeOf 3 (some .int) :: ([.fieldLink RX2 18 "TaughtTongues$Lots" "FIRST" "[I"])
def wsX2_sayingOf : List Cond := .code yX2_sayingOf cX2_sayingOf 5 (some .int) :: ([.fieldLink RX2 11 "TaughtTongues$Lots" "smaller" "[I", .fieldLink RX2 15 "TaughtTongues$Lots" "last" "[I"] ++ wsX20)
def wsX2_firstThatTeaches_r1 : List Cond := [Cond.fieldLink RX2 30 "TaughtTongues$Lots" "counts" "LTaughtTongues$Counts;", Cond.methodLink RX2 54 yX2_countSayings, Cond.instanceMethod yX2_countSayings, Cond.selects RX2 yX2_countSayings yX2_countSayings, Cond.initialized RX2, Cond.code yX2_countSayings cX2_countSayings 4 none, Cond.fieldLink RX2 15 "TaughtTongues$Lots" "last" "[I", Cond.fieldLink RX2 11 "TaughtTongues$Lots" "smaller" "[I", Cond.methodLink RX2 63 yX0_clear, Cond.instanceMethod yX0_clear, Cond.selects RX0 yX0_clear yX0_clear, Cond.initialized RX0, Cond.code yX0_clear cX0_clear 1 none, Cond.fieldLink RX0 9 "TaughtTongues$Counts" "times" "[I", Cond.fieldLink RX0 15 "TaughtTongues$Counts" "all" "I", Cond.methodLink RX0 19 yJ7_fill_53178, Cond.static yJ7_fill_53178, Cond.initialized RJ7, Cond.code yJ7_fill_53178 cJ7_fill_53178 4 none, Cond.methodLink RX2 66 yX0_add, Cond.instanceMethod yX0_add, Cond.selects RX0 yX0_add yX0_add, Cond.code yX0_add cX0_add 2 none, Cond.methodLink RX2 69 yX0_sharedWith]
def wsX2_firstThatTeaches_r2 : List Cond := [Cond.instanceMethod yX0_sharedWith, Cond.selects RX0 yX0_sharedWith yX0_sharedWith, Cond.code yX0_sharedWith cX0_sharedWith 4 (some .int), Cond.static yX5_formOf, Cond.initialized RX5, Cond.code yX5_formOf cX5_formOf 2 (some .int), Cond.methodLink RX2 77 yX2_choiceBehind, Cond.instanceMethod yX2_choiceBehind, Cond.selects RX2 yX2_choiceBehind yX2_choiceBehind, Cond.code yX2_choiceBehind cX2_choiceBehind 2 (some .int), Cond.fieldLink RX2 24 "TaughtTongues$Lots" "choices" "[I", Cond.fieldLink RX2 34 "TaughtTongues$Lots" "learner" "LTaughtTongues$Learner;", Cond.methodLink RX2 57 yX1_choice, Cond.instanceMethod yX1_choice, Cond.selects RX1 yX1_choice yX1_choice, Cond.initialized RX1, Cond.code yX1_choice cX1_choice 9 (some .int), Cond.constantLong RX1 39 (-1), Cond.fieldLink RX1 19 "TaughtTongues$Learner" "kind" "I", Cond.methodLink RX1 22 yX0_sharedWith, Cond.methodLink RX1 31 yX1_likenessBy, Cond.instanceMethod yX1_likenessBy, Cond.selects RX1 yX1_likenessBy yX1_likenessBy, Cond.code yX1_likenessBy cX1_likenessBy 4 (some .long)]
def wsX2_firstThatTeaches_r3 : List Cond := [Cond.fieldLink RX1 9 "TaughtTongues$Learner" "numbers" "[I", Cond.fieldLink RX1 15 "TaughtTongues$Learner" "slip" "I", Cond.static yX5_power, Cond.code yX5_power cX5_power 6 (some .long), Cond.methodLink RX1 41 yX1_isRather, Cond.instanceMethod yX1_isRather, Cond.selects RX1 yX1_isRather yX1_isRather, Cond.code yX1_isRather cX1_isRather 3 (some .boolean), Cond.methodLink RX1 45 yJ6_bitCount_0f7a4, Cond.static yJ6_bitCount_0f7a4, Cond.initialized RJ6, Cond.code yJ6_bitCount_0f7a4 cJ6_bitCount_0f7a4 1 (some .int), Cond.constant RJ6 265 (1431655765), Cond.constant RJ6 266 (858993459), Cond.constant RJ6 267 (252645135)]
def wsX2_firstThatTeaches : List Cond := .code yX2_firstThatTeaches cX2_firstThatTeaches 3 (some .int) :: ((wsX2_firstThatTeaches_r1 ++ (wsX2_firstThatTeaches_r2 ++ wsX2_firstThatTeaches_r3)) ++ wsX20 ++ wsX00 ++ wsX10)
def wsX3_init : List Cond := .code yX3_init cX3_init 1 none :: ([.methodLink RX3 3 objectInit, .instanceMethod objectInit, .code objectInit ⟨#[0xb1]⟩ 1 none, .arrayClass .int, .fieldLink RX3 11 "TaughtTongues$Signs" "codes" "[I", .fieldLink RX3 15 "TaughtTongues$Signs" "count" "I"] ++ wsX30)
def wsX3_add : List Cond := .code yX3_add cX3_add 2 (some .boolean) :: ([.fieldLink RX3 15 "TaughtTongues$Signs" "count" "I", .fieldLink RX3 11 "TaughtTongues$Signs" "codes" "[I"] ++ wsX30)
def wsX3_clear : List Cond := .code yX3_clear cX3_clear 2 (some .int) :: ([.fieldLink RX3 15 "TaughtTongues$Signs" "count" "I"] ++ wsX30)
def wsX3_canStand : List Cond := .code yX3_canStand cX3_canStand 2 (some .boolean) :: ([])
def wsX3_firstFault : List Cond := .code yX3_firstFault cX3_firstFault 2 (some .int) :: ([.fieldLink RX3 15 "TaughtTongues$Signs" "count" "I", .fieldLink RX3 11 "TaughtTongues$Signs" "codes" "[I", .methodLink RX3 19 yX3_canStand, .static yX3_canStand, .initialized RX3, .code yX3_canStand cX3_canStand 2 (some .boolean)] ++ wsX30)
def wsX3_lines : List Cond := .code yX3_lines cX3_lines 1 (some .int) :: ([.fieldLink RX3 15 "TaughtTongues$Signs" "count" "I"] ++ wsX30)
def wsX3_lineFits : List Cond := .code yX3_lineFits cX3_lineFits 5 (some .boolean) :: ([.fieldLink RX3 11 "TaughtTongues$Signs" "codes" "[I", .static yX5_formOf, .initialized RX5, .code yX5_formOf cX5_formOf 2 (some .int)] ++ wsX30)
def wsX3_numberFor : List Cond := .code yX3_numberFor cX3_numberFor 3 (some .int) :: ([.fieldLink RX3 15 "TaughtTongues$Signs" "count" "I", .fieldLink RX3 11 "TaughtTongues$Signs" "codes" "[I", .methodLink RX3 23 yX3_lineFits, .instanceMethod yX3_lineFits, .selects RX3 yX3_lineFits yX3_lineFits, .initialized RX3, .code yX3_lineFits cX3_lineFits 5 (some .boolean), .static yX5_formOf, .initialized RX5, .code yX5_formOf cX5_formOf 2 (some .int)] ++ wsX30)
def wsX4_init : List Cond := .code yX4_init cX4_init 3 none :: ([.methodLink RX4 3 objectInit, .instanceMethod objectInit, .code objectInit ⟨#[0xb1]⟩ 1 none, .arrayClass .int, .fieldLink RX4 9 "TaughtTongues$Steps" "weights" "[I", .fieldLink RX4 15 "TaughtTongues$Steps" "hears" "I", .arrayClass .long, .fieldLink RX4 19 "TaughtTongues$Steps" "bookSays" "[J", .fieldLink RX4 23 "TaughtTongues$Steps" "teacherSays" "[J", .fieldLink RX4 28 "TaughtTongues$Steps" "lotOdds" "[J", .fieldLink RX4 31 "TaughtTongues$Steps" "row" "[J", .fieldLink RX4 34 "TaughtTongues$Steps" "odds" "[J", .fieldLink RX4 37 "TaughtTongues$Steps" "known" "Z", .fieldLink RX4 41 "TaughtTongues$Steps" "now" "[J", .fieldLink RX4 44 "TaughtTongues$Steps" "next" "[J", .fieldLink RX4 47 "TaughtTongues$Steps" "learner" "LTaughtTongues$Learner;", .fieldLink RX4 51 "TaughtTongues$Steps" "lots" "LTaughtTongues$Lots;"] ++ wsX40)
def wsX4_whole : List Cond := .code yX4_whole cX4_whole 2 (some .long) :: ([.fieldLink RX4 9 "TaughtTongues$Steps" "weights" "[I", .fieldLink RX4 15 "TaughtTongues$Steps" "hears" "I", .static yX5_power, .initialized RX5, .code yX5_power cX5_power 6 (some .long)] ++ wsX40)
def wsX4_listSayings : List Cond := .code yX4_listSayings cX4_listSayings 6 none :: ([.fieldLink RX4 9 "TaughtTongues$Steps" "weights" "[I", .fieldLink RX4 47 "TaughtTongues$Steps" "learner" "LTaughtTongues$Learner;", .static yX5_formOf, .initialized RX5, .code yX5_formOf cX5_formOf 2 (some .int)] ++ wsX40 ++ wsX10)
def wsJ7_fill_d0a16 : List Cond := .code yJ7_fill_d0a16 cJ7_fill_d0a16 5 none :: ([])
def wsX4_hearOneMore : List Cond := .code yX4_hearOneMore cX4_hearOneMore 5 none :: ([.fieldLink RX4 28 "TaughtTongues$Steps" "lotOdds" "[J", .fieldLink RX4 51 "TaughtTongues$Steps" "lots" "LTaughtTongues$Lots;"] ++ wsX40 ++ wsX20)
def wsX4_rowOf_r1 : List Cond := [Cond.fieldLink RX4 19 "TaughtTongues$Steps" "bookSays" "[J", Cond.fieldLink RX4 23 "TaughtTongues$Steps" "teacherSays" "[J", Cond.fieldLink RX4 28 "TaughtTongues$Steps" "lotOdds" "[J", Cond.fieldLink RX4 15 "TaughtTongues$Steps" "hears" "I", Cond.fieldLink RX4 31 "TaughtTongues$Steps" "row" "[J", Cond.fieldLink RX4 51 "TaughtTongues$Steps" "lots" "LTaughtTongues$Lots;", Cond.methodLink RX4 59 yX4_listSayings, Cond.instanceMethod yX4_listSayings, Cond.selects RX4 yX4_listSayings yX4_listSayings, Cond.initialized RX4, Cond.code yX4_listSayings cX4_listSayings 6 none, Cond.fieldLink RX4 9 "TaughtTongues$Steps" "weights" "[I", Cond.fieldLink RX4 47 "TaughtTongues$Steps" "learner" "LTaughtTongues$Learner;", Cond.static yX5_formOf, Cond.initialized RX5, Cond.code yX5_formOf cX5_formOf 2 (some .int), Cond.methodLink RX4 63 yJ7_fill_d0a16, Cond.static yJ7_fill_d0a16, Cond.initialized RJ7, Cond.code yJ7_fill_d0a16 cJ7_fill_d0a16 5 none, Cond.methodLink RX4 69 yX4_hearOneMore, Cond.instanceMethod yX4_hearOneMore, Cond.selects RX4 yX4_hearOneMore yX4_hearOneMore, Cond.code yX4_hearOneMore cX4_hearOneMore 5 none]
def wsX4_rowOf_r2 : List Cond := [Cond.methodLink RX4 75 yX2_choiceBehind, Cond.instanceMethod yX2_choiceBehind, Cond.selects RX2 yX2_choiceBehind yX2_choiceBehind, Cond.initialized RX2, Cond.code yX2_choiceBehind cX2_choiceBehind 2 (some .int), Cond.fieldLink RX2 24 "TaughtTongues$Lots" "choices" "[I", Cond.fieldLink RX2 34 "TaughtTongues$Lots" "learner" "LTaughtTongues$Learner;", Cond.fieldLink RX2 30 "TaughtTongues$Lots" "counts" "LTaughtTongues$Counts;", Cond.methodLink RX2 54 yX2_countSayings, Cond.instanceMethod yX2_countSayings, Cond.selects RX2 yX2_countSayings yX2_countSayings, Cond.code yX2_countSayings cX2_countSayings 4 none, Cond.fieldLink RX2 15 "TaughtTongues$Lots" "last" "[I", Cond.fieldLink RX2 11 "TaughtTongues$Lots" "smaller" "[I", Cond.methodLink RX2 63 yX0_clear, Cond.instanceMethod yX0_clear, Cond.selects RX0 yX0_clear yX0_clear, Cond.initialized RX0, Cond.code yX0_clear cX0_clear 1 none, Cond.fieldLink RX0 9 "TaughtTongues$Counts" "times" "[I", Cond.fieldLink RX0 15 "TaughtTongues$Counts" "all" "I", Cond.methodLink RX0 19 yJ7_fill_53178, Cond.static yJ7_fill_53178, Cond.code yJ7_fill_53178 cJ7_fill_53178 4 none]
def wsX4_rowOf_r3 : List Cond := [Cond.methodLink RX2 66 yX0_add, Cond.instanceMethod yX0_add, Cond.selects RX0 yX0_add yX0_add, Cond.code yX0_add cX0_add 2 none, Cond.methodLink RX2 57 yX1_choice, Cond.instanceMethod yX1_choice, Cond.selects RX1 yX1_choice yX1_choice, Cond.initialized RX1, Cond.code yX1_choice cX1_choice 9 (some .int), Cond.constantLong RX1 39 (-1), Cond.fieldLink RX1 19 "TaughtTongues$Learner" "kind" "I", Cond.methodLink RX1 22 yX0_sharedWith, Cond.instanceMethod yX0_sharedWith, Cond.selects RX0 yX0_sharedWith yX0_sharedWith, Cond.code yX0_sharedWith cX0_sharedWith 4 (some .int), Cond.methodLink RX1 31 yX1_likenessBy, Cond.instanceMethod yX1_likenessBy, Cond.selects RX1 yX1_likenessBy yX1_likenessBy, Cond.code yX1_likenessBy cX1_likenessBy 4 (some .long), Cond.fieldLink RX1 9 "TaughtTongues$Learner" "numbers" "[I", Cond.fieldLink RX1 15 "TaughtTongues$Learner" "slip" "I", Cond.static yX5_power, Cond.code yX5_power cX5_power 6 (some .long), Cond.methodLink RX1 41 yX1_isRather]
def wsX4_rowOf_r4 : List Cond := [Cond.instanceMethod yX1_isRather, Cond.selects RX1 yX1_isRather yX1_isRather, Cond.code yX1_isRather cX1_isRather 3 (some .boolean), Cond.methodLink RX1 45 yJ6_bitCount_0f7a4, Cond.static yJ6_bitCount_0f7a4, Cond.initialized RJ6, Cond.code yJ6_bitCount_0f7a4 cJ6_bitCount_0f7a4 1 (some .int), Cond.constant RJ6 265 (1431655765), Cond.constant RJ6 266 (858993459), Cond.constant RJ6 267 (252645135)]
def wsX4_rowOf : List Cond := .code yX4_rowOf cX4_rowOf 5 (some (.array .long)) :: ((wsX4_rowOf_r1 ++ (wsX4_rowOf_r2 ++ (wsX4_rowOf_r3 ++ wsX4_rowOf_r4))) ++ wsX40 ++ wsX10 ++ wsX20 ++ wsX00)
def wsX4_know_r1 : List Cond := [Cond.fieldLink RX4 37 "TaughtTongues$Steps" "known" "Z", Cond.fieldLink RX4 34 "TaughtTongues$Steps" "odds" "[J", Cond.methodLink RX4 95 arraycopyName, Cond.native arraycopyName, Cond.static arraycopyName, Cond.initialized "java/lang/System", Cond.methodLink RX4 91 yX4_rowOf, Cond.instanceMethod yX4_rowOf, Cond.selects RX4 yX4_rowOf yX4_rowOf, Cond.initialized RX4, Cond.code yX4_rowOf cX4_rowOf 5 (some (.array .long)), Cond.fieldLink RX4 19 "TaughtTongues$Steps" "bookSays" "[J", Cond.fieldLink RX4 23 "TaughtTongues$Steps" "teacherSays" "[J", Cond.fieldLink RX4 28 "TaughtTongues$Steps" "lotOdds" "[J", Cond.fieldLink RX4 15 "TaughtTongues$Steps" "hears" "I", Cond.fieldLink RX4 31 "TaughtTongues$Steps" "row" "[J", Cond.fieldLink RX4 51 "TaughtTongues$Steps" "lots" "LTaughtTongues$Lots;", Cond.methodLink RX4 59 yX4_listSayings, Cond.instanceMethod yX4_listSayings, Cond.selects RX4 yX4_listSayings yX4_listSayings, Cond.code yX4_listSayings cX4_listSayings 6 none, Cond.fieldLink RX4 9 "TaughtTongues$Steps" "weights" "[I", Cond.fieldLink RX4 47 "TaughtTongues$Steps" "learner" "LTaughtTongues$Learner;", Cond.static yX5_formOf]
def wsX4_know_r2 : List Cond := [Cond.initialized RX5, Cond.code yX5_formOf cX5_formOf 2 (some .int), Cond.methodLink RX4 63 yJ7_fill_d0a16, Cond.static yJ7_fill_d0a16, Cond.initialized RJ7, Cond.code yJ7_fill_d0a16 cJ7_fill_d0a16 5 none, Cond.methodLink RX4 69 yX4_hearOneMore, Cond.instanceMethod yX4_hearOneMore, Cond.selects RX4 yX4_hearOneMore yX4_hearOneMore, Cond.code yX4_hearOneMore cX4_hearOneMore 5 none, Cond.methodLink RX4 75 yX2_choiceBehind, Cond.instanceMethod yX2_choiceBehind, Cond.selects RX2 yX2_choiceBehind yX2_choiceBehind, Cond.initialized RX2, Cond.code yX2_choiceBehind cX2_choiceBehind 2 (some .int), Cond.fieldLink RX2 24 "TaughtTongues$Lots" "choices" "[I", Cond.fieldLink RX2 34 "TaughtTongues$Lots" "learner" "LTaughtTongues$Learner;", Cond.fieldLink RX2 30 "TaughtTongues$Lots" "counts" "LTaughtTongues$Counts;", Cond.methodLink RX2 54 yX2_countSayings, Cond.instanceMethod yX2_countSayings, Cond.selects RX2 yX2_countSayings yX2_countSayings, Cond.code yX2_countSayings cX2_countSayings 4 none, Cond.fieldLink RX2 15 "TaughtTongues$Lots" "last" "[I", Cond.fieldLink RX2 11 "TaughtTongues$Lots" "smaller" "[I"]
def wsX4_know_r3 : List Cond := [Cond.methodLink RX2 63 yX0_clear, Cond.instanceMethod yX0_clear, Cond.selects RX0 yX0_clear yX0_clear, Cond.initialized RX0, Cond.code yX0_clear cX0_clear 1 none, Cond.fieldLink RX0 9 "TaughtTongues$Counts" "times" "[I", Cond.fieldLink RX0 15 "TaughtTongues$Counts" "all" "I", Cond.methodLink RX0 19 yJ7_fill_53178, Cond.static yJ7_fill_53178, Cond.code yJ7_fill_53178 cJ7_fill_53178 4 none, Cond.methodLink RX2 66 yX0_add, Cond.instanceMethod yX0_add, Cond.selects RX0 yX0_add yX0_add, Cond.code yX0_add cX0_add 2 none, Cond.methodLink RX2 57 yX1_choice, Cond.instanceMethod yX1_choice, Cond.selects RX1 yX1_choice yX1_choice, Cond.initialized RX1, Cond.code yX1_choice cX1_choice 9 (some .int), Cond.constantLong RX1 39 (-1), Cond.fieldLink RX1 19 "TaughtTongues$Learner" "kind" "I", Cond.methodLink RX1 22 yX0_sharedWith, Cond.instanceMethod yX0_sharedWith, Cond.selects RX0 yX0_sharedWith yX0_sharedWith]
def wsX4_know_r4 : List Cond := [Cond.code yX0_sharedWith cX0_sharedWith 4 (some .int), Cond.methodLink RX1 31 yX1_likenessBy, Cond.instanceMethod yX1_likenessBy, Cond.selects RX1 yX1_likenessBy yX1_likenessBy, Cond.code yX1_likenessBy cX1_likenessBy 4 (some .long), Cond.fieldLink RX1 9 "TaughtTongues$Learner" "numbers" "[I", Cond.fieldLink RX1 15 "TaughtTongues$Learner" "slip" "I", Cond.static yX5_power, Cond.code yX5_power cX5_power 6 (some .long), Cond.methodLink RX1 41 yX1_isRather, Cond.instanceMethod yX1_isRather, Cond.selects RX1 yX1_isRather yX1_isRather, Cond.code yX1_isRather cX1_isRather 3 (some .boolean), Cond.methodLink RX1 45 yJ6_bitCount_0f7a4, Cond.static yJ6_bitCount_0f7a4, Cond.initialized RJ6, Cond.code yJ6_bitCount_0f7a4 cJ6_bitCount_0f7a4 1 (some .int), Cond.constant RJ6 265 (1431655765), Cond.constant RJ6 266 (858993459), Cond.constant RJ6 267 (252645135)]
def wsX4_know : List Cond := .code yX4_know cX4_know 2 none :: ((wsX4_know_r1 ++ (wsX4_know_r2 ++ (wsX4_know_r3 ++ wsX4_know_r4))) ++ wsX40 ++ wsX10 ++ wsX20 ++ wsX00)
def wsX4_startAt : List Cond := .code yX4_startAt cX4_startAt 2 none :: ([.fieldLink RX4 41 "TaughtTongues$Steps" "now" "[J", .methodLink RX4 63 yJ7_fill_d0a16, .static yJ7_fill_d0a16, .initialized RJ7, .code yJ7_fill_d0a16 cJ7_fill_d0a16 5 none] ++ wsX40)
def wsX4_forward : List Cond := .code yX4_forward cX4_forward 5 (some (.array .long)) :: ([.fieldLink RX4 44 "TaughtTongues$Steps" "next" "[J", .fieldLink RX4 41 "TaughtTongues$Steps" "now" "[J", .fieldLink RX4 34 "TaughtTongues$Steps" "odds" "[J", .methodLink RX4 95 arraycopyName, .native arraycopyName, .static arraycopyName, .initialized "java/lang/System", .methodLink RX4 101 yX4_startAt, .instanceMethod yX4_startAt, .selects RX4 yX4_startAt yX4_startAt, .initialized RX4, .code yX4_startAt cX4_startAt 2 none, .methodLink RX4 63 yJ7_fill_d0a16, .static yJ7_fill_d0a16, .initialized RJ7, .code yJ7_fill_d0a16 cJ7_fill_d0a16 5 none] ++ wsX40)
def wsX4_backward : List Cond := .code yX4_backward cX4_backward 5 (some (.array .long)) :: ([.fieldLink RX4 44 "TaughtTongues$Steps" "next" "[J", .fieldLink RX4 34 "TaughtTongues$Steps" "odds" "[J", .fieldLink RX4 41 "TaughtTongues$Steps" "now" "[J", .methodLink RX4 95 arraycopyName, .native arraycopyName, .static arraycopyName, .initialized "java/lang/System", .methodLink RX4 101 yX4_startAt, .instanceMethod yX4_startAt, .selects RX4 yX4_startAt yX4_startAt, .initialized RX4, .code yX4_startAt cX4_startAt 2 none, .methodLink RX4 63 yJ7_fill_d0a16, .static yJ7_fill_d0a16, .initialized RJ7, .code yJ7_fill_d0a16 cJ7_fill_d0a16 5 none] ++ wsX40)
def wsX4_nextOnes : List Cond := .code yX4_nextOnes cX4_nextOnes 4 (some .int) :: ([.fieldLink RX4 34 "TaughtTongues$Steps" "odds" "[J"] ++ wsX40)
def wsX4_keptOnes : List Cond := .code yX4_keptOnes cX4_keptOnes 3 (some .int) :: ([.fieldLink RX4 34 "TaughtTongues$Steps" "odds" "[J", .methodLink RX4 105 yX4_whole, .instanceMethod yX4_whole, .selects RX4 yX4_whole yX4_whole, .initialized RX4, .code yX4_whole cX4_whole 2 (some .long), .fieldLink RX4 9 "TaughtTongues$Steps" "weights" "[I", .fieldLink RX4 15 "TaughtTongues$Steps" "hears" "I", .static yX5_power, .initialized RX5, .code yX5_power cX5_power 6 (some .long)] ++ wsX40)
def wsX5_init_r1 : List Cond := [Cond.methodLink RX5 1 objectInit, Cond.instanceMethod objectInit, Cond.code objectInit ⟨#[0xb1]⟩ 1 none, Cond.classLink RX5 7 RX3, Cond.instantiable RX3 2, Cond.initialized RX3, Cond.fieldLink RX5 10 "TaughtTongues" "signs" "LTaughtTongues$Signs;", Cond.classLink RX5 16 RX0, Cond.instantiable RX0 2, Cond.initialized RX0, Cond.fieldLink RX5 19 "TaughtTongues" "heard" "LTaughtTongues$Counts;", Cond.classLink RX5 23 RX1, Cond.instantiable RX1 3, Cond.initialized RX1, Cond.fieldLink RX5 26 "TaughtTongues" "learner" "LTaughtTongues$Learner;", Cond.classLink RX5 30 RX2, Cond.instantiable RX2 6, Cond.initialized RX2, Cond.fieldLink RX5 35 "TaughtTongues" "lots" "LTaughtTongues$Lots;", Cond.classLink RX5 39 RX4, Cond.instantiable RX4 12, Cond.initialized RX4, Cond.fieldLink RX5 44 "TaughtTongues" "steps" "LTaughtTongues$Steps;", Cond.arrayClass .int]
def wsX5_init_r2 : List Cond := [Cond.fieldLink RX5 48 "TaughtTongues" "reaches" "[I", Cond.instanceMethod yX3_init, Cond.code yX3_init cX3_init 1 none, Cond.methodLink RX3 3 objectInit, Cond.fieldLink RX3 11 "TaughtTongues$Signs" "codes" "[I", Cond.fieldLink RX3 15 "TaughtTongues$Signs" "count" "I", Cond.instanceMethod yX0_init, Cond.code yX0_init cX0_init 1 none, Cond.methodLink RX0 3 objectInit, Cond.fieldLink RX0 9 "TaughtTongues$Counts" "times" "[I", Cond.fieldLink RX0 15 "TaughtTongues$Counts" "all" "I", Cond.instanceMethod yX1_init, Cond.code yX1_init cX1_init 1 none, Cond.methodLink RX1 3 objectInit, Cond.fieldLink RX1 9 "TaughtTongues$Learner" "numbers" "[I", Cond.fieldLink RX1 15 "TaughtTongues$Learner" "slip" "I", Cond.fieldLink RX1 19 "TaughtTongues$Learner" "kind" "I", Cond.methodLink RX5 32 yX2_init, Cond.instanceMethod yX2_init, Cond.code yX2_init cX2_init 3 none, Cond.methodLink RX2 3 objectInit, Cond.fieldLink RX2 11 "TaughtTongues$Lots" "smaller" "[I", Cond.fieldLink RX2 15 "TaughtTongues$Lots" "last" "[I", Cond.fieldLink RX2 18 "TaughtTongues$Lots" "FIRST" "[I"]
def wsX5_init_r3 : List Cond := [Cond.fieldLink RX2 21 "TaughtTongues$Lots" "greater" "[I", Cond.fieldLink RX2 24 "TaughtTongues$Lots" "choices" "[I", Cond.classLink RX2 27 RX0, Cond.fieldLink RX2 30 "TaughtTongues$Lots" "counts" "LTaughtTongues$Counts;", Cond.fieldLink RX2 34 "TaughtTongues$Lots" "learner" "LTaughtTongues$Learner;", Cond.methodLink RX2 38 yX2_makeGreaterOnes, Cond.instanceMethod yX2_makeGreaterOnes, Cond.selects RX2 yX2_makeGreaterOnes yX2_makeGreaterOnes, Cond.code yX2_makeGreaterOnes cX2_makeGreaterOnes 5 none, Cond.methodLink RX2 42 yX2_joinGreaterOnes, Cond.instanceMethod yX2_joinGreaterOnes, Cond.selects RX2 yX2_joinGreaterOnes yX2_joinGreaterOnes, Cond.code yX2_joinGreaterOnes cX2_joinGreaterOnes 5 none, Cond.methodLink RX2 45 yX2_forgetChoices, Cond.instanceMethod yX2_forgetChoices, Cond.selects RX2 yX2_forgetChoices yX2_forgetChoices, Cond.code yX2_forgetChoices cX2_forgetChoices 1 none, Cond.methodLink RX2 48 yJ7_fill_53178, Cond.static yJ7_fill_53178, Cond.initialized RJ7, Cond.code yJ7_fill_53178 cJ7_fill_53178 4 none, Cond.methodLink RX5 41 yX4_init, Cond.instanceMethod yX4_init, Cond.code yX4_init cX4_init 3 none]
def wsX5_init_r4 : List Cond := [Cond.methodLink RX4 3 objectInit, Cond.fieldLink RX4 9 "TaughtTongues$Steps" "weights" "[I", Cond.fieldLink RX4 15 "TaughtTongues$Steps" "hears" "I", Cond.arrayClass .long, Cond.fieldLink RX4 19 "TaughtTongues$Steps" "bookSays" "[J", Cond.fieldLink RX4 23 "TaughtTongues$Steps" "teacherSays" "[J", Cond.fieldLink RX4 28 "TaughtTongues$Steps" "lotOdds" "[J", Cond.fieldLink RX4 31 "TaughtTongues$Steps" "row" "[J", Cond.fieldLink RX4 34 "TaughtTongues$Steps" "odds" "[J", Cond.fieldLink RX4 37 "TaughtTongues$Steps" "known" "Z", Cond.fieldLink RX4 41 "TaughtTongues$Steps" "now" "[J", Cond.fieldLink RX4 44 "TaughtTongues$Steps" "next" "[J", Cond.fieldLink RX4 47 "TaughtTongues$Steps" "learner" "LTaughtTongues$Learner;", Cond.fieldLink RX4 51 "TaughtTongues$Steps" "lots" "LTaughtTongues$Lots;"]
def wsX5_init : List Cond := .code yX5_init cX5_init 1 none :: ((wsX5_init_r1 ++ (wsX5_init_r2 ++ (wsX5_init_r3 ++ wsX5_init_r4))) ++ wsX30 ++ wsX50 ++ wsX00 ++ wsX10 ++ wsX20 ++ wsX40)
def wsX5_isBetween : List Cond := .code yX5_isBetween cX5_isBetween 3 (some .boolean) :: ([])
def wsX5_isMeaning : List Cond := .code yX5_isMeaning cX5_isMeaning 1 (some .boolean) :: ([.methodLink RX5 56 yX5_isBetween, .static yX5_isBetween, .initialized RX5, .code yX5_isBetween cX5_isBetween 3 (some .boolean)])
def wsX5_weight : List Cond := .code yX5_weight cX5_weight 4 (some .int) :: ([.fieldLink RX5 44 "TaughtTongues" "steps" "LTaughtTongues$Steps;", .methodLink RX5 52 yX5_isMeaning, .static yX5_isMeaning, .initialized RX5, .code yX5_isMeaning cX5_isMeaning 1 (some .boolean), .methodLink RX5 56 yX5_isBetween, .static yX5_isBetween, .code yX5_isBetween cX5_isBetween 3 (some .boolean)] ++ wsX50 ++ wsX40)
def wsX5_learnerChanged : List Cond := .code yX5_learnerChanged cX5_learnerChanged 1 none :: ([.fieldLink RX5 35 "TaughtTongues" "lots" "LTaughtTongues$Lots;", .fieldLink RX5 44 "TaughtTongues" "steps" "LTaughtTongues$Steps;", .methodLink RX5 202 yX2_forgetChoices, .instanceMethod yX2_forgetChoices, .selects RX2 yX2_forgetChoices yX2_forgetChoices, .initialized RX2, .code yX2_forgetChoices cX2_forgetChoices 1 none, .fieldLink RX2 24 "TaughtTongues$Lots" "choices" "[I", .methodLink RX2 48 yJ7_fill_53178, .static yJ7_fill_53178, .initialized RJ7, .code yJ7_fill_53178 cJ7_fill_53178 4 none] ++ wsX50 ++ wsX40 ++ wsX20)
def wsX5_changeSlip : List Cond := .code yX5_changeSlip cX5_changeSlip 3 (some .int) :: ([.fieldLink RX5 26 "TaughtTongues" "learner" "LTaughtTongues$Learner;", .methodLink RX5 100 yX5_learnerChanged, .instanceMethod yX5_learnerChanged, .selects RX5 yX5_learnerChanged yX5_learnerChanged, .initialized RX5, .code yX5_learnerChanged cX5_learnerChanged 1 none, .fieldLink RX5 35 "TaughtTongues" "lots" "LTaughtTongues$Lots;", .fieldLink RX5 44 "TaughtTongues" "steps" "LTaughtTongues$Steps;", .methodLink RX5 202 yX2_forgetChoices, .instanceMethod yX2_forgetChoices, .selects RX2 yX2_forgetChoices yX2_forgetChoices, .initialized RX2, .code yX2_forgetChoices cX2_forgetChoices 1 none, .fieldLink RX2 24 "TaughtTongues$Lots" "choices" "[I", .methodLink RX2 48 yJ7_fill_53178, .static yJ7_fill_53178, .initialized RJ7, .code yJ7_fill_53178 cJ7_fill_53178 4 none] ++ wsX50 ++ wsX10 ++ wsX40 ++ wsX20)
def wsX5_changeHears : List Cond := .code yX5_changeHears cX5_changeHears 3 (some .int) :: ([.fieldLink RX5 44 "TaughtTongues" "steps" "LTaughtTongues$Steps;"] ++ wsX50 ++ wsX40)
def wsX5_changeLearner : List Cond := .code yX5_changeLearner cX5_changeLearner 3 (some .int) :: ([.fieldLink RX5 26 "TaughtTongues" "learner" "LTaughtTongues$Learner;", .methodLink RX5 100 yX5_learnerChanged, .instanceMethod yX5_learnerChanged, .selects RX5 yX5_learnerChanged yX5_learnerChanged, .initialized RX5, .code yX5_learnerChanged cX5_learnerChanged 1 none, .fieldLink RX5 35 "TaughtTongues" "lots" "LTaughtTongues$Lots;", .fieldLink RX5 44 "TaughtTongues" "steps" "LTaughtTongues$Steps;", .methodLink RX5 202 yX2_forgetChoices, .instanceMethod yX2_forgetChoices, .selects RX2 yX2_forgetChoices yX2_forgetChoices, .initialized RX2, .code yX2_forgetChoices cX2_forgetChoices 1 none, .fieldLink RX2 24 "TaughtTongues$Lots" "choices" "[I", .methodLink RX2 48 yJ7_fill_53178, .static yJ7_fill_53178, .initialized RJ7, .code yJ7_fill_53178 cJ7_fill_53178 4 none] ++ wsX50 ++ wsX10 ++ wsX40 ++ wsX20)
def wsX5_set_r1 : List Cond := [Cond.methodLink RX5 56 yX5_isBetween, Cond.static yX5_isBetween, Cond.initialized RX5, Cond.code yX5_isBetween cX5_isBetween 3 (some .boolean), Cond.methodLink RX5 67 yX5_changeSlip, Cond.instanceMethod yX5_changeSlip, Cond.selects RX5 yX5_changeSlip yX5_changeSlip, Cond.code yX5_changeSlip cX5_changeSlip 3 (some .int), Cond.fieldLink RX5 26 "TaughtTongues" "learner" "LTaughtTongues$Learner;", Cond.methodLink RX5 100 yX5_learnerChanged, Cond.instanceMethod yX5_learnerChanged, Cond.selects RX5 yX5_learnerChanged yX5_learnerChanged, Cond.code yX5_learnerChanged cX5_learnerChanged 1 none, Cond.fieldLink RX5 35 "TaughtTongues" "lots" "LTaughtTongues$Lots;", Cond.fieldLink RX5 44 "TaughtTongues" "steps" "LTaughtTongues$Steps;", Cond.methodLink RX5 202 yX2_forgetChoices, Cond.instanceMethod yX2_forgetChoices, Cond.selects RX2 yX2_forgetChoices yX2_forgetChoices, Cond.initialized RX2, Cond.code yX2_forgetChoices cX2_forgetChoices 1 none, Cond.fieldLink RX2 24 "TaughtTongues$Lots" "choices" "[I", Cond.methodLink RX2 48 yJ7_fill_53178, Cond.static yJ7_fill_53178, Cond.initialized RJ7]
def wsX5_set_r2 : List Cond := [Cond.code yJ7_fill_53178 cJ7_fill_53178 4 none, Cond.methodLink RX5 71 yX5_changeHears, Cond.instanceMethod yX5_changeHears, Cond.selects RX5 yX5_changeHears yX5_changeHears, Cond.code yX5_changeHears cX5_changeHears 3 (some .int), Cond.methodLink RX5 74 yX5_changeLearner, Cond.instanceMethod yX5_changeLearner, Cond.selects RX5 yX5_changeLearner yX5_changeLearner, Cond.code yX5_changeLearner cX5_changeLearner 3 (some .int)]
def wsX5_set : List Cond := .code yX5_set cX5_set 3 (some .int) :: ((wsX5_set_r1 ++ wsX5_set_r2) ++ wsX50 ++ wsX10 ++ wsX40 ++ wsX20)
def wsX5_say : List Cond := .code yX5_say cX5_say 2 (some .int) :: ([.fieldLink RX5 10 "TaughtTongues" "signs" "LTaughtTongues$Signs;", .methodLink RX5 56 yX5_isBetween, .static yX5_isBetween, .initialized RX5, .code yX5_isBetween cX5_isBetween 3 (some .boolean), .methodLink RX5 77 yX3_add, .instanceMethod yX3_add, .selects RX3 yX3_add yX3_add, .initialized RX3, .code yX3_add cX3_add 2 (some .boolean), .fieldLink RX3 15 "TaughtTongues$Signs" "count" "I", .fieldLink RX3 11 "TaughtTongues$Signs" "codes" "[I"] ++ wsX50 ++ wsX30)
def wsX5_wipe : List Cond := .code yX5_wipe cX5_wipe 1 (some .int) :: ([.fieldLink RX5 10 "TaughtTongues" "signs" "LTaughtTongues$Signs;", .methodLink RX5 84 yX3_clear, .instanceMethod yX3_clear, .selects RX3 yX3_clear yX3_clear, .initialized RX3, .code yX3_clear cX3_clear 2 (some .int), .fieldLink RX3 15 "TaughtTongues$Signs" "count" "I"] ++ wsX50 ++ wsX30)
def wsX5_fault : List Cond := .code yX5_fault cX5_fault 1 (some .int) :: ([.fieldLink RX5 10 "TaughtTongues" "signs" "LTaughtTongues$Signs;", .methodLink RX5 88 yX3_firstFault, .instanceMethod yX3_firstFault, .selects RX3 yX3_firstFault yX3_firstFault, .initialized RX3, .code yX3_firstFault cX3_firstFault 2 (some .int), .fieldLink RX3 15 "TaughtTongues$Signs" "count" "I", .fieldLink RX3 11 "TaughtTongues$Signs" "codes" "[I", .methodLink RX3 19 yX3_canStand, .static yX3_canStand, .code yX3_canStand cX3_canStand 2 (some .boolean)] ++ wsX50 ++ wsX30)
def wsX5_before_r1 : List Cond := [Cond.fieldLink RX5 10 "TaughtTongues" "signs" "LTaughtTongues$Signs;", Cond.fieldLink RX5 26 "TaughtTongues" "learner" "LTaughtTongues$Learner;", Cond.methodLink RX5 88 yX3_firstFault, Cond.instanceMethod yX3_firstFault, Cond.selects RX3 yX3_firstFault yX3_firstFault, Cond.initialized RX3, Cond.code yX3_firstFault cX3_firstFault 2 (some .int), Cond.fieldLink RX3 15 "TaughtTongues$Signs" "count" "I", Cond.fieldLink RX3 11 "TaughtTongues$Signs" "codes" "[I", Cond.methodLink RX3 19 yX3_canStand, Cond.static yX3_canStand, Cond.code yX3_canStand cX3_canStand 2 (some .boolean), Cond.methodLink RX5 91 yX3_lines, Cond.instanceMethod yX3_lines, Cond.selects RX3 yX3_lines yX3_lines, Cond.code yX3_lines cX3_lines 1 (some .int), Cond.methodLink RX5 97 yX3_numberFor, Cond.instanceMethod yX3_numberFor, Cond.selects RX3 yX3_numberFor yX3_numberFor, Cond.code yX3_numberFor cX3_numberFor 3 (some .int), Cond.methodLink RX3 23 yX3_lineFits, Cond.instanceMethod yX3_lineFits, Cond.selects RX3 yX3_lineFits yX3_lineFits, Cond.code yX3_lineFits cX3_lineFits 5 (some .boolean)]
def wsX5_before_r2 : List Cond := [Cond.static yX5_formOf, Cond.initialized RX5, Cond.code yX5_formOf cX5_formOf 2 (some .int), Cond.methodLink RX5 84 yX3_clear, Cond.instanceMethod yX3_clear, Cond.selects RX3 yX3_clear yX3_clear, Cond.code yX3_clear cX3_clear 2 (some .int), Cond.methodLink RX5 100 yX5_learnerChanged, Cond.instanceMethod yX5_learnerChanged, Cond.selects RX5 yX5_learnerChanged yX5_learnerChanged, Cond.code yX5_learnerChanged cX5_learnerChanged 1 none, Cond.fieldLink RX5 35 "TaughtTongues" "lots" "LTaughtTongues$Lots;", Cond.fieldLink RX5 44 "TaughtTongues" "steps" "LTaughtTongues$Steps;", Cond.methodLink RX5 202 yX2_forgetChoices, Cond.instanceMethod yX2_forgetChoices, Cond.selects RX2 yX2_forgetChoices yX2_forgetChoices, Cond.initialized RX2, Cond.code yX2_forgetChoices cX2_forgetChoices 1 none, Cond.fieldLink RX2 24 "TaughtTongues$Lots" "choices" "[I", Cond.methodLink RX2 48 yJ7_fill_53178, Cond.static yJ7_fill_53178, Cond.initialized RJ7, Cond.code yJ7_fill_53178 cJ7_fill_53178 4 none]
def wsX5_before : List Cond := .code yX5_before cX5_before 3 (some .int) :: ((wsX5_before_r1 ++ wsX5_before_r2) ++ wsX50 ++ wsX10 ++ wsX30 ++ wsX40 ++ wsX20)
def wsX5_isTongue : List Cond := .code yX5_isTongue cX5_isTongue 1 (some .boolean) :: ([.methodLink RX5 56 yX5_isBetween, .static yX5_isBetween, .initialized RX5, .code yX5_isBetween cX5_isBetween 3 (some .boolean)])
def wsX5_number : List Cond := .code yX5_number cX5_number 2 (some .int) :: ([.fieldLink RX5 26 "TaughtTongues" "learner" "LTaughtTongues$Learner;", .methodLink RX5 103 yX5_isTongue, .static yX5_isTongue, .initialized RX5, .code yX5_isTongue cX5_isTongue 1 (some .boolean), .methodLink RX5 56 yX5_isBetween, .static yX5_isBetween, .code yX5_isBetween cX5_isBetween 3 (some .boolean)] ++ wsX50 ++ wsX10)
def wsX5_isForm : List Cond := .code yX5_isForm cX5_isForm 1 (some .boolean) :: ([.methodLink RX5 56 yX5_isBetween, .static yX5_isBetween, .initialized RX5, .code yX5_isBetween cX5_isBetween 3 (some .boolean)])
def wsX5_hear : List Cond := .code yX5_hear cX5_hear 3 (some .int) :: ([.fieldLink RX5 19 "TaughtTongues" "heard" "LTaughtTongues$Counts;", .methodLink RX5 52 yX5_isMeaning, .static yX5_isMeaning, .initialized RX5, .code yX5_isMeaning cX5_isMeaning 1 (some .boolean), .methodLink RX5 56 yX5_isBetween, .static yX5_isBetween, .code yX5_isBetween cX5_isBetween 3 (some .boolean), .methodLink RX5 106 yX5_isForm, .static yX5_isForm, .code yX5_isForm cX5_isForm 1 (some .boolean), .methodLink RX5 112 yX0_add, .instanceMethod yX0_add, .selects RX0 yX0_add yX0_add, .initialized RX0, .code yX0_add cX0_add 2 none, .fieldLink RX0 9 "TaughtTongues$Counts" "times" "[I", .fieldLink RX0 15 "TaughtTongues$Counts" "all" "I"] ++ wsX50 ++ wsX00)
def wsX5_forget : List Cond := .code yX5_forget cX5_forget 2 (some .int) :: ([.fieldLink RX5 19 "TaughtTongues" "heard" "LTaughtTongues$Counts;", .methodLink RX5 115 yX0_clear, .instanceMethod yX0_clear, .selects RX0 yX0_clear yX0_clear, .initialized RX0, .code yX0_clear cX0_clear 1 none, .fieldLink RX0 9 "TaughtTongues$Counts" "times" "[I", .fieldLink RX0 15 "TaughtTongues$Counts" "all" "I", .methodLink RX0 19 yJ7_fill_53178, .static yJ7_fill_53178, .initialized RJ7, .code yJ7_fill_53178 cJ7_fill_53178 4 none] ++ wsX50 ++ wsX00)
def wsX5_likeness_r1 : List Cond := [Cond.fieldLink RX5 26 "TaughtTongues" "learner" "LTaughtTongues$Learner;", Cond.fieldLink RX5 19 "TaughtTongues" "heard" "LTaughtTongues$Counts;", Cond.constantLong RX5 121 (-1), Cond.methodLink RX5 103 yX5_isTongue, Cond.static yX5_isTongue, Cond.initialized RX5, Cond.code yX5_isTongue cX5_isTongue 1 (some .boolean), Cond.methodLink RX5 56 yX5_isBetween, Cond.static yX5_isBetween, Cond.code yX5_isBetween cX5_isBetween 3 (some .boolean), Cond.methodLink RX5 117 yX1_likenessOf, Cond.instanceMethod yX1_likenessOf, Cond.selects RX1 yX1_likenessOf yX1_likenessOf, Cond.initialized RX1, Cond.code yX1_likenessOf cX1_likenessOf 4 (some .long), Cond.methodLink RX1 22 yX0_sharedWith, Cond.instanceMethod yX0_sharedWith, Cond.selects RX0 yX0_sharedWith yX0_sharedWith, Cond.initialized RX0, Cond.code yX0_sharedWith cX0_sharedWith 4 (some .int), Cond.fieldLink RX0 9 "TaughtTongues$Counts" "times" "[I", Cond.static yX5_formOf, Cond.code yX5_formOf cX5_formOf 2 (some .int), Cond.methodLink RX1 31 yX1_likenessBy]
def wsX5_likeness_r2 : List Cond := [Cond.instanceMethod yX1_likenessBy, Cond.selects RX1 yX1_likenessBy yX1_likenessBy, Cond.code yX1_likenessBy cX1_likenessBy 4 (some .long), Cond.fieldLink RX1 9 "TaughtTongues$Learner" "numbers" "[I", Cond.fieldLink RX1 15 "TaughtTongues$Learner" "slip" "I", Cond.static yX5_power, Cond.code yX5_power cX5_power 6 (some .long)]
def wsX5_likeness : List Cond := .code yX5_likeness cX5_likeness 2 (some .long) :: ((wsX5_likeness_r1 ++ wsX5_likeness_r2) ++ wsX50 ++ wsX00 ++ wsX10)
def wsX5_isPart : List Cond := .code yX5_isPart cX5_isPart 1 (some .boolean) :: ([.methodLink RX5 56 yX5_isBetween, .static yX5_isBetween, .initialized RX5, .code yX5_isBetween cX5_isBetween 3 (some .boolean)])
def wsX5_refusalOf : List Cond := .code yX5_refusalOf cX5_refusalOf 2 (some .int) :: ([])
def wsX5_commonDivisor : List Cond := .code yX5_commonDivisor cX5_commonDivisor 11 (some .long) :: ([])
def wsX5_fraction : List Cond := .code yX5_fraction cX5_fraction 7 (some .long) :: ([.constantLong RX5 130 (-1000000000000000000), .methodLink RX5 212 yX5_commonDivisor, .static yX5_commonDivisor, .initialized RX5, .code yX5_commonDivisor cX5_commonDivisor 11 (some .long)])
def wsX5_thinks_r1 : List Cond := [Cond.constantLong RX5 130 (-1000000000000000000), Cond.fieldLink RX5 26 "TaughtTongues" "learner" "LTaughtTongues$Learner;", Cond.fieldLink RX5 19 "TaughtTongues" "heard" "LTaughtTongues$Counts;", Cond.methodLink RX5 103 yX5_isTongue, Cond.static yX5_isTongue, Cond.initialized RX5, Cond.code yX5_isTongue cX5_isTongue 1 (some .boolean), Cond.methodLink RX5 56 yX5_isBetween, Cond.static yX5_isBetween, Cond.code yX5_isBetween cX5_isBetween 3 (some .boolean), Cond.methodLink RX5 123 yX5_isPart, Cond.static yX5_isPart, Cond.code yX5_isPart cX5_isPart 1 (some .boolean), Cond.methodLink RX5 126 yX5_refusalOf, Cond.static yX5_refusalOf, Cond.code yX5_refusalOf cX5_refusalOf 2 (some .int), Cond.methodLink RX5 117 yX1_likenessOf, Cond.instanceMethod yX1_likenessOf, Cond.selects RX1 yX1_likenessOf yX1_likenessOf, Cond.initialized RX1, Cond.code yX1_likenessOf cX1_likenessOf 4 (some .long), Cond.methodLink RX1 22 yX0_sharedWith, Cond.instanceMethod yX0_sharedWith, Cond.selects RX0 yX0_sharedWith yX0_sharedWith]
def wsX5_thinks_r2 : List Cond := [Cond.initialized RX0, Cond.code yX0_sharedWith cX0_sharedWith 4 (some .int), Cond.fieldLink RX0 9 "TaughtTongues$Counts" "times" "[I", Cond.static yX5_formOf, Cond.code yX5_formOf cX5_formOf 2 (some .int), Cond.methodLink RX1 31 yX1_likenessBy, Cond.instanceMethod yX1_likenessBy, Cond.selects RX1 yX1_likenessBy yX1_likenessBy, Cond.code yX1_likenessBy cX1_likenessBy 4 (some .long), Cond.fieldLink RX1 9 "TaughtTongues$Learner" "numbers" "[I", Cond.fieldLink RX1 15 "TaughtTongues$Learner" "slip" "I", Cond.static yX5_power, Cond.code yX5_power cX5_power 6 (some .long), Cond.methodLink RX5 132 yX5_fraction, Cond.static yX5_fraction, Cond.code yX5_fraction cX5_fraction 7 (some .long), Cond.methodLink RX5 212 yX5_commonDivisor, Cond.static yX5_commonDivisor, Cond.code yX5_commonDivisor cX5_commonDivisor 11 (some .long)]
def wsX5_thinks : List Cond := .code yX5_thinks cX5_thinks 7 (some .long) :: ((wsX5_thinks_r1 ++ wsX5_thinks_r2) ++ wsX50 ++ wsX00 ++ wsX10)
def wsX5_takes_r1 : List Cond := [Cond.fieldLink RX5 26 "TaughtTongues" "learner" "LTaughtTongues$Learner;", Cond.fieldLink RX5 19 "TaughtTongues" "heard" "LTaughtTongues$Counts;", Cond.methodLink RX5 136 yX1_choice, Cond.instanceMethod yX1_choice, Cond.selects RX1 yX1_choice yX1_choice, Cond.initialized RX1, Cond.code yX1_choice cX1_choice 9 (some .int), Cond.constantLong RX1 39 (-1), Cond.fieldLink RX1 19 "TaughtTongues$Learner" "kind" "I", Cond.methodLink RX1 22 yX0_sharedWith, Cond.instanceMethod yX0_sharedWith, Cond.selects RX0 yX0_sharedWith yX0_sharedWith, Cond.initialized RX0, Cond.code yX0_sharedWith cX0_sharedWith 4 (some .int), Cond.fieldLink RX0 9 "TaughtTongues$Counts" "times" "[I", Cond.static yX5_formOf, Cond.initialized RX5, Cond.code yX5_formOf cX5_formOf 2 (some .int), Cond.methodLink RX1 31 yX1_likenessBy, Cond.instanceMethod yX1_likenessBy, Cond.selects RX1 yX1_likenessBy yX1_likenessBy, Cond.code yX1_likenessBy cX1_likenessBy 4 (some .long), Cond.fieldLink RX1 9 "TaughtTongues$Learner" "numbers" "[I", Cond.fieldLink RX1 15 "TaughtTongues$Learner" "slip" "I"]
def wsX5_takes_r2 : List Cond := [Cond.static yX5_power, Cond.code yX5_power cX5_power 6 (some .long), Cond.methodLink RX1 41 yX1_isRather, Cond.instanceMethod yX1_isRather, Cond.selects RX1 yX1_isRather yX1_isRather, Cond.code yX1_isRather cX1_isRather 3 (some .boolean), Cond.methodLink RX1 45 yJ6_bitCount_0f7a4, Cond.static yJ6_bitCount_0f7a4, Cond.initialized RJ6, Cond.code yJ6_bitCount_0f7a4 cJ6_bitCount_0f7a4 1 (some .int), Cond.constant RJ6 265 (1431655765), Cond.constant RJ6 266 (858993459), Cond.constant RJ6 267 (252645135)]
def wsX5_takes : List Cond := .code yX5_takes cX5_takes 1 (some .int) :: ((wsX5_takes_r1 ++ wsX5_takes_r2) ++ wsX50 ++ wsX10 ++ wsX00)
def wsX5_step_r1 : List Cond := [Cond.constantLong RX5 130 (-1000000000000000000), Cond.fieldLink RX5 44 "TaughtTongues" "steps" "LTaughtTongues$Steps;", Cond.methodLink RX5 103 yX5_isTongue, Cond.static yX5_isTongue, Cond.initialized RX5, Cond.code yX5_isTongue cX5_isTongue 1 (some .boolean), Cond.methodLink RX5 56 yX5_isBetween, Cond.static yX5_isBetween, Cond.code yX5_isBetween cX5_isBetween 3 (some .boolean), Cond.methodLink RX5 123 yX5_isPart, Cond.static yX5_isPart, Cond.code yX5_isPart cX5_isPart 1 (some .boolean), Cond.methodLink RX5 126 yX5_refusalOf, Cond.static yX5_refusalOf, Cond.code yX5_refusalOf cX5_refusalOf 2 (some .int), Cond.methodLink RX5 140 yX4_rowOf, Cond.instanceMethod yX4_rowOf, Cond.selects RX4 yX4_rowOf yX4_rowOf, Cond.initialized RX4, Cond.code yX4_rowOf cX4_rowOf 5 (some (.array .long)), Cond.fieldLink RX4 19 "TaughtTongues$Steps" "bookSays" "[J", Cond.fieldLink RX4 23 "TaughtTongues$Steps" "teacherSays" "[J", Cond.fieldLink RX4 28 "TaughtTongues$Steps" "lotOdds" "[J", Cond.fieldLink RX4 15 "TaughtTongues$Steps" "hears" "I"]
def wsX5_step_r2 : List Cond := [Cond.fieldLink RX4 31 "TaughtTongues$Steps" "row" "[J", Cond.fieldLink RX4 51 "TaughtTongues$Steps" "lots" "LTaughtTongues$Lots;", Cond.methodLink RX4 59 yX4_listSayings, Cond.instanceMethod yX4_listSayings, Cond.selects RX4 yX4_listSayings yX4_listSayings, Cond.code yX4_listSayings cX4_listSayings 6 none, Cond.fieldLink RX4 9 "TaughtTongues$Steps" "weights" "[I", Cond.fieldLink RX4 47 "TaughtTongues$Steps" "learner" "LTaughtTongues$Learner;", Cond.static yX5_formOf, Cond.code yX5_formOf cX5_formOf 2 (some .int), Cond.methodLink RX4 63 yJ7_fill_d0a16, Cond.static yJ7_fill_d0a16, Cond.initialized RJ7, Cond.code yJ7_fill_d0a16 cJ7_fill_d0a16 5 none, Cond.methodLink RX4 69 yX4_hearOneMore, Cond.instanceMethod yX4_hearOneMore, Cond.selects RX4 yX4_hearOneMore yX4_hearOneMore, Cond.code yX4_hearOneMore cX4_hearOneMore 5 none, Cond.methodLink RX4 75 yX2_choiceBehind, Cond.instanceMethod yX2_choiceBehind, Cond.selects RX2 yX2_choiceBehind yX2_choiceBehind, Cond.initialized RX2, Cond.code yX2_choiceBehind cX2_choiceBehind 2 (some .int), Cond.fieldLink RX2 24 "TaughtTongues$Lots" "choices" "[I"]
def wsX5_step_r3 : List Cond := [Cond.fieldLink RX2 34 "TaughtTongues$Lots" "learner" "LTaughtTongues$Learner;", Cond.fieldLink RX2 30 "TaughtTongues$Lots" "counts" "LTaughtTongues$Counts;", Cond.methodLink RX2 54 yX2_countSayings, Cond.instanceMethod yX2_countSayings, Cond.selects RX2 yX2_countSayings yX2_countSayings, Cond.code yX2_countSayings cX2_countSayings 4 none, Cond.fieldLink RX2 15 "TaughtTongues$Lots" "last" "[I", Cond.fieldLink RX2 11 "TaughtTongues$Lots" "smaller" "[I", Cond.methodLink RX2 63 yX0_clear, Cond.instanceMethod yX0_clear, Cond.selects RX0 yX0_clear yX0_clear, Cond.initialized RX0, Cond.code yX0_clear cX0_clear 1 none, Cond.fieldLink RX0 9 "TaughtTongues$Counts" "times" "[I", Cond.fieldLink RX0 15 "TaughtTongues$Counts" "all" "I", Cond.methodLink RX0 19 yJ7_fill_53178, Cond.static yJ7_fill_53178, Cond.code yJ7_fill_53178 cJ7_fill_53178 4 none, Cond.methodLink RX2 66 yX0_add, Cond.instanceMethod yX0_add, Cond.selects RX0 yX0_add yX0_add, Cond.code yX0_add cX0_add 2 none, Cond.methodLink RX2 57 yX1_choice, Cond.instanceMethod yX1_choice]
def wsX5_step_r4 : List Cond := [Cond.selects RX1 yX1_choice yX1_choice, Cond.initialized RX1, Cond.code yX1_choice cX1_choice 9 (some .int), Cond.constantLong RX1 39 (-1), Cond.fieldLink RX1 19 "TaughtTongues$Learner" "kind" "I", Cond.methodLink RX1 22 yX0_sharedWith, Cond.instanceMethod yX0_sharedWith, Cond.selects RX0 yX0_sharedWith yX0_sharedWith, Cond.code yX0_sharedWith cX0_sharedWith 4 (some .int), Cond.methodLink RX1 31 yX1_likenessBy, Cond.instanceMethod yX1_likenessBy, Cond.selects RX1 yX1_likenessBy yX1_likenessBy, Cond.code yX1_likenessBy cX1_likenessBy 4 (some .long), Cond.fieldLink RX1 9 "TaughtTongues$Learner" "numbers" "[I", Cond.fieldLink RX1 15 "TaughtTongues$Learner" "slip" "I", Cond.static yX5_power, Cond.code yX5_power cX5_power 6 (some .long), Cond.methodLink RX1 41 yX1_isRather, Cond.instanceMethod yX1_isRather, Cond.selects RX1 yX1_isRather yX1_isRather, Cond.code yX1_isRather cX1_isRather 3 (some .boolean), Cond.methodLink RX1 45 yJ6_bitCount_0f7a4, Cond.static yJ6_bitCount_0f7a4, Cond.initialized RJ6]
def wsX5_step_r5 : List Cond := [Cond.code yJ6_bitCount_0f7a4 cJ6_bitCount_0f7a4 1 (some .int), Cond.constant RJ6 265 (1431655765), Cond.constant RJ6 266 (858993459), Cond.constant RJ6 267 (252645135), Cond.methodLink RX5 144 yX4_whole, Cond.instanceMethod yX4_whole, Cond.selects RX4 yX4_whole yX4_whole, Cond.code yX4_whole cX4_whole 2 (some .long), Cond.methodLink RX5 132 yX5_fraction, Cond.static yX5_fraction, Cond.code yX5_fraction cX5_fraction 7 (some .long), Cond.methodLink RX5 212 yX5_commonDivisor, Cond.static yX5_commonDivisor, Cond.code yX5_commonDivisor cX5_commonDivisor 11 (some .long)]
def wsX5_step : List Cond := .code yX5_step cX5_step 5 (some .long) :: ((wsX5_step_r1 ++ (wsX5_step_r2 ++ (wsX5_step_r3 ++ (wsX5_step_r4 ++ wsX5_step_r5)))) ++ wsX50 ++ wsX40 ++ wsX10 ++ wsX20 ++ wsX00)
def wsX5_book_r1 : List Cond := [Cond.fieldLink RX5 44 "TaughtTongues" "steps" "LTaughtTongues$Steps;", Cond.constantLong RX5 130 (-1000000000000000000), Cond.methodLink RX5 103 yX5_isTongue, Cond.static yX5_isTongue, Cond.initialized RX5, Cond.code yX5_isTongue cX5_isTongue 1 (some .boolean), Cond.methodLink RX5 56 yX5_isBetween, Cond.static yX5_isBetween, Cond.code yX5_isBetween cX5_isBetween 3 (some .boolean), Cond.methodLink RX5 123 yX5_isPart, Cond.static yX5_isPart, Cond.code yX5_isPart cX5_isPart 1 (some .boolean), Cond.methodLink RX5 126 yX5_refusalOf, Cond.static yX5_refusalOf, Cond.code yX5_refusalOf cX5_refusalOf 2 (some .int), Cond.methodLink RX5 140 yX4_rowOf, Cond.instanceMethod yX4_rowOf, Cond.selects RX4 yX4_rowOf yX4_rowOf, Cond.initialized RX4, Cond.code yX4_rowOf cX4_rowOf 5 (some (.array .long)), Cond.fieldLink RX4 19 "TaughtTongues$Steps" "bookSays" "[J", Cond.fieldLink RX4 23 "TaughtTongues$Steps" "teacherSays" "[J", Cond.fieldLink RX4 28 "TaughtTongues$Steps" "lotOdds" "[J", Cond.fieldLink RX4 15 "TaughtTongues$Steps" "hears" "I"]
def wsX5_book_r2 : List Cond := [Cond.fieldLink RX4 31 "TaughtTongues$Steps" "row" "[J", Cond.fieldLink RX4 51 "TaughtTongues$Steps" "lots" "LTaughtTongues$Lots;", Cond.methodLink RX4 59 yX4_listSayings, Cond.instanceMethod yX4_listSayings, Cond.selects RX4 yX4_listSayings yX4_listSayings, Cond.code yX4_listSayings cX4_listSayings 6 none, Cond.fieldLink RX4 9 "TaughtTongues$Steps" "weights" "[I", Cond.fieldLink RX4 47 "TaughtTongues$Steps" "learner" "LTaughtTongues$Learner;", Cond.static yX5_formOf, Cond.code yX5_formOf cX5_formOf 2 (some .int), Cond.methodLink RX4 63 yJ7_fill_d0a16, Cond.static yJ7_fill_d0a16, Cond.initialized RJ7, Cond.code yJ7_fill_d0a16 cJ7_fill_d0a16 5 none, Cond.methodLink RX4 69 yX4_hearOneMore, Cond.instanceMethod yX4_hearOneMore, Cond.selects RX4 yX4_hearOneMore yX4_hearOneMore, Cond.code yX4_hearOneMore cX4_hearOneMore 5 none, Cond.methodLink RX4 75 yX2_choiceBehind, Cond.instanceMethod yX2_choiceBehind, Cond.selects RX2 yX2_choiceBehind yX2_choiceBehind, Cond.initialized RX2, Cond.code yX2_choiceBehind cX2_choiceBehind 2 (some .int), Cond.fieldLink RX2 24 "TaughtTongues$Lots" "choices" "[I"]
def wsX5_book_r3 : List Cond := [Cond.fieldLink RX2 34 "TaughtTongues$Lots" "learner" "LTaughtTongues$Learner;", Cond.fieldLink RX2 30 "TaughtTongues$Lots" "counts" "LTaughtTongues$Counts;", Cond.methodLink RX2 54 yX2_countSayings, Cond.instanceMethod yX2_countSayings, Cond.selects RX2 yX2_countSayings yX2_countSayings, Cond.code yX2_countSayings cX2_countSayings 4 none, Cond.fieldLink RX2 15 "TaughtTongues$Lots" "last" "[I", Cond.fieldLink RX2 11 "TaughtTongues$Lots" "smaller" "[I", Cond.methodLink RX2 63 yX0_clear, Cond.instanceMethod yX0_clear, Cond.selects RX0 yX0_clear yX0_clear, Cond.initialized RX0, Cond.code yX0_clear cX0_clear 1 none, Cond.fieldLink RX0 9 "TaughtTongues$Counts" "times" "[I", Cond.fieldLink RX0 15 "TaughtTongues$Counts" "all" "I", Cond.methodLink RX0 19 yJ7_fill_53178, Cond.static yJ7_fill_53178, Cond.code yJ7_fill_53178 cJ7_fill_53178 4 none, Cond.methodLink RX2 66 yX0_add, Cond.instanceMethod yX0_add, Cond.selects RX0 yX0_add yX0_add, Cond.code yX0_add cX0_add 2 none, Cond.methodLink RX2 57 yX1_choice, Cond.instanceMethod yX1_choice]
def wsX5_book_r4 : List Cond := [Cond.selects RX1 yX1_choice yX1_choice, Cond.initialized RX1, Cond.code yX1_choice cX1_choice 9 (some .int), Cond.constantLong RX1 39 (-1), Cond.fieldLink RX1 19 "TaughtTongues$Learner" "kind" "I", Cond.methodLink RX1 22 yX0_sharedWith, Cond.instanceMethod yX0_sharedWith, Cond.selects RX0 yX0_sharedWith yX0_sharedWith, Cond.code yX0_sharedWith cX0_sharedWith 4 (some .int), Cond.methodLink RX1 31 yX1_likenessBy, Cond.instanceMethod yX1_likenessBy, Cond.selects RX1 yX1_likenessBy yX1_likenessBy, Cond.code yX1_likenessBy cX1_likenessBy 4 (some .long), Cond.fieldLink RX1 9 "TaughtTongues$Learner" "numbers" "[I", Cond.fieldLink RX1 15 "TaughtTongues$Learner" "slip" "I", Cond.static yX5_power, Cond.code yX5_power cX5_power 6 (some .long), Cond.methodLink RX1 41 yX1_isRather, Cond.instanceMethod yX1_isRather, Cond.selects RX1 yX1_isRather yX1_isRather, Cond.code yX1_isRather cX1_isRather 3 (some .boolean), Cond.methodLink RX1 45 yJ6_bitCount_0f7a4, Cond.static yJ6_bitCount_0f7a4, Cond.initialized RJ6]
def wsX5_book_r5 : List Cond := [Cond.code yJ6_bitCount_0f7a4 cJ6_bitCount_0f7a4 1 (some .int), Cond.constant RJ6 265 (1431655765), Cond.constant RJ6 266 (858993459), Cond.constant RJ6 267 (252645135), Cond.methodLink RX5 144 yX4_whole, Cond.instanceMethod yX4_whole, Cond.selects RX4 yX4_whole yX4_whole, Cond.code yX4_whole cX4_whole 2 (some .long), Cond.methodLink RX5 132 yX5_fraction, Cond.static yX5_fraction, Cond.code yX5_fraction cX5_fraction 7 (some .long), Cond.methodLink RX5 212 yX5_commonDivisor, Cond.static yX5_commonDivisor, Cond.code yX5_commonDivisor cX5_commonDivisor 11 (some .long)]
def wsX5_book : List Cond := .code yX5_book cX5_book 8 (some .long) :: ((wsX5_book_r1 ++ (wsX5_book_r2 ++ (wsX5_book_r3 ++ (wsX5_book_r4 ++ wsX5_book_r5)))) ++ wsX50 ++ wsX40 ++ wsX10 ++ wsX20 ++ wsX00)
def wsX5_refusalOfLives : List Cond := .code yX5_refusalOfLives cX5_refusalOfLives 5 (some .int) :: ([.fieldLink RX5 44 "TaughtTongues" "steps" "LTaughtTongues$Steps;", .methodLink RX5 56 yX5_isBetween, .static yX5_isBetween, .initialized RX5, .code yX5_isBetween cX5_isBetween 3 (some .boolean), .methodLink RX5 126 yX5_refusalOf, .static yX5_refusalOf, .code yX5_refusalOf cX5_refusalOf 2 (some .int)] ++ wsX50 ++ wsX40)
def wsX5_after_r1 : List Cond := [Cond.constantLong RX5 130 (-1000000000000000000), Cond.fieldLink RX5 44 "TaughtTongues" "steps" "LTaughtTongues$Steps;", Cond.methodLink RX5 103 yX5_isTongue, Cond.static yX5_isTongue, Cond.initialized RX5, Cond.code yX5_isTongue cX5_isTongue 1 (some .boolean), Cond.methodLink RX5 56 yX5_isBetween, Cond.static yX5_isBetween, Cond.code yX5_isBetween cX5_isBetween 3 (some .boolean), Cond.methodLink RX5 123 yX5_isPart, Cond.static yX5_isPart, Cond.code yX5_isPart cX5_isPart 1 (some .boolean), Cond.methodLink RX5 151 yX5_refusalOfLives, Cond.instanceMethod yX5_refusalOfLives, Cond.selects RX5 yX5_refusalOfLives yX5_refusalOfLives, Cond.code yX5_refusalOfLives cX5_refusalOfLives 5 (some .int), Cond.methodLink RX5 126 yX5_refusalOf, Cond.static yX5_refusalOf, Cond.code yX5_refusalOf cX5_refusalOf 2 (some .int), Cond.methodLink RX5 155 yX4_know, Cond.instanceMethod yX4_know, Cond.selects RX4 yX4_know yX4_know, Cond.initialized RX4, Cond.code yX4_know cX4_know 2 none]
def wsX5_after_r2 : List Cond := [Cond.fieldLink RX4 37 "TaughtTongues$Steps" "known" "Z", Cond.fieldLink RX4 34 "TaughtTongues$Steps" "odds" "[J", Cond.methodLink RX4 95 arraycopyName, Cond.native arraycopyName, Cond.static arraycopyName, Cond.initialized "java/lang/System", Cond.methodLink RX4 91 yX4_rowOf, Cond.instanceMethod yX4_rowOf, Cond.selects RX4 yX4_rowOf yX4_rowOf, Cond.code yX4_rowOf cX4_rowOf 5 (some (.array .long)), Cond.fieldLink RX4 19 "TaughtTongues$Steps" "bookSays" "[J", Cond.fieldLink RX4 23 "TaughtTongues$Steps" "teacherSays" "[J", Cond.fieldLink RX4 28 "TaughtTongues$Steps" "lotOdds" "[J", Cond.fieldLink RX4 15 "TaughtTongues$Steps" "hears" "I", Cond.fieldLink RX4 31 "TaughtTongues$Steps" "row" "[J", Cond.fieldLink RX4 51 "TaughtTongues$Steps" "lots" "LTaughtTongues$Lots;", Cond.methodLink RX4 59 yX4_listSayings, Cond.instanceMethod yX4_listSayings, Cond.selects RX4 yX4_listSayings yX4_listSayings, Cond.code yX4_listSayings cX4_listSayings 6 none, Cond.fieldLink RX4 9 "TaughtTongues$Steps" "weights" "[I", Cond.fieldLink RX4 47 "TaughtTongues$Steps" "learner" "LTaughtTongues$Learner;", Cond.static yX5_formOf, Cond.code yX5_formOf cX5_formOf 2 (some .int)]
def wsX5_after_r3 : List Cond := [Cond.methodLink RX4 63 yJ7_fill_d0a16, Cond.static yJ7_fill_d0a16, Cond.initialized RJ7, Cond.code yJ7_fill_d0a16 cJ7_fill_d0a16 5 none, Cond.methodLink RX4 69 yX4_hearOneMore, Cond.instanceMethod yX4_hearOneMore, Cond.selects RX4 yX4_hearOneMore yX4_hearOneMore, Cond.code yX4_hearOneMore cX4_hearOneMore 5 none, Cond.methodLink RX4 75 yX2_choiceBehind, Cond.instanceMethod yX2_choiceBehind, Cond.selects RX2 yX2_choiceBehind yX2_choiceBehind, Cond.initialized RX2, Cond.code yX2_choiceBehind cX2_choiceBehind 2 (some .int), Cond.fieldLink RX2 24 "TaughtTongues$Lots" "choices" "[I", Cond.fieldLink RX2 34 "TaughtTongues$Lots" "learner" "LTaughtTongues$Learner;", Cond.fieldLink RX2 30 "TaughtTongues$Lots" "counts" "LTaughtTongues$Counts;", Cond.methodLink RX2 54 yX2_countSayings, Cond.instanceMethod yX2_countSayings, Cond.selects RX2 yX2_countSayings yX2_countSayings, Cond.code yX2_countSayings cX2_countSayings 4 none, Cond.fieldLink RX2 15 "TaughtTongues$Lots" "last" "[I", Cond.fieldLink RX2 11 "TaughtTongues$Lots" "smaller" "[I", Cond.methodLink RX2 63 yX0_clear, Cond.instanceMethod yX0_clear]
def wsX5_after_r4 : List Cond := [Cond.selects RX0 yX0_clear yX0_clear, Cond.initialized RX0, Cond.code yX0_clear cX0_clear 1 none, Cond.fieldLink RX0 9 "TaughtTongues$Counts" "times" "[I", Cond.fieldLink RX0 15 "TaughtTongues$Counts" "all" "I", Cond.methodLink RX0 19 yJ7_fill_53178, Cond.static yJ7_fill_53178, Cond.code yJ7_fill_53178 cJ7_fill_53178 4 none, Cond.methodLink RX2 66 yX0_add, Cond.instanceMethod yX0_add, Cond.selects RX0 yX0_add yX0_add, Cond.code yX0_add cX0_add 2 none, Cond.methodLink RX2 57 yX1_choice, Cond.instanceMethod yX1_choice, Cond.selects RX1 yX1_choice yX1_choice, Cond.initialized RX1, Cond.code yX1_choice cX1_choice 9 (some .int), Cond.constantLong RX1 39 (-1), Cond.fieldLink RX1 19 "TaughtTongues$Learner" "kind" "I", Cond.methodLink RX1 22 yX0_sharedWith, Cond.instanceMethod yX0_sharedWith, Cond.selects RX0 yX0_sharedWith yX0_sharedWith, Cond.code yX0_sharedWith cX0_sharedWith 4 (some .int), Cond.methodLink RX1 31 yX1_likenessBy]
def wsX5_after_r5 : List Cond := [Cond.instanceMethod yX1_likenessBy, Cond.selects RX1 yX1_likenessBy yX1_likenessBy, Cond.code yX1_likenessBy cX1_likenessBy 4 (some .long), Cond.fieldLink RX1 9 "TaughtTongues$Learner" "numbers" "[I", Cond.fieldLink RX1 15 "TaughtTongues$Learner" "slip" "I", Cond.static yX5_power, Cond.code yX5_power cX5_power 6 (some .long), Cond.methodLink RX1 41 yX1_isRather, Cond.instanceMethod yX1_isRather, Cond.selects RX1 yX1_isRather yX1_isRather, Cond.code yX1_isRather cX1_isRather 3 (some .boolean), Cond.methodLink RX1 45 yJ6_bitCount_0f7a4, Cond.static yJ6_bitCount_0f7a4, Cond.initialized RJ6, Cond.code yJ6_bitCount_0f7a4 cJ6_bitCount_0f7a4 1 (some .int), Cond.constant RJ6 265 (1431655765), Cond.constant RJ6 266 (858993459), Cond.constant RJ6 267 (252645135), Cond.methodLink RX5 158 yX4_forward, Cond.instanceMethod yX4_forward, Cond.selects RX4 yX4_forward yX4_forward, Cond.code yX4_forward cX4_forward 5 (some (.array .long)), Cond.fieldLink RX4 44 "TaughtTongues$Steps" "next" "[J", Cond.fieldLink RX4 41 "TaughtTongues$Steps" "now" "[J"]
def wsX5_after_r6 : List Cond := [Cond.methodLink RX4 101 yX4_startAt, Cond.instanceMethod yX4_startAt, Cond.selects RX4 yX4_startAt yX4_startAt, Cond.code yX4_startAt cX4_startAt 2 none, Cond.methodLink RX5 144 yX4_whole, Cond.instanceMethod yX4_whole, Cond.selects RX4 yX4_whole yX4_whole, Cond.code yX4_whole cX4_whole 2 (some .long), Cond.methodLink RX5 132 yX5_fraction, Cond.static yX5_fraction, Cond.code yX5_fraction cX5_fraction 7 (some .long), Cond.methodLink RX5 212 yX5_commonDivisor, Cond.static yX5_commonDivisor, Cond.code yX5_commonDivisor cX5_commonDivisor 11 (some .long)]
def wsX5_after : List Cond := .code yX5_after cX5_after 6 (some .long) :: ((wsX5_after_r1 ++ (wsX5_after_r2 ++ (wsX5_after_r3 ++ (wsX5_after_r4 ++ (wsX5_after_r5 ++ wsX5_after_r6))))) ++ wsX50 ++ wsX40 ++ wsX10 ++ wsX20 ++ wsX00)
def wsX5_isIn : List Cond := .code yX5_isIn cX5_isIn 2 (some .boolean) :: ([])
end
section
def wsX5_findReaches : List Cond := .code yX5_findReaches cX5_findReaches 3 none :: ([.fieldLink RX5 48 "TaughtTongues" "reaches" "[I", .fieldLink RX5 44 "TaughtTongues" "steps" "LTaughtTongues$Steps;", .methodLink RX5 205 yX4_nextOnes, .instanceMethod yX4_nextOnes, .selects RX4 yX4_nextOnes yX4_nextOnes, .initialized RX4, .code yX4_nextOnes cX4_nextOnes 4 (some .int), .fieldLink RX4 34 "TaughtTongues$Steps" "odds" "[J", .methodLink RX5 208 yX5_isIn, .static yX5_isIn, .initialized RX5, .code yX5_isIn cX5_isIn 2 (some .boolean)] ++ wsX50 ++ wsX40)
def wsX5_leads_r1 : List Cond := [Cond.fieldLink RX5 44 "TaughtTongues" "steps" "LTaughtTongues$Steps;", Cond.fieldLink RX5 48 "TaughtTongues" "reaches" "[I", Cond.methodLink RX5 103 yX5_isTongue, Cond.static yX5_isTongue, Cond.initialized RX5, Cond.code yX5_isTongue cX5_isTongue 1 (some .boolean), Cond.methodLink RX5 56 yX5_isBetween, Cond.static yX5_isBetween, Cond.code yX5_isBetween cX5_isBetween 3 (some .boolean), Cond.methodLink RX5 155 yX4_know, Cond.instanceMethod yX4_know, Cond.selects RX4 yX4_know yX4_know, Cond.initialized RX4, Cond.code yX4_know cX4_know 2 none, Cond.fieldLink RX4 37 "TaughtTongues$Steps" "known" "Z", Cond.fieldLink RX4 34 "TaughtTongues$Steps" "odds" "[J", Cond.methodLink RX4 95 arraycopyName, Cond.native arraycopyName, Cond.static arraycopyName, Cond.initialized "java/lang/System", Cond.methodLink RX4 91 yX4_rowOf, Cond.instanceMethod yX4_rowOf, Cond.selects RX4 yX4_rowOf yX4_rowOf, Cond.code yX4_rowOf cX4_rowOf 5 (some (.array .long))]
def wsX5_leads_r2 : List Cond := [Cond.fieldLink RX4 19 "TaughtTongues$Steps" "bookSays" "[J", Cond.fieldLink RX4 23 "TaughtTongues$Steps" "teacherSays" "[J", Cond.fieldLink RX4 28 "TaughtTongues$Steps" "lotOdds" "[J", Cond.fieldLink RX4 15 "TaughtTongues$Steps" "hears" "I", Cond.fieldLink RX4 31 "TaughtTongues$Steps" "row" "[J", Cond.fieldLink RX4 51 "TaughtTongues$Steps" "lots" "LTaughtTongues$Lots;", Cond.methodLink RX4 59 yX4_listSayings, Cond.instanceMethod yX4_listSayings, Cond.selects RX4 yX4_listSayings yX4_listSayings, Cond.code yX4_listSayings cX4_listSayings 6 none, Cond.fieldLink RX4 9 "TaughtTongues$Steps" "weights" "[I", Cond.fieldLink RX4 47 "TaughtTongues$Steps" "learner" "LTaughtTongues$Learner;", Cond.static yX5_formOf, Cond.code yX5_formOf cX5_formOf 2 (some .int), Cond.methodLink RX4 63 yJ7_fill_d0a16, Cond.static yJ7_fill_d0a16, Cond.initialized RJ7, Cond.code yJ7_fill_d0a16 cJ7_fill_d0a16 5 none, Cond.methodLink RX4 69 yX4_hearOneMore, Cond.instanceMethod yX4_hearOneMore, Cond.selects RX4 yX4_hearOneMore yX4_hearOneMore, Cond.code yX4_hearOneMore cX4_hearOneMore 5 none, Cond.methodLink RX4 75 yX2_choiceBehind, Cond.instanceMethod yX2_choiceBehind]
def wsX5_leads_r3 : List Cond := [Cond.selects RX2 yX2_choiceBehind yX2_choiceBehind, Cond.initialized RX2, Cond.code yX2_choiceBehind cX2_choiceBehind 2 (some .int), Cond.fieldLink RX2 24 "TaughtTongues$Lots" "choices" "[I", Cond.fieldLink RX2 34 "TaughtTongues$Lots" "learner" "LTaughtTongues$Learner;", Cond.fieldLink RX2 30 "TaughtTongues$Lots" "counts" "LTaughtTongues$Counts;", Cond.methodLink RX2 54 yX2_countSayings, Cond.instanceMethod yX2_countSayings, Cond.selects RX2 yX2_countSayings yX2_countSayings, Cond.code yX2_countSayings cX2_countSayings 4 none, Cond.fieldLink RX2 15 "TaughtTongues$Lots" "last" "[I", Cond.fieldLink RX2 11 "TaughtTongues$Lots" "smaller" "[I", Cond.methodLink RX2 63 yX0_clear, Cond.instanceMethod yX0_clear, Cond.selects RX0 yX0_clear yX0_clear, Cond.initialized RX0, Cond.code yX0_clear cX0_clear 1 none, Cond.fieldLink RX0 9 "TaughtTongues$Counts" "times" "[I", Cond.fieldLink RX0 15 "TaughtTongues$Counts" "all" "I", Cond.methodLink RX0 19 yJ7_fill_53178, Cond.static yJ7_fill_53178, Cond.code yJ7_fill_53178 cJ7_fill_53178 4 none, Cond.methodLink RX2 66 yX0_add, Cond.instanceMethod yX0_add]
def wsX5_leads_r4 : List Cond := [Cond.selects RX0 yX0_add yX0_add, Cond.code yX0_add cX0_add 2 none, Cond.methodLink RX2 57 yX1_choice, Cond.instanceMethod yX1_choice, Cond.selects RX1 yX1_choice yX1_choice, Cond.initialized RX1, Cond.code yX1_choice cX1_choice 9 (some .int), Cond.constantLong RX1 39 (-1), Cond.fieldLink RX1 19 "TaughtTongues$Learner" "kind" "I", Cond.methodLink RX1 22 yX0_sharedWith, Cond.instanceMethod yX0_sharedWith, Cond.selects RX0 yX0_sharedWith yX0_sharedWith, Cond.code yX0_sharedWith cX0_sharedWith 4 (some .int), Cond.methodLink RX1 31 yX1_likenessBy, Cond.instanceMethod yX1_likenessBy, Cond.selects RX1 yX1_likenessBy yX1_likenessBy, Cond.code yX1_likenessBy cX1_likenessBy 4 (some .long), Cond.fieldLink RX1 9 "TaughtTongues$Learner" "numbers" "[I", Cond.fieldLink RX1 15 "TaughtTongues$Learner" "slip" "I", Cond.static yX5_power, Cond.code yX5_power cX5_power 6 (some .long), Cond.methodLink RX1 41 yX1_isRather, Cond.instanceMethod yX1_isRather, Cond.selects RX1 yX1_isRather yX1_isRather]
def wsX5_leads_r5 : List Cond := [Cond.code yX1_isRather cX1_isRather 3 (some .boolean), Cond.methodLink RX1 45 yJ6_bitCount_0f7a4, Cond.static yJ6_bitCount_0f7a4, Cond.initialized RJ6, Cond.code yJ6_bitCount_0f7a4 cJ6_bitCount_0f7a4 1 (some .int), Cond.constant RJ6 265 (1431655765), Cond.constant RJ6 266 (858993459), Cond.constant RJ6 267 (252645135), Cond.methodLink RX5 162 yX5_findReaches, Cond.instanceMethod yX5_findReaches, Cond.selects RX5 yX5_findReaches yX5_findReaches, Cond.code yX5_findReaches cX5_findReaches 3 none, Cond.methodLink RX5 205 yX4_nextOnes, Cond.instanceMethod yX4_nextOnes, Cond.selects RX4 yX4_nextOnes yX4_nextOnes, Cond.code yX4_nextOnes cX4_nextOnes 4 (some .int), Cond.methodLink RX5 208 yX5_isIn, Cond.static yX5_isIn, Cond.code yX5_isIn cX5_isIn 2 (some .boolean)]
def wsX5_leads : List Cond := .code yX5_leads cX5_leads 2 (some .int) :: ((wsX5_leads_r1 ++ (wsX5_leads_r2 ++ (wsX5_leads_r3 ++ (wsX5_leads_r4 ++ wsX5_leads_r5)))) ++ wsX50 ++ wsX40 ++ wsX10 ++ wsX20 ++ wsX00)
def wsX5_lastingOnes : List Cond := .code yX5_lastingOnes cX5_lastingOnes 4 (some .int) :: ([.fieldLink RX5 48 "TaughtTongues" "reaches" "[I", .methodLink RX5 208 yX5_isIn, .static yX5_isIn, .initialized RX5, .code yX5_isIn cX5_isIn 2 (some .boolean)] ++ wsX50)
def wsX5_countParts : List Cond := .code yX5_countParts cX5_countParts 5 (some .int) :: ([.fieldLink RX5 48 "TaughtTongues" "reaches" "[I", .methodLink RX5 208 yX5_isIn, .static yX5_isIn, .initialized RX5, .code yX5_isIn cX5_isIn 2 (some .boolean)] ++ wsX50)
def wsX5_lasts_r1 : List Cond := [Cond.fieldLink RX5 44 "TaughtTongues" "steps" "LTaughtTongues$Steps;", Cond.methodLink RX5 56 yX5_isBetween, Cond.static yX5_isBetween, Cond.initialized RX5, Cond.code yX5_isBetween cX5_isBetween 3 (some .boolean), Cond.methodLink RX5 155 yX4_know, Cond.instanceMethod yX4_know, Cond.selects RX4 yX4_know yX4_know, Cond.initialized RX4, Cond.code yX4_know cX4_know 2 none, Cond.fieldLink RX4 37 "TaughtTongues$Steps" "known" "Z", Cond.fieldLink RX4 34 "TaughtTongues$Steps" "odds" "[J", Cond.methodLink RX4 95 arraycopyName, Cond.native arraycopyName, Cond.static arraycopyName, Cond.initialized "java/lang/System", Cond.methodLink RX4 91 yX4_rowOf, Cond.instanceMethod yX4_rowOf, Cond.selects RX4 yX4_rowOf yX4_rowOf, Cond.code yX4_rowOf cX4_rowOf 5 (some (.array .long)), Cond.fieldLink RX4 19 "TaughtTongues$Steps" "bookSays" "[J", Cond.fieldLink RX4 23 "TaughtTongues$Steps" "teacherSays" "[J", Cond.fieldLink RX4 28 "TaughtTongues$Steps" "lotOdds" "[J", Cond.fieldLink RX4 15 "TaughtTongues$Steps" "hears" "I"]
def wsX5_lasts_r2 : List Cond := [Cond.fieldLink RX4 31 "TaughtTongues$Steps" "row" "[J", Cond.fieldLink RX4 51 "TaughtTongues$Steps" "lots" "LTaughtTongues$Lots;", Cond.methodLink RX4 59 yX4_listSayings, Cond.instanceMethod yX4_listSayings, Cond.selects RX4 yX4_listSayings yX4_listSayings, Cond.code yX4_listSayings cX4_listSayings 6 none, Cond.fieldLink RX4 9 "TaughtTongues$Steps" "weights" "[I", Cond.fieldLink RX4 47 "TaughtTongues$Steps" "learner" "LTaughtTongues$Learner;", Cond.static yX5_formOf, Cond.code yX5_formOf cX5_formOf 2 (some .int), Cond.methodLink RX4 63 yJ7_fill_d0a16, Cond.static yJ7_fill_d0a16, Cond.initialized RJ7, Cond.code yJ7_fill_d0a16 cJ7_fill_d0a16 5 none, Cond.methodLink RX4 69 yX4_hearOneMore, Cond.instanceMethod yX4_hearOneMore, Cond.selects RX4 yX4_hearOneMore yX4_hearOneMore, Cond.code yX4_hearOneMore cX4_hearOneMore 5 none, Cond.methodLink RX4 75 yX2_choiceBehind, Cond.instanceMethod yX2_choiceBehind, Cond.selects RX2 yX2_choiceBehind yX2_choiceBehind, Cond.initialized RX2, Cond.code yX2_choiceBehind cX2_choiceBehind 2 (some .int), Cond.fieldLink RX2 24 "TaughtTongues$Lots" "choices" "[I"]
def wsX5_lasts_r3 : List Cond := [Cond.fieldLink RX2 34 "TaughtTongues$Lots" "learner" "LTaughtTongues$Learner;", Cond.fieldLink RX2 30 "TaughtTongues$Lots" "counts" "LTaughtTongues$Counts;", Cond.methodLink RX2 54 yX2_countSayings, Cond.instanceMethod yX2_countSayings, Cond.selects RX2 yX2_countSayings yX2_countSayings, Cond.code yX2_countSayings cX2_countSayings 4 none, Cond.fieldLink RX2 15 "TaughtTongues$Lots" "last" "[I", Cond.fieldLink RX2 11 "TaughtTongues$Lots" "smaller" "[I", Cond.methodLink RX2 63 yX0_clear, Cond.instanceMethod yX0_clear, Cond.selects RX0 yX0_clear yX0_clear, Cond.initialized RX0, Cond.code yX0_clear cX0_clear 1 none, Cond.fieldLink RX0 9 "TaughtTongues$Counts" "times" "[I", Cond.fieldLink RX0 15 "TaughtTongues$Counts" "all" "I", Cond.methodLink RX0 19 yJ7_fill_53178, Cond.static yJ7_fill_53178, Cond.code yJ7_fill_53178 cJ7_fill_53178 4 none, Cond.methodLink RX2 66 yX0_add, Cond.instanceMethod yX0_add, Cond.selects RX0 yX0_add yX0_add, Cond.code yX0_add cX0_add 2 none, Cond.methodLink RX2 57 yX1_choice, Cond.instanceMethod yX1_choice]
def wsX5_lasts_r4 : List Cond := [Cond.selects RX1 yX1_choice yX1_choice, Cond.initialized RX1, Cond.code yX1_choice cX1_choice 9 (some .int), Cond.constantLong RX1 39 (-1), Cond.fieldLink RX1 19 "TaughtTongues$Learner" "kind" "I", Cond.methodLink RX1 22 yX0_sharedWith, Cond.instanceMethod yX0_sharedWith, Cond.selects RX0 yX0_sharedWith yX0_sharedWith, Cond.code yX0_sharedWith cX0_sharedWith 4 (some .int), Cond.methodLink RX1 31 yX1_likenessBy, Cond.instanceMethod yX1_likenessBy, Cond.selects RX1 yX1_likenessBy yX1_likenessBy, Cond.code yX1_likenessBy cX1_likenessBy 4 (some .long), Cond.fieldLink RX1 9 "TaughtTongues$Learner" "numbers" "[I", Cond.fieldLink RX1 15 "TaughtTongues$Learner" "slip" "I", Cond.static yX5_power, Cond.code yX5_power cX5_power 6 (some .long), Cond.methodLink RX1 41 yX1_isRather, Cond.instanceMethod yX1_isRather, Cond.selects RX1 yX1_isRather yX1_isRather, Cond.code yX1_isRather cX1_isRather 3 (some .boolean), Cond.methodLink RX1 45 yJ6_bitCount_0f7a4, Cond.static yJ6_bitCount_0f7a4, Cond.initialized RJ6]
def wsX5_lasts_r5 : List Cond := [Cond.code yJ6_bitCount_0f7a4 cJ6_bitCount_0f7a4 1 (some .int), Cond.constant RJ6 265 (1431655765), Cond.constant RJ6 266 (858993459), Cond.constant RJ6 267 (252645135), Cond.methodLink RX5 165 yX4_keptOnes, Cond.instanceMethod yX4_keptOnes, Cond.selects RX4 yX4_keptOnes yX4_keptOnes, Cond.code yX4_keptOnes cX4_keptOnes 3 (some .int), Cond.methodLink RX4 105 yX4_whole, Cond.instanceMethod yX4_whole, Cond.selects RX4 yX4_whole yX4_whole, Cond.code yX4_whole cX4_whole 2 (some .long), Cond.methodLink RX5 162 yX5_findReaches, Cond.instanceMethod yX5_findReaches, Cond.selects RX5 yX5_findReaches yX5_findReaches, Cond.code yX5_findReaches cX5_findReaches 3 none, Cond.fieldLink RX5 48 "TaughtTongues" "reaches" "[I", Cond.methodLink RX5 205 yX4_nextOnes, Cond.instanceMethod yX4_nextOnes, Cond.selects RX4 yX4_nextOnes yX4_nextOnes, Cond.code yX4_nextOnes cX4_nextOnes 4 (some .int), Cond.methodLink RX5 208 yX5_isIn, Cond.static yX5_isIn, Cond.code yX5_isIn cX5_isIn 2 (some .boolean)]
def wsX5_lasts_r6 : List Cond := [Cond.methodLink RX5 168 yX5_lastingOnes, Cond.instanceMethod yX5_lastingOnes, Cond.selects RX5 yX5_lastingOnes yX5_lastingOnes, Cond.code yX5_lastingOnes cX5_lastingOnes 4 (some .int), Cond.methodLink RX5 171 yX5_countParts, Cond.instanceMethod yX5_countParts, Cond.selects RX5 yX5_countParts yX5_countParts, Cond.code yX5_countParts cX5_countParts 5 (some .int)]
def wsX5_lasts : List Cond := .code yX5_lasts cX5_lasts 2 (some .int) :: ((wsX5_lasts_r1 ++ (wsX5_lasts_r2 ++ (wsX5_lasts_r3 ++ (wsX5_lasts_r4 ++ (wsX5_lasts_r5 ++ wsX5_lasts_r6))))) ++ wsX50 ++ wsX40 ++ wsX10 ++ wsX20 ++ wsX00)
def wsX5_oddsOfForm : List Cond := .code yX5_oddsOfForm cX5_oddsOfForm 6 (some .long) :: ([.methodLink RX5 178 yX5_formOf, .static yX5_formOf, .initialized RX5, .code yX5_formOf cX5_formOf 2 (some .int)])
def wsX5_lives_r1 : List Cond := [Cond.constantLong RX5 130 (-1000000000000000000), Cond.fieldLink RX5 44 "TaughtTongues" "steps" "LTaughtTongues$Steps;", Cond.methodLink RX5 52 yX5_isMeaning, Cond.static yX5_isMeaning, Cond.initialized RX5, Cond.code yX5_isMeaning cX5_isMeaning 1 (some .boolean), Cond.methodLink RX5 56 yX5_isBetween, Cond.static yX5_isBetween, Cond.code yX5_isBetween cX5_isBetween 3 (some .boolean), Cond.methodLink RX5 103 yX5_isTongue, Cond.static yX5_isTongue, Cond.code yX5_isTongue cX5_isTongue 1 (some .boolean), Cond.methodLink RX5 106 yX5_isForm, Cond.static yX5_isForm, Cond.code yX5_isForm cX5_isForm 1 (some .boolean), Cond.methodLink RX5 123 yX5_isPart, Cond.static yX5_isPart, Cond.code yX5_isPart cX5_isPart 1 (some .boolean), Cond.methodLink RX5 151 yX5_refusalOfLives, Cond.instanceMethod yX5_refusalOfLives, Cond.selects RX5 yX5_refusalOfLives yX5_refusalOfLives, Cond.code yX5_refusalOfLives cX5_refusalOfLives 5 (some .int), Cond.methodLink RX5 126 yX5_refusalOf, Cond.static yX5_refusalOf]
def wsX5_lives_r2 : List Cond := [Cond.code yX5_refusalOf cX5_refusalOf 2 (some .int), Cond.methodLink RX5 155 yX4_know, Cond.instanceMethod yX4_know, Cond.selects RX4 yX4_know yX4_know, Cond.initialized RX4, Cond.code yX4_know cX4_know 2 none, Cond.fieldLink RX4 37 "TaughtTongues$Steps" "known" "Z", Cond.fieldLink RX4 34 "TaughtTongues$Steps" "odds" "[J", Cond.methodLink RX4 95 arraycopyName, Cond.native arraycopyName, Cond.static arraycopyName, Cond.initialized "java/lang/System", Cond.methodLink RX4 91 yX4_rowOf, Cond.instanceMethod yX4_rowOf, Cond.selects RX4 yX4_rowOf yX4_rowOf, Cond.code yX4_rowOf cX4_rowOf 5 (some (.array .long)), Cond.fieldLink RX4 19 "TaughtTongues$Steps" "bookSays" "[J", Cond.fieldLink RX4 23 "TaughtTongues$Steps" "teacherSays" "[J", Cond.fieldLink RX4 28 "TaughtTongues$Steps" "lotOdds" "[J", Cond.fieldLink RX4 15 "TaughtTongues$Steps" "hears" "I", Cond.fieldLink RX4 31 "TaughtTongues$Steps" "row" "[J", Cond.fieldLink RX4 51 "TaughtTongues$Steps" "lots" "LTaughtTongues$Lots;", Cond.methodLink RX4 59 yX4_listSayings, Cond.instanceMethod yX4_listSayings]
def wsX5_lives_r3 : List Cond := [Cond.selects RX4 yX4_listSayings yX4_listSayings, Cond.code yX4_listSayings cX4_listSayings 6 none, Cond.fieldLink RX4 9 "TaughtTongues$Steps" "weights" "[I", Cond.fieldLink RX4 47 "TaughtTongues$Steps" "learner" "LTaughtTongues$Learner;", Cond.static yX5_formOf, Cond.code yX5_formOf cX5_formOf 2 (some .int), Cond.methodLink RX4 63 yJ7_fill_d0a16, Cond.static yJ7_fill_d0a16, Cond.initialized RJ7, Cond.code yJ7_fill_d0a16 cJ7_fill_d0a16 5 none, Cond.methodLink RX4 69 yX4_hearOneMore, Cond.instanceMethod yX4_hearOneMore, Cond.selects RX4 yX4_hearOneMore yX4_hearOneMore, Cond.code yX4_hearOneMore cX4_hearOneMore 5 none, Cond.methodLink RX4 75 yX2_choiceBehind, Cond.instanceMethod yX2_choiceBehind, Cond.selects RX2 yX2_choiceBehind yX2_choiceBehind, Cond.initialized RX2, Cond.code yX2_choiceBehind cX2_choiceBehind 2 (some .int), Cond.fieldLink RX2 24 "TaughtTongues$Lots" "choices" "[I", Cond.fieldLink RX2 34 "TaughtTongues$Lots" "learner" "LTaughtTongues$Learner;", Cond.fieldLink RX2 30 "TaughtTongues$Lots" "counts" "LTaughtTongues$Counts;", Cond.methodLink RX2 54 yX2_countSayings, Cond.instanceMethod yX2_countSayings]
def wsX5_lives_r4 : List Cond := [Cond.selects RX2 yX2_countSayings yX2_countSayings, Cond.code yX2_countSayings cX2_countSayings 4 none, Cond.fieldLink RX2 15 "TaughtTongues$Lots" "last" "[I", Cond.fieldLink RX2 11 "TaughtTongues$Lots" "smaller" "[I", Cond.methodLink RX2 63 yX0_clear, Cond.instanceMethod yX0_clear, Cond.selects RX0 yX0_clear yX0_clear, Cond.initialized RX0, Cond.code yX0_clear cX0_clear 1 none, Cond.fieldLink RX0 9 "TaughtTongues$Counts" "times" "[I", Cond.fieldLink RX0 15 "TaughtTongues$Counts" "all" "I", Cond.methodLink RX0 19 yJ7_fill_53178, Cond.static yJ7_fill_53178, Cond.code yJ7_fill_53178 cJ7_fill_53178 4 none, Cond.methodLink RX2 66 yX0_add, Cond.instanceMethod yX0_add, Cond.selects RX0 yX0_add yX0_add, Cond.code yX0_add cX0_add 2 none, Cond.methodLink RX2 57 yX1_choice, Cond.instanceMethod yX1_choice, Cond.selects RX1 yX1_choice yX1_choice, Cond.initialized RX1, Cond.code yX1_choice cX1_choice 9 (some .int), Cond.constantLong RX1 39 (-1)]
def wsX5_lives_r5 : List Cond := [Cond.fieldLink RX1 19 "TaughtTongues$Learner" "kind" "I", Cond.methodLink RX1 22 yX0_sharedWith, Cond.instanceMethod yX0_sharedWith, Cond.selects RX0 yX0_sharedWith yX0_sharedWith, Cond.code yX0_sharedWith cX0_sharedWith 4 (some .int), Cond.methodLink RX1 31 yX1_likenessBy, Cond.instanceMethod yX1_likenessBy, Cond.selects RX1 yX1_likenessBy yX1_likenessBy, Cond.code yX1_likenessBy cX1_likenessBy 4 (some .long), Cond.fieldLink RX1 9 "TaughtTongues$Learner" "numbers" "[I", Cond.fieldLink RX1 15 "TaughtTongues$Learner" "slip" "I", Cond.static yX5_power, Cond.code yX5_power cX5_power 6 (some .long), Cond.methodLink RX1 41 yX1_isRather, Cond.instanceMethod yX1_isRather, Cond.selects RX1 yX1_isRather yX1_isRather, Cond.code yX1_isRather cX1_isRather 3 (some .boolean), Cond.methodLink RX1 45 yJ6_bitCount_0f7a4, Cond.static yJ6_bitCount_0f7a4, Cond.initialized RJ6, Cond.code yJ6_bitCount_0f7a4 cJ6_bitCount_0f7a4 1 (some .int), Cond.constant RJ6 265 (1431655765), Cond.constant RJ6 266 (858993459), Cond.constant RJ6 267 (252645135)]
def wsX5_lives_r6 : List Cond := [Cond.methodLink RX5 158 yX4_forward, Cond.instanceMethod yX4_forward, Cond.selects RX4 yX4_forward yX4_forward, Cond.code yX4_forward cX4_forward 5 (some (.array .long)), Cond.fieldLink RX4 44 "TaughtTongues$Steps" "next" "[J", Cond.fieldLink RX4 41 "TaughtTongues$Steps" "now" "[J", Cond.methodLink RX4 101 yX4_startAt, Cond.instanceMethod yX4_startAt, Cond.selects RX4 yX4_startAt yX4_startAt, Cond.code yX4_startAt cX4_startAt 2 none, Cond.methodLink RX5 174 yX5_oddsOfForm, Cond.static yX5_oddsOfForm, Cond.code yX5_oddsOfForm cX5_oddsOfForm 6 (some .long), Cond.methodLink RX5 178 yX5_formOf, Cond.methodLink RX5 144 yX4_whole, Cond.instanceMethod yX4_whole, Cond.selects RX4 yX4_whole yX4_whole, Cond.code yX4_whole cX4_whole 2 (some .long), Cond.methodLink RX5 132 yX5_fraction, Cond.static yX5_fraction, Cond.code yX5_fraction cX5_fraction 7 (some .long), Cond.methodLink RX5 212 yX5_commonDivisor, Cond.static yX5_commonDivisor, Cond.code yX5_commonDivisor cX5_commonDivisor 11 (some .long)]
def wsX5_lives : List Cond := .code yX5_lives cX5_lives 10 (some .long) :: ((wsX5_lives_r1 ++ (wsX5_lives_r2 ++ (wsX5_lives_r3 ++ (wsX5_lives_r4 ++ (wsX5_lives_r5 ++ wsX5_lives_r6))))) ++ wsX50 ++ wsX40 ++ wsX10 ++ wsX20 ++ wsX00)
def wsX5_often_r1 : List Cond := [Cond.fieldLink RX5 44 "TaughtTongues" "steps" "LTaughtTongues$Steps;", Cond.constantLong RX5 182 (12), Cond.methodLink RX5 103 yX5_isTongue, Cond.static yX5_isTongue, Cond.initialized RX5, Cond.code yX5_isTongue cX5_isTongue 1 (some .boolean), Cond.methodLink RX5 56 yX5_isBetween, Cond.static yX5_isBetween, Cond.code yX5_isBetween cX5_isBetween 3 (some .boolean), Cond.methodLink RX5 52 yX5_isMeaning, Cond.static yX5_isMeaning, Cond.code yX5_isMeaning cX5_isMeaning 1 (some .boolean), Cond.methodLink RX5 126 yX5_refusalOf, Cond.static yX5_refusalOf, Cond.code yX5_refusalOf cX5_refusalOf 2 (some .int), Cond.methodLink RX5 140 yX4_rowOf, Cond.instanceMethod yX4_rowOf, Cond.selects RX4 yX4_rowOf yX4_rowOf, Cond.initialized RX4, Cond.code yX4_rowOf cX4_rowOf 5 (some (.array .long)), Cond.fieldLink RX4 19 "TaughtTongues$Steps" "bookSays" "[J", Cond.fieldLink RX4 23 "TaughtTongues$Steps" "teacherSays" "[J", Cond.fieldLink RX4 28 "TaughtTongues$Steps" "lotOdds" "[J", Cond.fieldLink RX4 15 "TaughtTongues$Steps" "hears" "I"]
def wsX5_often_r2 : List Cond := [Cond.fieldLink RX4 31 "TaughtTongues$Steps" "row" "[J", Cond.fieldLink RX4 51 "TaughtTongues$Steps" "lots" "LTaughtTongues$Lots;", Cond.methodLink RX4 59 yX4_listSayings, Cond.instanceMethod yX4_listSayings, Cond.selects RX4 yX4_listSayings yX4_listSayings, Cond.code yX4_listSayings cX4_listSayings 6 none, Cond.fieldLink RX4 9 "TaughtTongues$Steps" "weights" "[I", Cond.fieldLink RX4 47 "TaughtTongues$Steps" "learner" "LTaughtTongues$Learner;", Cond.static yX5_formOf, Cond.code yX5_formOf cX5_formOf 2 (some .int), Cond.methodLink RX4 63 yJ7_fill_d0a16, Cond.static yJ7_fill_d0a16, Cond.initialized RJ7, Cond.code yJ7_fill_d0a16 cJ7_fill_d0a16 5 none, Cond.methodLink RX4 69 yX4_hearOneMore, Cond.instanceMethod yX4_hearOneMore, Cond.selects RX4 yX4_hearOneMore yX4_hearOneMore, Cond.code yX4_hearOneMore cX4_hearOneMore 5 none, Cond.methodLink RX4 75 yX2_choiceBehind, Cond.instanceMethod yX2_choiceBehind, Cond.selects RX2 yX2_choiceBehind yX2_choiceBehind, Cond.initialized RX2, Cond.code yX2_choiceBehind cX2_choiceBehind 2 (some .int), Cond.fieldLink RX2 24 "TaughtTongues$Lots" "choices" "[I"]
def wsX5_often_r3 : List Cond := [Cond.fieldLink RX2 34 "TaughtTongues$Lots" "learner" "LTaughtTongues$Learner;", Cond.fieldLink RX2 30 "TaughtTongues$Lots" "counts" "LTaughtTongues$Counts;", Cond.methodLink RX2 54 yX2_countSayings, Cond.instanceMethod yX2_countSayings, Cond.selects RX2 yX2_countSayings yX2_countSayings, Cond.code yX2_countSayings cX2_countSayings 4 none, Cond.fieldLink RX2 15 "TaughtTongues$Lots" "last" "[I", Cond.fieldLink RX2 11 "TaughtTongues$Lots" "smaller" "[I", Cond.methodLink RX2 63 yX0_clear, Cond.instanceMethod yX0_clear, Cond.selects RX0 yX0_clear yX0_clear, Cond.initialized RX0, Cond.code yX0_clear cX0_clear 1 none, Cond.fieldLink RX0 9 "TaughtTongues$Counts" "times" "[I", Cond.fieldLink RX0 15 "TaughtTongues$Counts" "all" "I", Cond.methodLink RX0 19 yJ7_fill_53178, Cond.static yJ7_fill_53178, Cond.code yJ7_fill_53178 cJ7_fill_53178 4 none, Cond.methodLink RX2 66 yX0_add, Cond.instanceMethod yX0_add, Cond.selects RX0 yX0_add yX0_add, Cond.code yX0_add cX0_add 2 none, Cond.methodLink RX2 57 yX1_choice, Cond.instanceMethod yX1_choice]
def wsX5_often_r4 : List Cond := [Cond.selects RX1 yX1_choice yX1_choice, Cond.initialized RX1, Cond.code yX1_choice cX1_choice 9 (some .int), Cond.constantLong RX1 39 (-1), Cond.fieldLink RX1 19 "TaughtTongues$Learner" "kind" "I", Cond.methodLink RX1 22 yX0_sharedWith, Cond.instanceMethod yX0_sharedWith, Cond.selects RX0 yX0_sharedWith yX0_sharedWith, Cond.code yX0_sharedWith cX0_sharedWith 4 (some .int), Cond.methodLink RX1 31 yX1_likenessBy, Cond.instanceMethod yX1_likenessBy, Cond.selects RX1 yX1_likenessBy yX1_likenessBy, Cond.code yX1_likenessBy cX1_likenessBy 4 (some .long), Cond.fieldLink RX1 9 "TaughtTongues$Learner" "numbers" "[I", Cond.fieldLink RX1 15 "TaughtTongues$Learner" "slip" "I", Cond.static yX5_power, Cond.code yX5_power cX5_power 6 (some .long), Cond.methodLink RX1 41 yX1_isRather, Cond.instanceMethod yX1_isRather, Cond.selects RX1 yX1_isRather yX1_isRather, Cond.code yX1_isRather cX1_isRather 3 (some .boolean), Cond.methodLink RX1 45 yJ6_bitCount_0f7a4, Cond.static yJ6_bitCount_0f7a4, Cond.initialized RJ6]
def wsX5_often_r5 : List Cond := [Cond.code yJ6_bitCount_0f7a4 cJ6_bitCount_0f7a4 1 (some .int), Cond.constant RJ6 265 (1431655765), Cond.constant RJ6 266 (858993459), Cond.constant RJ6 267 (252645135), Cond.methodLink RX5 178 yX5_formOf, Cond.methodLink RX5 174 yX5_oddsOfForm, Cond.static yX5_oddsOfForm, Cond.code yX5_oddsOfForm cX5_oddsOfForm 6 (some .long), Cond.methodLink RX5 144 yX4_whole, Cond.instanceMethod yX4_whole, Cond.selects RX4 yX4_whole yX4_whole, Cond.code yX4_whole cX4_whole 2 (some .long)]
def wsX5_often : List Cond := .code yX5_often cX5_often 11 (some .int) :: ((wsX5_often_r1 ++ (wsX5_often_r2 ++ (wsX5_often_r3 ++ (wsX5_often_r4 ++ wsX5_often_r5)))) ++ wsX50 ++ wsX40 ++ wsX10 ++ wsX20 ++ wsX00)
def wsX5_chosen_r1 : List Cond := [Cond.fieldLink RX5 35 "TaughtTongues" "lots" "LTaughtTongues$Lots;", Cond.methodLink RX5 103 yX5_isTongue, Cond.static yX5_isTongue, Cond.initialized RX5, Cond.code yX5_isTongue cX5_isTongue 1 (some .boolean), Cond.methodLink RX5 56 yX5_isBetween, Cond.static yX5_isBetween, Cond.code yX5_isBetween cX5_isBetween 3 (some .boolean), Cond.methodLink RX5 184 yX2_firstThatTeaches, Cond.instanceMethod yX2_firstThatTeaches, Cond.selects RX2 yX2_firstThatTeaches yX2_firstThatTeaches, Cond.initialized RX2, Cond.code yX2_firstThatTeaches cX2_firstThatTeaches 3 (some .int), Cond.fieldLink RX2 30 "TaughtTongues$Lots" "counts" "LTaughtTongues$Counts;", Cond.methodLink RX2 54 yX2_countSayings, Cond.instanceMethod yX2_countSayings, Cond.selects RX2 yX2_countSayings yX2_countSayings, Cond.code yX2_countSayings cX2_countSayings 4 none, Cond.fieldLink RX2 15 "TaughtTongues$Lots" "last" "[I", Cond.fieldLink RX2 11 "TaughtTongues$Lots" "smaller" "[I", Cond.methodLink RX2 63 yX0_clear, Cond.instanceMethod yX0_clear, Cond.selects RX0 yX0_clear yX0_clear, Cond.initialized RX0]
def wsX5_chosen_r2 : List Cond := [Cond.code yX0_clear cX0_clear 1 none, Cond.fieldLink RX0 9 "TaughtTongues$Counts" "times" "[I", Cond.fieldLink RX0 15 "TaughtTongues$Counts" "all" "I", Cond.methodLink RX0 19 yJ7_fill_53178, Cond.static yJ7_fill_53178, Cond.initialized RJ7, Cond.code yJ7_fill_53178 cJ7_fill_53178 4 none, Cond.methodLink RX2 66 yX0_add, Cond.instanceMethod yX0_add, Cond.selects RX0 yX0_add yX0_add, Cond.code yX0_add cX0_add 2 none, Cond.methodLink RX2 69 yX0_sharedWith, Cond.instanceMethod yX0_sharedWith, Cond.selects RX0 yX0_sharedWith yX0_sharedWith, Cond.code yX0_sharedWith cX0_sharedWith 4 (some .int), Cond.static yX5_formOf, Cond.code yX5_formOf cX5_formOf 2 (some .int), Cond.methodLink RX2 77 yX2_choiceBehind, Cond.instanceMethod yX2_choiceBehind, Cond.selects RX2 yX2_choiceBehind yX2_choiceBehind, Cond.code yX2_choiceBehind cX2_choiceBehind 2 (some .int), Cond.fieldLink RX2 24 "TaughtTongues$Lots" "choices" "[I", Cond.fieldLink RX2 34 "TaughtTongues$Lots" "learner" "LTaughtTongues$Learner;", Cond.methodLink RX2 57 yX1_choice]
def wsX5_chosen_r3 : List Cond := [Cond.instanceMethod yX1_choice, Cond.selects RX1 yX1_choice yX1_choice, Cond.initialized RX1, Cond.code yX1_choice cX1_choice 9 (some .int), Cond.constantLong RX1 39 (-1), Cond.fieldLink RX1 19 "TaughtTongues$Learner" "kind" "I", Cond.methodLink RX1 22 yX0_sharedWith, Cond.methodLink RX1 31 yX1_likenessBy, Cond.instanceMethod yX1_likenessBy, Cond.selects RX1 yX1_likenessBy yX1_likenessBy, Cond.code yX1_likenessBy cX1_likenessBy 4 (some .long), Cond.fieldLink RX1 9 "TaughtTongues$Learner" "numbers" "[I", Cond.fieldLink RX1 15 "TaughtTongues$Learner" "slip" "I", Cond.static yX5_power, Cond.code yX5_power cX5_power 6 (some .long), Cond.methodLink RX1 41 yX1_isRather, Cond.instanceMethod yX1_isRather, Cond.selects RX1 yX1_isRather yX1_isRather, Cond.code yX1_isRather cX1_isRather 3 (some .boolean), Cond.methodLink RX1 45 yJ6_bitCount_0f7a4, Cond.static yJ6_bitCount_0f7a4, Cond.initialized RJ6, Cond.code yJ6_bitCount_0f7a4 cJ6_bitCount_0f7a4 1 (some .int), Cond.constant RJ6 265 (1431655765)]
def wsX5_chosen_r4 : List Cond := [Cond.constant RJ6 266 (858993459), Cond.constant RJ6 267 (252645135), Cond.methodLink RX5 187 yX2_sizeOf, Cond.instanceMethod yX2_sizeOf, Cond.selects RX2 yX2_sizeOf yX2_sizeOf, Cond.code yX2_sizeOf cX2_sizeOf 3 (some .int), Cond.fieldLink RX2 18 "TaughtTongues$Lots" "FIRST" "[I", Cond.methodLink RX5 190 yX2_sayingOf, Cond.instanceMethod yX2_sayingOf, Cond.selects RX2 yX2_sayingOf yX2_sayingOf, Cond.code yX2_sayingOf cX2_sayingOf 5 (some .int)]
def wsX5_chosen : List Cond := .code yX5_chosen cX5_chosen 5 (some .int) :: ((wsX5_chosen_r1 ++ (wsX5_chosen_r2 ++ (wsX5_chosen_r3 ++ wsX5_chosen_r4))) ++ wsX50 ++ wsX20 ++ wsX00 ++ wsX10)
def wsX5_back_r1 : List Cond := [Cond.constantLong RX5 130 (-1000000000000000000), Cond.fieldLink RX5 44 "TaughtTongues" "steps" "LTaughtTongues$Steps;", Cond.methodLink RX5 103 yX5_isTongue, Cond.static yX5_isTongue, Cond.initialized RX5, Cond.code yX5_isTongue cX5_isTongue 1 (some .boolean), Cond.methodLink RX5 56 yX5_isBetween, Cond.static yX5_isBetween, Cond.code yX5_isBetween cX5_isBetween 3 (some .boolean), Cond.methodLink RX5 123 yX5_isPart, Cond.static yX5_isPart, Cond.code yX5_isPart cX5_isPart 1 (some .boolean), Cond.methodLink RX5 151 yX5_refusalOfLives, Cond.instanceMethod yX5_refusalOfLives, Cond.selects RX5 yX5_refusalOfLives yX5_refusalOfLives, Cond.code yX5_refusalOfLives cX5_refusalOfLives 5 (some .int), Cond.methodLink RX5 126 yX5_refusalOf, Cond.static yX5_refusalOf, Cond.code yX5_refusalOf cX5_refusalOf 2 (some .int), Cond.methodLink RX5 155 yX4_know, Cond.instanceMethod yX4_know, Cond.selects RX4 yX4_know yX4_know, Cond.initialized RX4, Cond.code yX4_know cX4_know 2 none]
def wsX5_back_r2 : List Cond := [Cond.fieldLink RX4 37 "TaughtTongues$Steps" "known" "Z", Cond.fieldLink RX4 34 "TaughtTongues$Steps" "odds" "[J", Cond.methodLink RX4 95 arraycopyName, Cond.native arraycopyName, Cond.static arraycopyName, Cond.initialized "java/lang/System", Cond.methodLink RX4 91 yX4_rowOf, Cond.instanceMethod yX4_rowOf, Cond.selects RX4 yX4_rowOf yX4_rowOf, Cond.code yX4_rowOf cX4_rowOf 5 (some (.array .long)), Cond.fieldLink RX4 19 "TaughtTongues$Steps" "bookSays" "[J", Cond.fieldLink RX4 23 "TaughtTongues$Steps" "teacherSays" "[J", Cond.fieldLink RX4 28 "TaughtTongues$Steps" "lotOdds" "[J", Cond.fieldLink RX4 15 "TaughtTongues$Steps" "hears" "I", Cond.fieldLink RX4 31 "TaughtTongues$Steps" "row" "[J", Cond.fieldLink RX4 51 "TaughtTongues$Steps" "lots" "LTaughtTongues$Lots;", Cond.methodLink RX4 59 yX4_listSayings, Cond.instanceMethod yX4_listSayings, Cond.selects RX4 yX4_listSayings yX4_listSayings, Cond.code yX4_listSayings cX4_listSayings 6 none, Cond.fieldLink RX4 9 "TaughtTongues$Steps" "weights" "[I", Cond.fieldLink RX4 47 "TaughtTongues$Steps" "learner" "LTaughtTongues$Learner;", Cond.static yX5_formOf, Cond.code yX5_formOf cX5_formOf 2 (some .int)]
def wsX5_back_r3 : List Cond := [Cond.methodLink RX4 63 yJ7_fill_d0a16, Cond.static yJ7_fill_d0a16, Cond.initialized RJ7, Cond.code yJ7_fill_d0a16 cJ7_fill_d0a16 5 none, Cond.methodLink RX4 69 yX4_hearOneMore, Cond.instanceMethod yX4_hearOneMore, Cond.selects RX4 yX4_hearOneMore yX4_hearOneMore, Cond.code yX4_hearOneMore cX4_hearOneMore 5 none, Cond.methodLink RX4 75 yX2_choiceBehind, Cond.instanceMethod yX2_choiceBehind, Cond.selects RX2 yX2_choiceBehind yX2_choiceBehind, Cond.initialized RX2, Cond.code yX2_choiceBehind cX2_choiceBehind 2 (some .int), Cond.fieldLink RX2 24 "TaughtTongues$Lots" "choices" "[I", Cond.fieldLink RX2 34 "TaughtTongues$Lots" "learner" "LTaughtTongues$Learner;", Cond.fieldLink RX2 30 "TaughtTongues$Lots" "counts" "LTaughtTongues$Counts;", Cond.methodLink RX2 54 yX2_countSayings, Cond.instanceMethod yX2_countSayings, Cond.selects RX2 yX2_countSayings yX2_countSayings, Cond.code yX2_countSayings cX2_countSayings 4 none, Cond.fieldLink RX2 15 "TaughtTongues$Lots" "last" "[I", Cond.fieldLink RX2 11 "TaughtTongues$Lots" "smaller" "[I", Cond.methodLink RX2 63 yX0_clear, Cond.instanceMethod yX0_clear]
def wsX5_back_r4 : List Cond := [Cond.selects RX0 yX0_clear yX0_clear, Cond.initialized RX0, Cond.code yX0_clear cX0_clear 1 none, Cond.fieldLink RX0 9 "TaughtTongues$Counts" "times" "[I", Cond.fieldLink RX0 15 "TaughtTongues$Counts" "all" "I", Cond.methodLink RX0 19 yJ7_fill_53178, Cond.static yJ7_fill_53178, Cond.code yJ7_fill_53178 cJ7_fill_53178 4 none, Cond.methodLink RX2 66 yX0_add, Cond.instanceMethod yX0_add, Cond.selects RX0 yX0_add yX0_add, Cond.code yX0_add cX0_add 2 none, Cond.methodLink RX2 57 yX1_choice, Cond.instanceMethod yX1_choice, Cond.selects RX1 yX1_choice yX1_choice, Cond.initialized RX1, Cond.code yX1_choice cX1_choice 9 (some .int), Cond.constantLong RX1 39 (-1), Cond.fieldLink RX1 19 "TaughtTongues$Learner" "kind" "I", Cond.methodLink RX1 22 yX0_sharedWith, Cond.instanceMethod yX0_sharedWith, Cond.selects RX0 yX0_sharedWith yX0_sharedWith, Cond.code yX0_sharedWith cX0_sharedWith 4 (some .int), Cond.methodLink RX1 31 yX1_likenessBy]
def wsX5_back_r5 : List Cond := [Cond.instanceMethod yX1_likenessBy, Cond.selects RX1 yX1_likenessBy yX1_likenessBy, Cond.code yX1_likenessBy cX1_likenessBy 4 (some .long), Cond.fieldLink RX1 9 "TaughtTongues$Learner" "numbers" "[I", Cond.fieldLink RX1 15 "TaughtTongues$Learner" "slip" "I", Cond.static yX5_power, Cond.code yX5_power cX5_power 6 (some .long), Cond.methodLink RX1 41 yX1_isRather, Cond.instanceMethod yX1_isRather, Cond.selects RX1 yX1_isRather yX1_isRather, Cond.code yX1_isRather cX1_isRather 3 (some .boolean), Cond.methodLink RX1 45 yJ6_bitCount_0f7a4, Cond.static yJ6_bitCount_0f7a4, Cond.initialized RJ6, Cond.code yJ6_bitCount_0f7a4 cJ6_bitCount_0f7a4 1 (some .int), Cond.constant RJ6 265 (1431655765), Cond.constant RJ6 266 (858993459), Cond.constant RJ6 267 (252645135), Cond.methodLink RX5 193 yX4_backward, Cond.instanceMethod yX4_backward, Cond.selects RX4 yX4_backward yX4_backward, Cond.code yX4_backward cX4_backward 5 (some (.array .long)), Cond.fieldLink RX4 44 "TaughtTongues$Steps" "next" "[J", Cond.fieldLink RX4 41 "TaughtTongues$Steps" "now" "[J"]
def wsX5_back_r6 : List Cond := [Cond.methodLink RX4 101 yX4_startAt, Cond.instanceMethod yX4_startAt, Cond.selects RX4 yX4_startAt yX4_startAt, Cond.code yX4_startAt cX4_startAt 2 none, Cond.methodLink RX5 132 yX5_fraction, Cond.static yX5_fraction, Cond.code yX5_fraction cX5_fraction 7 (some .long), Cond.methodLink RX5 212 yX5_commonDivisor, Cond.static yX5_commonDivisor, Cond.code yX5_commonDivisor cX5_commonDivisor 11 (some .long)]
def wsX5_back : List Cond := .code yX5_back cX5_back 10 (some .long) :: ((wsX5_back_r1 ++ (wsX5_back_r2 ++ (wsX5_back_r3 ++ (wsX5_back_r4 ++ (wsX5_back_r5 ++ wsX5_back_r6))))) ++ wsX50 ++ wsX40 ++ wsX10 ++ wsX20 ++ wsX00)
def wsX5_guess_r1 : List Cond := [Cond.fieldLink RX5 44 "TaughtTongues" "steps" "LTaughtTongues$Steps;", Cond.methodLink RX5 103 yX5_isTongue, Cond.static yX5_isTongue, Cond.initialized RX5, Cond.code yX5_isTongue cX5_isTongue 1 (some .boolean), Cond.methodLink RX5 56 yX5_isBetween, Cond.static yX5_isBetween, Cond.code yX5_isBetween cX5_isBetween 3 (some .boolean), Cond.methodLink RX5 151 yX5_refusalOfLives, Cond.instanceMethod yX5_refusalOfLives, Cond.selects RX5 yX5_refusalOfLives yX5_refusalOfLives, Cond.code yX5_refusalOfLives cX5_refusalOfLives 5 (some .int), Cond.methodLink RX5 126 yX5_refusalOf, Cond.static yX5_refusalOf, Cond.code yX5_refusalOf cX5_refusalOf 2 (some .int), Cond.methodLink RX5 155 yX4_know, Cond.instanceMethod yX4_know, Cond.selects RX4 yX4_know yX4_know, Cond.initialized RX4, Cond.code yX4_know cX4_know 2 none, Cond.fieldLink RX4 37 "TaughtTongues$Steps" "known" "Z", Cond.fieldLink RX4 34 "TaughtTongues$Steps" "odds" "[J", Cond.methodLink RX4 95 arraycopyName, Cond.native arraycopyName]
def wsX5_guess_r2 : List Cond := [Cond.static arraycopyName, Cond.initialized "java/lang/System", Cond.methodLink RX4 91 yX4_rowOf, Cond.instanceMethod yX4_rowOf, Cond.selects RX4 yX4_rowOf yX4_rowOf, Cond.code yX4_rowOf cX4_rowOf 5 (some (.array .long)), Cond.fieldLink RX4 19 "TaughtTongues$Steps" "bookSays" "[J", Cond.fieldLink RX4 23 "TaughtTongues$Steps" "teacherSays" "[J", Cond.fieldLink RX4 28 "TaughtTongues$Steps" "lotOdds" "[J", Cond.fieldLink RX4 15 "TaughtTongues$Steps" "hears" "I", Cond.fieldLink RX4 31 "TaughtTongues$Steps" "row" "[J", Cond.fieldLink RX4 51 "TaughtTongues$Steps" "lots" "LTaughtTongues$Lots;", Cond.methodLink RX4 59 yX4_listSayings, Cond.instanceMethod yX4_listSayings, Cond.selects RX4 yX4_listSayings yX4_listSayings, Cond.code yX4_listSayings cX4_listSayings 6 none, Cond.fieldLink RX4 9 "TaughtTongues$Steps" "weights" "[I", Cond.fieldLink RX4 47 "TaughtTongues$Steps" "learner" "LTaughtTongues$Learner;", Cond.static yX5_formOf, Cond.code yX5_formOf cX5_formOf 2 (some .int), Cond.methodLink RX4 63 yJ7_fill_d0a16, Cond.static yJ7_fill_d0a16, Cond.initialized RJ7, Cond.code yJ7_fill_d0a16 cJ7_fill_d0a16 5 none]
def wsX5_guess_r3 : List Cond := [Cond.methodLink RX4 69 yX4_hearOneMore, Cond.instanceMethod yX4_hearOneMore, Cond.selects RX4 yX4_hearOneMore yX4_hearOneMore, Cond.code yX4_hearOneMore cX4_hearOneMore 5 none, Cond.methodLink RX4 75 yX2_choiceBehind, Cond.instanceMethod yX2_choiceBehind, Cond.selects RX2 yX2_choiceBehind yX2_choiceBehind, Cond.initialized RX2, Cond.code yX2_choiceBehind cX2_choiceBehind 2 (some .int), Cond.fieldLink RX2 24 "TaughtTongues$Lots" "choices" "[I", Cond.fieldLink RX2 34 "TaughtTongues$Lots" "learner" "LTaughtTongues$Learner;", Cond.fieldLink RX2 30 "TaughtTongues$Lots" "counts" "LTaughtTongues$Counts;", Cond.methodLink RX2 54 yX2_countSayings, Cond.instanceMethod yX2_countSayings, Cond.selects RX2 yX2_countSayings yX2_countSayings, Cond.code yX2_countSayings cX2_countSayings 4 none, Cond.fieldLink RX2 15 "TaughtTongues$Lots" "last" "[I", Cond.fieldLink RX2 11 "TaughtTongues$Lots" "smaller" "[I", Cond.methodLink RX2 63 yX0_clear, Cond.instanceMethod yX0_clear, Cond.selects RX0 yX0_clear yX0_clear, Cond.initialized RX0, Cond.code yX0_clear cX0_clear 1 none, Cond.fieldLink RX0 9 "TaughtTongues$Counts" "times" "[I"]
def wsX5_guess_r4 : List Cond := [Cond.fieldLink RX0 15 "TaughtTongues$Counts" "all" "I", Cond.methodLink RX0 19 yJ7_fill_53178, Cond.static yJ7_fill_53178, Cond.code yJ7_fill_53178 cJ7_fill_53178 4 none, Cond.methodLink RX2 66 yX0_add, Cond.instanceMethod yX0_add, Cond.selects RX0 yX0_add yX0_add, Cond.code yX0_add cX0_add 2 none, Cond.methodLink RX2 57 yX1_choice, Cond.instanceMethod yX1_choice, Cond.selects RX1 yX1_choice yX1_choice, Cond.initialized RX1, Cond.code yX1_choice cX1_choice 9 (some .int), Cond.constantLong RX1 39 (-1), Cond.fieldLink RX1 19 "TaughtTongues$Learner" "kind" "I", Cond.methodLink RX1 22 yX0_sharedWith, Cond.instanceMethod yX0_sharedWith, Cond.selects RX0 yX0_sharedWith yX0_sharedWith, Cond.code yX0_sharedWith cX0_sharedWith 4 (some .int), Cond.methodLink RX1 31 yX1_likenessBy, Cond.instanceMethod yX1_likenessBy, Cond.selects RX1 yX1_likenessBy yX1_likenessBy, Cond.code yX1_likenessBy cX1_likenessBy 4 (some .long), Cond.fieldLink RX1 9 "TaughtTongues$Learner" "numbers" "[I"]
def wsX5_guess_r5 : List Cond := [Cond.fieldLink RX1 15 "TaughtTongues$Learner" "slip" "I", Cond.static yX5_power, Cond.code yX5_power cX5_power 6 (some .long), Cond.methodLink RX1 41 yX1_isRather, Cond.instanceMethod yX1_isRather, Cond.selects RX1 yX1_isRather yX1_isRather, Cond.code yX1_isRather cX1_isRather 3 (some .boolean), Cond.methodLink RX1 45 yJ6_bitCount_0f7a4, Cond.static yJ6_bitCount_0f7a4, Cond.initialized RJ6, Cond.code yJ6_bitCount_0f7a4 cJ6_bitCount_0f7a4 1 (some .int), Cond.constant RJ6 265 (1431655765), Cond.constant RJ6 266 (858993459), Cond.constant RJ6 267 (252645135), Cond.methodLink RX5 193 yX4_backward, Cond.instanceMethod yX4_backward, Cond.selects RX4 yX4_backward yX4_backward, Cond.code yX4_backward cX4_backward 5 (some (.array .long)), Cond.fieldLink RX4 44 "TaughtTongues$Steps" "next" "[J", Cond.fieldLink RX4 41 "TaughtTongues$Steps" "now" "[J", Cond.methodLink RX4 101 yX4_startAt, Cond.instanceMethod yX4_startAt, Cond.selects RX4 yX4_startAt yX4_startAt, Cond.code yX4_startAt cX4_startAt 2 none]
def wsX5_guess : List Cond := .code yX5_guess cX5_guess 9 (some .int) :: ((wsX5_guess_r1 ++ (wsX5_guess_r2 ++ (wsX5_guess_r3 ++ (wsX5_guess_r4 ++ wsX5_guess_r5)))) ++ wsX50 ++ wsX40 ++ wsX10 ++ wsX20 ++ wsX00)
def wsX5_told : List Cond := .code yX5_told cX5_told 2 (some .int) :: ([.fieldLink RX5 26 "TaughtTongues" "learner" "LTaughtTongues$Learner;", .fieldLink RX5 44 "TaughtTongues" "steps" "LTaughtTongues$Steps;", .fieldLink RX5 10 "TaughtTongues" "signs" "LTaughtTongues$Signs;", .fieldLink RX5 19 "TaughtTongues" "heard" "LTaughtTongues$Counts;"] ++ wsX50 ++ wsX10 ++ wsX40 ++ wsX30 ++ wsX00)
def wsX6_init : List Cond := .code yX6_init cX6_init 2 none :: ([.methodLink RX6 1 objectInit, .instanceMethod objectInit, .code objectInit ⟨#[0xb1]⟩ 1 none, .arrayClass .int, .fieldLink RX6 7 "TaughtTonguesModel" "weights" "[I", .fieldLink RX6 13 "TaughtTonguesModel" "signs" "[I", .fieldLink RX6 16 "TaughtTonguesModel" "lineSigns" "[I", .fieldLink RX6 19 "TaughtTonguesModel" "heard" "[I", .fieldLink RX6 22 "TaughtTonguesModel" "row" "[I", .arrayClass .long, .fieldLink RX6 25 "TaughtTonguesModel" "steps" "[J", .fieldLink RX6 29 "TaughtTonguesModel" "now" "[J", .fieldLink RX6 32 "TaughtTonguesModel" "then" "[J", .fieldLink RX6 35 "TaughtTonguesModel" "led" "[I", .fieldLink RX6 38 "TaughtTonguesModel" "picked" "[I", .fieldLink RX6 41 "TaughtTonguesModel" "came" "[J", .fieldLink RX6 44 "TaughtTonguesModel" "slipIs" "I", .fieldLink RX6 48 "TaughtTonguesModel" "hearsIs" "I"] ++ wsX60)
def wsX6_in : List Cond := .code yX6_in cX6_in 6 (some .boolean) :: ([])
def wsX6_ones : List Cond := .code yX6_ones cX6_ones 1 (some .int) :: ([])
def wsX6_isMeaning : List Cond := .code yX6_isMeaning cX6_isMeaning 1 (some .boolean) :: ([.constantLong RX6 51 (2), .methodLink RX6 53 yX6_in, .static yX6_in, .initialized RX6, .code yX6_in cX6_in 6 (some .boolean)])
def wsX6_isTongue : List Cond := .code yX6_isTongue cX6_isTongue 1 (some .boolean) :: ([.constantLong RX6 57 (7), .methodLink RX6 53 yX6_in, .static yX6_in, .initialized RX6, .code yX6_in cX6_in 6 (some .boolean)])
def wsX6_isPart : List Cond := .code yX6_isPart cX6_isPart 1 (some .boolean) :: ([.methodLink RX6 53 yX6_in, .static yX6_in, .initialized RX6, .code yX6_in cX6_in 6 (some .boolean)])
def wsX6_lowest : List Cond := .code yX6_lowest cX6_lowest 11 (some .long) :: ([])
def wsX6_weight : List Cond := .code yX6_weight cX6_weight 4 (some .int) :: ([.constantLong RX6 63 (4), .fieldLink RX6 7 "TaughtTonguesModel" "weights" "[I", .methodLink RX6 59 yX6_isMeaning, .static yX6_isMeaning, .initialized RX6, .code yX6_isMeaning cX6_isMeaning 1 (some .boolean), .constantLong RX6 51 (2), .methodLink RX6 53 yX6_in, .static yX6_in, .code yX6_in cX6_in 6 (some .boolean)] ++ wsX60)
def wsX6_numberIs : List Cond := .code yX6_numberIs cX6_numberIs 2 (some .int) :: ([.fieldLink RX6 44 "TaughtTonguesModel" "slipIs" "I", .fieldLink RX6 48 "TaughtTonguesModel" "hearsIs" "I", .fieldLink RX6 65 "TaughtTonguesModel" "learnerIs" "I"] ++ wsX60)
def wsX6_set : List Cond := .code yX6_set cX6_set 4 (some .int) :: ([.constantLong RX6 51 (2), .constantLong RX6 68 (5), .constantLong RX6 63 (4), .fieldLink RX6 44 "TaughtTonguesModel" "slipIs" "I", .fieldLink RX6 48 "TaughtTonguesModel" "hearsIs" "I", .fieldLink RX6 65 "TaughtTonguesModel" "learnerIs" "I", .methodLink RX6 53 yX6_in, .static yX6_in, .initialized RX6, .code yX6_in cX6_in 6 (some .boolean), .methodLink RX6 70 yX6_numberIs, .instanceMethod yX6_numberIs, .selects RX6 yX6_numberIs yX6_numberIs, .code yX6_numberIs cX6_numberIs 2 (some .int)] ++ wsX60)
def wsX6_say : List Cond := .code yX6_say cX6_say 2 (some .int) :: ([.constantLong RX6 74 (33), .constantLong RX6 76 (126), .fieldLink RX6 78 "TaughtTonguesModel" "signMany" "I", .fieldLink RX6 13 "TaughtTonguesModel" "signs" "[I", .methodLink RX6 53 yX6_in, .static yX6_in, .initialized RX6, .code yX6_in cX6_in 6 (some .boolean)] ++ wsX60)
def wsX6_wipe : List Cond := .code yX6_wipe cX6_wipe 2 (some .int) :: ([.fieldLink RX6 78 "TaughtTonguesModel" "signMany" "I"] ++ wsX60)
def wsX6_fault : List Cond := .code yX6_fault cX6_fault 5 (some .int) :: ([.fieldLink RX6 78 "TaughtTonguesModel" "signMany" "I", .fieldLink RX6 13 "TaughtTonguesModel" "signs" "[I", .constantLong RX6 81 (49), .constantLong RX6 83 (57), .methodLink RX6 53 yX6_in, .static yX6_in, .initialized RX6, .code yX6_in cX6_in 6 (some .boolean)] ++ wsX60)
def wsX6_before : List Cond := .code yX6_before cX6_before 3 (some .int) :: ([.fieldLink RX6 78 "TaughtTonguesModel" "signMany" "I", .fieldLink RX6 89 "TaughtTonguesModel" "lines" "I", .fieldLink RX6 16 "TaughtTonguesModel" "lineSigns" "[I", .fieldLink RX6 13 "TaughtTonguesModel" "signs" "[I", .methodLink RX6 85 yX6_fault, .instanceMethod yX6_fault, .selects RX6 yX6_fault yX6_fault, .initialized RX6, .code yX6_fault cX6_fault 5 (some .int), .constantLong RX6 81 (49), .constantLong RX6 83 (57), .methodLink RX6 53 yX6_in, .static yX6_in, .code yX6_in cX6_in 6 (some .boolean)] ++ wsX60)
def wsX6_beforehand : List Cond := .code yX6_beforehand cX6_beforehand 6 (some .int) :: ([.fieldLink RX6 89 "TaughtTonguesModel" "lines" "I", .fieldLink RX6 16 "TaughtTonguesModel" "lineSigns" "[I"] ++ wsX60)
def wsX6_number : List Cond := .code yX6_number cX6_number 2 (some .int) :: ([.methodLink RX6 92 yX6_isTongue, .static yX6_isTongue, .initialized RX6, .code yX6_isTongue cX6_isTongue 1 (some .boolean), .constantLong RX6 57 (7), .methodLink RX6 53 yX6_in, .static yX6_in, .code yX6_in cX6_in 6 (some .boolean), .methodLink RX6 95 yX6_beforehand, .instanceMethod yX6_beforehand, .selects RX6 yX6_beforehand yX6_beforehand, .code yX6_beforehand cX6_beforehand 6 (some .int), .fieldLink RX6 89 "TaughtTonguesModel" "lines" "I", .fieldLink RX6 16 "TaughtTonguesModel" "lineSigns" "[I"] ++ wsX60)
def wsX6_hear : List Cond := .code yX6_hear cX6_hear 3 (some .int) :: ([.fieldLink RX6 98 "TaughtTonguesModel" "heardMany" "I", .fieldLink RX6 19 "TaughtTonguesModel" "heard" "[I", .methodLink RX6 59 yX6_isMeaning, .static yX6_isMeaning, .initialized RX6, .code yX6_isMeaning cX6_isMeaning 1 (some .boolean), .constantLong RX6 51 (2), .methodLink RX6 53 yX6_in, .static yX6_in, .code yX6_in cX6_in 6 (some .boolean)] ++ wsX60)
def wsX6_forget : List Cond := .code yX6_forget cX6_forget 2 (some .int) :: ([.fieldLink RX6 98 "TaughtTonguesModel" "heardMany" "I"] ++ wsX60)
def wsX6_layHeard : List Cond := .code yX6_layHeard cX6_layHeard 2 none :: ([.fieldLink RX6 22 "TaughtTonguesModel" "row" "[I", .fieldLink RX6 19 "TaughtTonguesModel" "heard" "[I", .fieldLink RX6 98 "TaughtTonguesModel" "heardMany" "I", .fieldLink RX6 101 "TaughtTonguesModel" "rowMany" "I"] ++ wsX60)
def wsX6_hasForm : List Cond := .code yX6_hasForm cX6_hasForm 2 (some .boolean) :: ([])
def wsX6_likenessOf : List Cond := .code yX6_likenessOf cX6_likenessOf 5 (some .long) :: ([.fieldLink RX6 101 "TaughtTonguesModel" "rowMany" "I", .fieldLink RX6 22 "TaughtTonguesModel" "row" "[I", .fieldLink RX6 44 "TaughtTonguesModel" "slipIs" "I", .methodLink RX6 95 yX6_beforehand, .instanceMethod yX6_beforehand, .selects RX6 yX6_beforehand yX6_beforehand, .initialized RX6, .code yX6_beforehand cX6_beforehand 6 (some .int), .fieldLink RX6 89 "TaughtTonguesModel" "lines" "I", .fieldLink RX6 16 "TaughtTonguesModel" "lineSigns" "[I", .methodLink RX6 104 yX6_hasForm, .static yX6_hasForm, .code yX6_hasForm cX6_hasForm 2 (some .boolean)] ++ wsX60)
def wsX6_likeness_r1 : List Cond := [Cond.constantLong RX6 108 (-1), Cond.methodLink RX6 92 yX6_isTongue, Cond.static yX6_isTongue, Cond.initialized RX6, Cond.code yX6_isTongue cX6_isTongue 1 (some .boolean), Cond.constantLong RX6 57 (7), Cond.methodLink RX6 53 yX6_in, Cond.static yX6_in, Cond.code yX6_in cX6_in 6 (some .boolean), Cond.methodLink RX6 110 yX6_layHeard, Cond.instanceMethod yX6_layHeard, Cond.selects RX6 yX6_layHeard yX6_layHeard, Cond.code yX6_layHeard cX6_layHeard 2 none, Cond.fieldLink RX6 22 "TaughtTonguesModel" "row" "[I", Cond.fieldLink RX6 19 "TaughtTonguesModel" "heard" "[I", Cond.fieldLink RX6 98 "TaughtTonguesModel" "heardMany" "I", Cond.fieldLink RX6 101 "TaughtTonguesModel" "rowMany" "I", Cond.methodLink RX6 113 yX6_likenessOf, Cond.instanceMethod yX6_likenessOf, Cond.selects RX6 yX6_likenessOf yX6_likenessOf, Cond.code yX6_likenessOf cX6_likenessOf 5 (some .long), Cond.fieldLink RX6 44 "TaughtTonguesModel" "slipIs" "I", Cond.methodLink RX6 95 yX6_beforehand, Cond.instanceMethod yX6_beforehand]
def wsX6_likeness_r2 : List Cond := [Cond.selects RX6 yX6_beforehand yX6_beforehand, Cond.code yX6_beforehand cX6_beforehand 6 (some .int), Cond.fieldLink RX6 89 "TaughtTonguesModel" "lines" "I", Cond.fieldLink RX6 16 "TaughtTonguesModel" "lineSigns" "[I", Cond.methodLink RX6 104 yX6_hasForm, Cond.static yX6_hasForm, Cond.code yX6_hasForm cX6_hasForm 2 (some .boolean)]
def wsX6_likeness : List Cond := .code yX6_likeness cX6_likeness 2 (some .long) :: ((wsX6_likeness_r1 ++ wsX6_likeness_r2) ++ wsX60)
def wsX6_thinks_r1 : List Cond := [Cond.constantLong RX6 117 (-1000000000000000001), Cond.constantLong RX6 122 (-1000000000000000002), Cond.methodLink RX6 92 yX6_isTongue, Cond.static yX6_isTongue, Cond.initialized RX6, Cond.code yX6_isTongue cX6_isTongue 1 (some .boolean), Cond.constantLong RX6 57 (7), Cond.methodLink RX6 53 yX6_in, Cond.static yX6_in, Cond.code yX6_in cX6_in 6 (some .boolean), Cond.methodLink RX6 119 yX6_isPart, Cond.static yX6_isPart, Cond.code yX6_isPart cX6_isPart 1 (some .boolean), Cond.methodLink RX6 110 yX6_layHeard, Cond.instanceMethod yX6_layHeard, Cond.selects RX6 yX6_layHeard yX6_layHeard, Cond.code yX6_layHeard cX6_layHeard 2 none, Cond.fieldLink RX6 22 "TaughtTonguesModel" "row" "[I", Cond.fieldLink RX6 19 "TaughtTonguesModel" "heard" "[I", Cond.fieldLink RX6 98 "TaughtTonguesModel" "heardMany" "I", Cond.fieldLink RX6 101 "TaughtTonguesModel" "rowMany" "I", Cond.methodLink RX6 113 yX6_likenessOf, Cond.instanceMethod yX6_likenessOf, Cond.selects RX6 yX6_likenessOf yX6_likenessOf]
def wsX6_thinks_r2 : List Cond := [Cond.code yX6_likenessOf cX6_likenessOf 5 (some .long), Cond.fieldLink RX6 44 "TaughtTonguesModel" "slipIs" "I", Cond.methodLink RX6 95 yX6_beforehand, Cond.instanceMethod yX6_beforehand, Cond.selects RX6 yX6_beforehand yX6_beforehand, Cond.code yX6_beforehand cX6_beforehand 6 (some .int), Cond.fieldLink RX6 89 "TaughtTonguesModel" "lines" "I", Cond.fieldLink RX6 16 "TaughtTonguesModel" "lineSigns" "[I", Cond.methodLink RX6 104 yX6_hasForm, Cond.static yX6_hasForm, Cond.code yX6_hasForm cX6_hasForm 2 (some .boolean), Cond.methodLink RX6 124 yX6_lowest, Cond.static yX6_lowest, Cond.code yX6_lowest cX6_lowest 11 (some .long)]
def wsX6_thinks : List Cond := .code yX6_thinks cX6_thinks 6 (some .long) :: ((wsX6_thinks_r1 ++ wsX6_thinks_r2) ++ wsX60)
def wsX6_hasAll : List Cond := .code yX6_hasAll cX6_hasAll 4 (some .boolean) :: ([.fieldLink RX6 101 "TaughtTonguesModel" "rowMany" "I", .fieldLink RX6 22 "TaughtTonguesModel" "row" "[I", .methodLink RX6 104 yX6_hasForm, .static yX6_hasForm, .initialized RX6, .code yX6_hasForm cX6_hasForm 2 (some .boolean)] ++ wsX60)
def wsX6_taken_r1 : List Cond := [Cond.fieldLink RX6 65 "TaughtTonguesModel" "learnerIs" "I", Cond.methodLink RX6 128 yX6_hasAll, Cond.instanceMethod yX6_hasAll, Cond.selects RX6 yX6_hasAll yX6_hasAll, Cond.initialized RX6, Cond.code yX6_hasAll cX6_hasAll 4 (some .boolean), Cond.fieldLink RX6 101 "TaughtTonguesModel" "rowMany" "I", Cond.fieldLink RX6 22 "TaughtTonguesModel" "row" "[I", Cond.methodLink RX6 104 yX6_hasForm, Cond.static yX6_hasForm, Cond.code yX6_hasForm cX6_hasForm 2 (some .boolean), Cond.methodLink RX6 113 yX6_likenessOf, Cond.instanceMethod yX6_likenessOf, Cond.selects RX6 yX6_likenessOf yX6_likenessOf, Cond.code yX6_likenessOf cX6_likenessOf 5 (some .long), Cond.fieldLink RX6 44 "TaughtTonguesModel" "slipIs" "I", Cond.methodLink RX6 95 yX6_beforehand, Cond.instanceMethod yX6_beforehand, Cond.selects RX6 yX6_beforehand yX6_beforehand, Cond.code yX6_beforehand cX6_beforehand 6 (some .int), Cond.fieldLink RX6 89 "TaughtTonguesModel" "lines" "I", Cond.fieldLink RX6 16 "TaughtTonguesModel" "lineSigns" "[I", Cond.methodLink RX6 131 yX6_ones, Cond.static yX6_ones]
def wsX6_taken_r2 : List Cond := [Cond.code yX6_ones cX6_ones 1 (some .int)]
def wsX6_taken : List Cond := .code yX6_taken cX6_taken 7 (some .int) :: ((wsX6_taken_r1 ++ wsX6_taken_r2) ++ wsX60)
def wsX6_takes_r1 : List Cond := [Cond.methodLink RX6 110 yX6_layHeard, Cond.instanceMethod yX6_layHeard, Cond.selects RX6 yX6_layHeard yX6_layHeard, Cond.initialized RX6, Cond.code yX6_layHeard cX6_layHeard 2 none, Cond.fieldLink RX6 22 "TaughtTonguesModel" "row" "[I", Cond.fieldLink RX6 19 "TaughtTonguesModel" "heard" "[I", Cond.fieldLink RX6 98 "TaughtTonguesModel" "heardMany" "I", Cond.fieldLink RX6 101 "TaughtTonguesModel" "rowMany" "I", Cond.methodLink RX6 134 yX6_taken, Cond.instanceMethod yX6_taken, Cond.selects RX6 yX6_taken yX6_taken, Cond.code yX6_taken cX6_taken 7 (some .int), Cond.fieldLink RX6 65 "TaughtTonguesModel" "learnerIs" "I", Cond.methodLink RX6 128 yX6_hasAll, Cond.instanceMethod yX6_hasAll, Cond.selects RX6 yX6_hasAll yX6_hasAll, Cond.code yX6_hasAll cX6_hasAll 4 (some .boolean), Cond.methodLink RX6 104 yX6_hasForm, Cond.static yX6_hasForm, Cond.code yX6_hasForm cX6_hasForm 2 (some .boolean), Cond.methodLink RX6 113 yX6_likenessOf, Cond.instanceMethod yX6_likenessOf, Cond.selects RX6 yX6_likenessOf yX6_likenessOf]
def wsX6_takes_r2 : List Cond := [Cond.code yX6_likenessOf cX6_likenessOf 5 (some .long), Cond.fieldLink RX6 44 "TaughtTonguesModel" "slipIs" "I", Cond.methodLink RX6 95 yX6_beforehand, Cond.instanceMethod yX6_beforehand, Cond.selects RX6 yX6_beforehand yX6_beforehand, Cond.code yX6_beforehand cX6_beforehand 6 (some .int), Cond.fieldLink RX6 89 "TaughtTonguesModel" "lines" "I", Cond.fieldLink RX6 16 "TaughtTonguesModel" "lineSigns" "[I", Cond.methodLink RX6 131 yX6_ones, Cond.static yX6_ones, Cond.code yX6_ones cX6_ones 1 (some .int)]
def wsX6_takes : List Cond := .code yX6_takes cX6_takes 1 (some .int) :: ((wsX6_takes_r1 ++ wsX6_takes_r2) ++ wsX60)
def wsX6_lowerOf : List Cond := .code yX6_lowerOf cX6_lowerOf 6 (some .long) :: ([.constantLong RX6 137 (12), .fieldLink RX6 7 "TaughtTonguesModel" "weights" "[I", .fieldLink RX6 48 "TaughtTonguesModel" "hearsIs" "I"] ++ wsX60)
def wsX6_oddsOf : List Cond := .code yX6_oddsOf cX6_oddsOf 3 (some .long) :: ([.fieldLink RX6 7 "TaughtTonguesModel" "weights" "[I", .constantLong RX6 137 (12), .fieldLink RX6 44 "TaughtTonguesModel" "slipIs" "I", .methodLink RX6 104 yX6_hasForm, .static yX6_hasForm, .initialized RX6, .code yX6_hasForm cX6_hasForm 2 (some .boolean)] ++ wsX60)
def wsX6_findSteps_r1 : List Cond := [Cond.fieldLink RX6 143 "TaughtTonguesModel" "lower" "J", Cond.fieldLink RX6 25 "TaughtTonguesModel" "steps" "[J", Cond.fieldLink RX6 48 "TaughtTonguesModel" "hearsIs" "I", Cond.fieldLink RX6 101 "TaughtTonguesModel" "rowMany" "I", Cond.fieldLink RX6 22 "TaughtTonguesModel" "row" "[I", Cond.methodLink RX6 139 yX6_lowerOf, Cond.instanceMethod yX6_lowerOf, Cond.selects RX6 yX6_lowerOf yX6_lowerOf, Cond.initialized RX6, Cond.code yX6_lowerOf cX6_lowerOf 6 (some .long), Cond.constantLong RX6 137 (12), Cond.fieldLink RX6 7 "TaughtTonguesModel" "weights" "[I", Cond.methodLink RX6 134 yX6_taken, Cond.instanceMethod yX6_taken, Cond.selects RX6 yX6_taken yX6_taken, Cond.code yX6_taken cX6_taken 7 (some .int), Cond.fieldLink RX6 65 "TaughtTonguesModel" "learnerIs" "I", Cond.methodLink RX6 128 yX6_hasAll, Cond.instanceMethod yX6_hasAll, Cond.selects RX6 yX6_hasAll yX6_hasAll, Cond.code yX6_hasAll cX6_hasAll 4 (some .boolean), Cond.methodLink RX6 104 yX6_hasForm, Cond.static yX6_hasForm, Cond.code yX6_hasForm cX6_hasForm 2 (some .boolean)]
def wsX6_findSteps_r2 : List Cond := [Cond.methodLink RX6 113 yX6_likenessOf, Cond.instanceMethod yX6_likenessOf, Cond.selects RX6 yX6_likenessOf yX6_likenessOf, Cond.code yX6_likenessOf cX6_likenessOf 5 (some .long), Cond.fieldLink RX6 44 "TaughtTonguesModel" "slipIs" "I", Cond.methodLink RX6 95 yX6_beforehand, Cond.instanceMethod yX6_beforehand, Cond.selects RX6 yX6_beforehand yX6_beforehand, Cond.code yX6_beforehand cX6_beforehand 6 (some .int), Cond.fieldLink RX6 89 "TaughtTonguesModel" "lines" "I", Cond.fieldLink RX6 16 "TaughtTonguesModel" "lineSigns" "[I", Cond.methodLink RX6 131 yX6_ones, Cond.static yX6_ones, Cond.code yX6_ones cX6_ones 1 (some .int), Cond.methodLink RX6 147 yX6_oddsOf, Cond.instanceMethod yX6_oddsOf, Cond.selects RX6 yX6_oddsOf yX6_oddsOf, Cond.code yX6_oddsOf cX6_oddsOf 3 (some .long)]
def wsX6_findSteps : List Cond := .code yX6_findSteps cX6_findSteps 11 none :: ((wsX6_findSteps_r1 ++ wsX6_findSteps_r2) ++ wsX60)
def wsX6_book_r1 : List Cond := [Cond.constantLong RX6 117 (-1000000000000000001), Cond.fieldLink RX6 48 "TaughtTonguesModel" "hearsIs" "I", Cond.constantLong RX6 122 (-1000000000000000002), Cond.fieldLink RX6 25 "TaughtTonguesModel" "steps" "[J", Cond.fieldLink RX6 143 "TaughtTonguesModel" "lower" "J", Cond.methodLink RX6 92 yX6_isTongue, Cond.static yX6_isTongue, Cond.initialized RX6, Cond.code yX6_isTongue cX6_isTongue 1 (some .boolean), Cond.constantLong RX6 57 (7), Cond.methodLink RX6 53 yX6_in, Cond.static yX6_in, Cond.code yX6_in cX6_in 6 (some .boolean), Cond.methodLink RX6 119 yX6_isPart, Cond.static yX6_isPart, Cond.code yX6_isPart cX6_isPart 1 (some .boolean), Cond.methodLink RX6 155 yX6_findSteps, Cond.instanceMethod yX6_findSteps, Cond.selects RX6 yX6_findSteps yX6_findSteps, Cond.code yX6_findSteps cX6_findSteps 11 none, Cond.fieldLink RX6 101 "TaughtTonguesModel" "rowMany" "I", Cond.fieldLink RX6 22 "TaughtTonguesModel" "row" "[I", Cond.methodLink RX6 139 yX6_lowerOf, Cond.instanceMethod yX6_lowerOf]
def wsX6_book_r2 : List Cond := [Cond.selects RX6 yX6_lowerOf yX6_lowerOf, Cond.code yX6_lowerOf cX6_lowerOf 6 (some .long), Cond.constantLong RX6 137 (12), Cond.fieldLink RX6 7 "TaughtTonguesModel" "weights" "[I", Cond.methodLink RX6 134 yX6_taken, Cond.instanceMethod yX6_taken, Cond.selects RX6 yX6_taken yX6_taken, Cond.code yX6_taken cX6_taken 7 (some .int), Cond.fieldLink RX6 65 "TaughtTonguesModel" "learnerIs" "I", Cond.methodLink RX6 128 yX6_hasAll, Cond.instanceMethod yX6_hasAll, Cond.selects RX6 yX6_hasAll yX6_hasAll, Cond.code yX6_hasAll cX6_hasAll 4 (some .boolean), Cond.methodLink RX6 104 yX6_hasForm, Cond.static yX6_hasForm, Cond.code yX6_hasForm cX6_hasForm 2 (some .boolean), Cond.methodLink RX6 113 yX6_likenessOf, Cond.instanceMethod yX6_likenessOf, Cond.selects RX6 yX6_likenessOf yX6_likenessOf, Cond.code yX6_likenessOf cX6_likenessOf 5 (some .long), Cond.fieldLink RX6 44 "TaughtTonguesModel" "slipIs" "I", Cond.methodLink RX6 95 yX6_beforehand, Cond.instanceMethod yX6_beforehand, Cond.selects RX6 yX6_beforehand yX6_beforehand]
def wsX6_book_r3 : List Cond := [Cond.code yX6_beforehand cX6_beforehand 6 (some .int), Cond.fieldLink RX6 89 "TaughtTonguesModel" "lines" "I", Cond.fieldLink RX6 16 "TaughtTonguesModel" "lineSigns" "[I", Cond.methodLink RX6 131 yX6_ones, Cond.static yX6_ones, Cond.code yX6_ones cX6_ones 1 (some .int), Cond.methodLink RX6 147 yX6_oddsOf, Cond.instanceMethod yX6_oddsOf, Cond.selects RX6 yX6_oddsOf yX6_oddsOf, Cond.code yX6_oddsOf cX6_oddsOf 3 (some .long), Cond.methodLink RX6 124 yX6_lowest, Cond.static yX6_lowest, Cond.code yX6_lowest cX6_lowest 11 (some .long)]
def wsX6_book : List Cond := .code yX6_book cX6_book 6 (some .long) :: ((wsX6_book_r1 ++ (wsX6_book_r2 ++ wsX6_book_r3)) ++ wsX60)
def wsX6_step_r1 : List Cond := [Cond.methodLink RX6 151 yX6_book, Cond.instanceMethod yX6_book, Cond.selects RX6 yX6_book yX6_book, Cond.initialized RX6, Cond.code yX6_book cX6_book 6 (some .long), Cond.constantLong RX6 117 (-1000000000000000001), Cond.fieldLink RX6 48 "TaughtTonguesModel" "hearsIs" "I", Cond.constantLong RX6 122 (-1000000000000000002), Cond.fieldLink RX6 25 "TaughtTonguesModel" "steps" "[J", Cond.fieldLink RX6 143 "TaughtTonguesModel" "lower" "J", Cond.methodLink RX6 92 yX6_isTongue, Cond.static yX6_isTongue, Cond.code yX6_isTongue cX6_isTongue 1 (some .boolean), Cond.constantLong RX6 57 (7), Cond.methodLink RX6 53 yX6_in, Cond.static yX6_in, Cond.code yX6_in cX6_in 6 (some .boolean), Cond.methodLink RX6 119 yX6_isPart, Cond.static yX6_isPart, Cond.code yX6_isPart cX6_isPart 1 (some .boolean), Cond.methodLink RX6 155 yX6_findSteps, Cond.instanceMethod yX6_findSteps, Cond.selects RX6 yX6_findSteps yX6_findSteps, Cond.code yX6_findSteps cX6_findSteps 11 none]
def wsX6_step_r2 : List Cond := [Cond.fieldLink RX6 101 "TaughtTonguesModel" "rowMany" "I", Cond.fieldLink RX6 22 "TaughtTonguesModel" "row" "[I", Cond.methodLink RX6 139 yX6_lowerOf, Cond.instanceMethod yX6_lowerOf, Cond.selects RX6 yX6_lowerOf yX6_lowerOf, Cond.code yX6_lowerOf cX6_lowerOf 6 (some .long), Cond.constantLong RX6 137 (12), Cond.fieldLink RX6 7 "TaughtTonguesModel" "weights" "[I", Cond.methodLink RX6 134 yX6_taken, Cond.instanceMethod yX6_taken, Cond.selects RX6 yX6_taken yX6_taken, Cond.code yX6_taken cX6_taken 7 (some .int), Cond.fieldLink RX6 65 "TaughtTonguesModel" "learnerIs" "I", Cond.methodLink RX6 128 yX6_hasAll, Cond.instanceMethod yX6_hasAll, Cond.selects RX6 yX6_hasAll yX6_hasAll, Cond.code yX6_hasAll cX6_hasAll 4 (some .boolean), Cond.methodLink RX6 104 yX6_hasForm, Cond.static yX6_hasForm, Cond.code yX6_hasForm cX6_hasForm 2 (some .boolean), Cond.methodLink RX6 113 yX6_likenessOf, Cond.instanceMethod yX6_likenessOf, Cond.selects RX6 yX6_likenessOf yX6_likenessOf, Cond.code yX6_likenessOf cX6_likenessOf 5 (some .long)]
def wsX6_step_r3 : List Cond := [Cond.fieldLink RX6 44 "TaughtTonguesModel" "slipIs" "I", Cond.methodLink RX6 95 yX6_beforehand, Cond.instanceMethod yX6_beforehand, Cond.selects RX6 yX6_beforehand yX6_beforehand, Cond.code yX6_beforehand cX6_beforehand 6 (some .int), Cond.fieldLink RX6 89 "TaughtTonguesModel" "lines" "I", Cond.fieldLink RX6 16 "TaughtTonguesModel" "lineSigns" "[I", Cond.methodLink RX6 131 yX6_ones, Cond.static yX6_ones, Cond.code yX6_ones cX6_ones 1 (some .int), Cond.methodLink RX6 147 yX6_oddsOf, Cond.instanceMethod yX6_oddsOf, Cond.selects RX6 yX6_oddsOf yX6_oddsOf, Cond.code yX6_oddsOf cX6_oddsOf 3 (some .long), Cond.methodLink RX6 124 yX6_lowest, Cond.static yX6_lowest, Cond.code yX6_lowest cX6_lowest 11 (some .long)]
def wsX6_step : List Cond := .code yX6_step cX6_step 4 (some .long) :: ((wsX6_step_r1 ++ (wsX6_step_r2 ++ wsX6_step_r3)) ++ wsX60)
def wsX6_live : List Cond := .code yX6_live cX6_live 6 none :: ([.fieldLink RX6 159 "TaughtTonguesModel" "lowerNow" "J", .fieldLink RX6 29 "TaughtTonguesModel" "now" "[J", .fieldLink RX6 32 "TaughtTonguesModel" "then" "[J", .fieldLink RX6 25 "TaughtTonguesModel" "steps" "[J", .fieldLink RX6 143 "TaughtTonguesModel" "lower" "J"] ++ wsX60)
def wsX6_isLives : List Cond := .code yX6_isLives cX6_isLives 1 (some .boolean) :: ([.constantLong RX6 63 (4), .methodLink RX6 53 yX6_in, .static yX6_in, .initialized RX6, .code yX6_in cX6_in 6 (some .boolean)])
def wsX6_after_r1 : List Cond := [Cond.constantLong RX6 117 (-1000000000000000001), Cond.constantLong RX6 122 (-1000000000000000002), Cond.fieldLink RX6 48 "TaughtTonguesModel" "hearsIs" "I", Cond.constantLong RX6 165 (-1000000000000000003), Cond.fieldLink RX6 29 "TaughtTonguesModel" "now" "[J", Cond.fieldLink RX6 159 "TaughtTonguesModel" "lowerNow" "J", Cond.methodLink RX6 92 yX6_isTongue, Cond.static yX6_isTongue, Cond.initialized RX6, Cond.code yX6_isTongue cX6_isTongue 1 (some .boolean), Cond.constantLong RX6 57 (7), Cond.methodLink RX6 53 yX6_in, Cond.static yX6_in, Cond.code yX6_in cX6_in 6 (some .boolean), Cond.methodLink RX6 162 yX6_isLives, Cond.static yX6_isLives, Cond.code yX6_isLives cX6_isLives 1 (some .boolean), Cond.constantLong RX6 63 (4), Cond.methodLink RX6 119 yX6_isPart, Cond.static yX6_isPart, Cond.code yX6_isPart cX6_isPart 1 (some .boolean), Cond.methodLink RX6 155 yX6_findSteps, Cond.instanceMethod yX6_findSteps, Cond.selects RX6 yX6_findSteps yX6_findSteps]
def wsX6_after_r2 : List Cond := [Cond.code yX6_findSteps cX6_findSteps 11 none, Cond.fieldLink RX6 143 "TaughtTonguesModel" "lower" "J", Cond.fieldLink RX6 25 "TaughtTonguesModel" "steps" "[J", Cond.fieldLink RX6 101 "TaughtTonguesModel" "rowMany" "I", Cond.fieldLink RX6 22 "TaughtTonguesModel" "row" "[I", Cond.methodLink RX6 139 yX6_lowerOf, Cond.instanceMethod yX6_lowerOf, Cond.selects RX6 yX6_lowerOf yX6_lowerOf, Cond.code yX6_lowerOf cX6_lowerOf 6 (some .long), Cond.constantLong RX6 137 (12), Cond.fieldLink RX6 7 "TaughtTonguesModel" "weights" "[I", Cond.methodLink RX6 134 yX6_taken, Cond.instanceMethod yX6_taken, Cond.selects RX6 yX6_taken yX6_taken, Cond.code yX6_taken cX6_taken 7 (some .int), Cond.fieldLink RX6 65 "TaughtTonguesModel" "learnerIs" "I", Cond.methodLink RX6 128 yX6_hasAll, Cond.instanceMethod yX6_hasAll, Cond.selects RX6 yX6_hasAll yX6_hasAll, Cond.code yX6_hasAll cX6_hasAll 4 (some .boolean), Cond.methodLink RX6 104 yX6_hasForm, Cond.static yX6_hasForm, Cond.code yX6_hasForm cX6_hasForm 2 (some .boolean), Cond.methodLink RX6 113 yX6_likenessOf]
def wsX6_after_r3 : List Cond := [Cond.instanceMethod yX6_likenessOf, Cond.selects RX6 yX6_likenessOf yX6_likenessOf, Cond.code yX6_likenessOf cX6_likenessOf 5 (some .long), Cond.fieldLink RX6 44 "TaughtTonguesModel" "slipIs" "I", Cond.methodLink RX6 95 yX6_beforehand, Cond.instanceMethod yX6_beforehand, Cond.selects RX6 yX6_beforehand yX6_beforehand, Cond.code yX6_beforehand cX6_beforehand 6 (some .int), Cond.fieldLink RX6 89 "TaughtTonguesModel" "lines" "I", Cond.fieldLink RX6 16 "TaughtTonguesModel" "lineSigns" "[I", Cond.methodLink RX6 131 yX6_ones, Cond.static yX6_ones, Cond.code yX6_ones cX6_ones 1 (some .int), Cond.methodLink RX6 147 yX6_oddsOf, Cond.instanceMethod yX6_oddsOf, Cond.selects RX6 yX6_oddsOf yX6_oddsOf, Cond.code yX6_oddsOf cX6_oddsOf 3 (some .long), Cond.methodLink RX6 167 yX6_live, Cond.instanceMethod yX6_live, Cond.selects RX6 yX6_live yX6_live, Cond.code yX6_live cX6_live 6 none, Cond.fieldLink RX6 32 "TaughtTonguesModel" "then" "[J", Cond.methodLink RX6 124 yX6_lowest, Cond.static yX6_lowest]
def wsX6_after_r4 : List Cond := [Cond.code yX6_lowest cX6_lowest 11 (some .long)]
def wsX6_after : List Cond := .code yX6_after cX6_after 5 (some .long) :: ((wsX6_after_r1 ++ (wsX6_after_r2 ++ (wsX6_after_r3 ++ wsX6_after_r4))) ++ wsX60)
def wsX6_findLeads_r1 : List Cond := [Cond.fieldLink RX6 35 "TaughtTonguesModel" "led" "[I", Cond.fieldLink RX6 25 "TaughtTonguesModel" "steps" "[J", Cond.methodLink RX6 155 yX6_findSteps, Cond.instanceMethod yX6_findSteps, Cond.selects RX6 yX6_findSteps yX6_findSteps, Cond.initialized RX6, Cond.code yX6_findSteps cX6_findSteps 11 none, Cond.fieldLink RX6 143 "TaughtTonguesModel" "lower" "J", Cond.fieldLink RX6 48 "TaughtTonguesModel" "hearsIs" "I", Cond.fieldLink RX6 101 "TaughtTonguesModel" "rowMany" "I", Cond.fieldLink RX6 22 "TaughtTonguesModel" "row" "[I", Cond.methodLink RX6 139 yX6_lowerOf, Cond.instanceMethod yX6_lowerOf, Cond.selects RX6 yX6_lowerOf yX6_lowerOf, Cond.code yX6_lowerOf cX6_lowerOf 6 (some .long), Cond.constantLong RX6 137 (12), Cond.fieldLink RX6 7 "TaughtTonguesModel" "weights" "[I", Cond.methodLink RX6 134 yX6_taken, Cond.instanceMethod yX6_taken, Cond.selects RX6 yX6_taken yX6_taken, Cond.code yX6_taken cX6_taken 7 (some .int), Cond.fieldLink RX6 65 "TaughtTonguesModel" "learnerIs" "I", Cond.methodLink RX6 128 yX6_hasAll, Cond.instanceMethod yX6_hasAll]
def wsX6_findLeads_r2 : List Cond := [Cond.selects RX6 yX6_hasAll yX6_hasAll, Cond.code yX6_hasAll cX6_hasAll 4 (some .boolean), Cond.methodLink RX6 104 yX6_hasForm, Cond.static yX6_hasForm, Cond.code yX6_hasForm cX6_hasForm 2 (some .boolean), Cond.methodLink RX6 113 yX6_likenessOf, Cond.instanceMethod yX6_likenessOf, Cond.selects RX6 yX6_likenessOf yX6_likenessOf, Cond.code yX6_likenessOf cX6_likenessOf 5 (some .long), Cond.fieldLink RX6 44 "TaughtTonguesModel" "slipIs" "I", Cond.methodLink RX6 95 yX6_beforehand, Cond.instanceMethod yX6_beforehand, Cond.selects RX6 yX6_beforehand yX6_beforehand, Cond.code yX6_beforehand cX6_beforehand 6 (some .int), Cond.fieldLink RX6 89 "TaughtTonguesModel" "lines" "I", Cond.fieldLink RX6 16 "TaughtTonguesModel" "lineSigns" "[I", Cond.methodLink RX6 131 yX6_ones, Cond.static yX6_ones, Cond.code yX6_ones cX6_ones 1 (some .int), Cond.methodLink RX6 147 yX6_oddsOf, Cond.instanceMethod yX6_oddsOf, Cond.selects RX6 yX6_oddsOf yX6_oddsOf, Cond.code yX6_oddsOf cX6_oddsOf 3 (some .long)]
def wsX6_findLeads : List Cond := .code yX6_findLeads cX6_findLeads 3 none :: ((wsX6_findLeads_r1 ++ wsX6_findLeads_r2) ++ wsX60)
def wsX6_leads_r1 : List Cond := [Cond.fieldLink RX6 35 "TaughtTonguesModel" "led" "[I", Cond.methodLink RX6 92 yX6_isTongue, Cond.static yX6_isTongue, Cond.initialized RX6, Cond.code yX6_isTongue cX6_isTongue 1 (some .boolean), Cond.constantLong RX6 57 (7), Cond.methodLink RX6 53 yX6_in, Cond.static yX6_in, Cond.code yX6_in cX6_in 6 (some .boolean), Cond.methodLink RX6 170 yX6_findLeads, Cond.instanceMethod yX6_findLeads, Cond.selects RX6 yX6_findLeads yX6_findLeads, Cond.code yX6_findLeads cX6_findLeads 3 none, Cond.fieldLink RX6 25 "TaughtTonguesModel" "steps" "[J", Cond.methodLink RX6 155 yX6_findSteps, Cond.instanceMethod yX6_findSteps, Cond.selects RX6 yX6_findSteps yX6_findSteps, Cond.code yX6_findSteps cX6_findSteps 11 none, Cond.fieldLink RX6 143 "TaughtTonguesModel" "lower" "J", Cond.fieldLink RX6 48 "TaughtTonguesModel" "hearsIs" "I", Cond.fieldLink RX6 101 "TaughtTonguesModel" "rowMany" "I", Cond.fieldLink RX6 22 "TaughtTonguesModel" "row" "[I", Cond.methodLink RX6 139 yX6_lowerOf, Cond.instanceMethod yX6_lowerOf]
def wsX6_leads_r2 : List Cond := [Cond.selects RX6 yX6_lowerOf yX6_lowerOf, Cond.code yX6_lowerOf cX6_lowerOf 6 (some .long), Cond.constantLong RX6 137 (12), Cond.fieldLink RX6 7 "TaughtTonguesModel" "weights" "[I", Cond.methodLink RX6 134 yX6_taken, Cond.instanceMethod yX6_taken, Cond.selects RX6 yX6_taken yX6_taken, Cond.code yX6_taken cX6_taken 7 (some .int), Cond.fieldLink RX6 65 "TaughtTonguesModel" "learnerIs" "I", Cond.methodLink RX6 128 yX6_hasAll, Cond.instanceMethod yX6_hasAll, Cond.selects RX6 yX6_hasAll yX6_hasAll, Cond.code yX6_hasAll cX6_hasAll 4 (some .boolean), Cond.methodLink RX6 104 yX6_hasForm, Cond.static yX6_hasForm, Cond.code yX6_hasForm cX6_hasForm 2 (some .boolean), Cond.methodLink RX6 113 yX6_likenessOf, Cond.instanceMethod yX6_likenessOf, Cond.selects RX6 yX6_likenessOf yX6_likenessOf, Cond.code yX6_likenessOf cX6_likenessOf 5 (some .long), Cond.fieldLink RX6 44 "TaughtTonguesModel" "slipIs" "I", Cond.methodLink RX6 95 yX6_beforehand, Cond.instanceMethod yX6_beforehand, Cond.selects RX6 yX6_beforehand yX6_beforehand]
def wsX6_leads_r3 : List Cond := [Cond.code yX6_beforehand cX6_beforehand 6 (some .int), Cond.fieldLink RX6 89 "TaughtTonguesModel" "lines" "I", Cond.fieldLink RX6 16 "TaughtTonguesModel" "lineSigns" "[I", Cond.methodLink RX6 131 yX6_ones, Cond.static yX6_ones, Cond.code yX6_ones cX6_ones 1 (some .int), Cond.methodLink RX6 147 yX6_oddsOf, Cond.instanceMethod yX6_oddsOf, Cond.selects RX6 yX6_oddsOf yX6_oddsOf, Cond.code yX6_oddsOf cX6_oddsOf 3 (some .long)]
def wsX6_leads : List Cond := .code yX6_leads cX6_leads 2 (some .int) :: ((wsX6_leads_r1 ++ (wsX6_leads_r2 ++ wsX6_leads_r3)) ++ wsX60)
def wsX6_doesLast : List Cond := .code yX6_doesLast cX6_doesLast 4 (some .boolean) :: ([.fieldLink RX6 35 "TaughtTonguesModel" "led" "[I"] ++ wsX60)
def wsX6_lasts_r1 : List Cond := [Cond.constantLong RX6 51 (2), Cond.fieldLink RX6 35 "TaughtTonguesModel" "led" "[I", Cond.fieldLink RX6 25 "TaughtTonguesModel" "steps" "[J", Cond.fieldLink RX6 143 "TaughtTonguesModel" "lower" "J", Cond.methodLink RX6 53 yX6_in, Cond.static yX6_in, Cond.initialized RX6, Cond.code yX6_in cX6_in 6 (some .boolean), Cond.methodLink RX6 170 yX6_findLeads, Cond.instanceMethod yX6_findLeads, Cond.selects RX6 yX6_findLeads yX6_findLeads, Cond.code yX6_findLeads cX6_findLeads 3 none, Cond.methodLink RX6 155 yX6_findSteps, Cond.instanceMethod yX6_findSteps, Cond.selects RX6 yX6_findSteps yX6_findSteps, Cond.code yX6_findSteps cX6_findSteps 11 none, Cond.fieldLink RX6 48 "TaughtTonguesModel" "hearsIs" "I", Cond.fieldLink RX6 101 "TaughtTonguesModel" "rowMany" "I", Cond.fieldLink RX6 22 "TaughtTonguesModel" "row" "[I", Cond.methodLink RX6 139 yX6_lowerOf, Cond.instanceMethod yX6_lowerOf, Cond.selects RX6 yX6_lowerOf yX6_lowerOf, Cond.code yX6_lowerOf cX6_lowerOf 6 (some .long), Cond.constantLong RX6 137 (12)]
def wsX6_lasts_r2 : List Cond := [Cond.fieldLink RX6 7 "TaughtTonguesModel" "weights" "[I", Cond.methodLink RX6 134 yX6_taken, Cond.instanceMethod yX6_taken, Cond.selects RX6 yX6_taken yX6_taken, Cond.code yX6_taken cX6_taken 7 (some .int), Cond.fieldLink RX6 65 "TaughtTonguesModel" "learnerIs" "I", Cond.methodLink RX6 128 yX6_hasAll, Cond.instanceMethod yX6_hasAll, Cond.selects RX6 yX6_hasAll yX6_hasAll, Cond.code yX6_hasAll cX6_hasAll 4 (some .boolean), Cond.methodLink RX6 104 yX6_hasForm, Cond.static yX6_hasForm, Cond.code yX6_hasForm cX6_hasForm 2 (some .boolean), Cond.methodLink RX6 113 yX6_likenessOf, Cond.instanceMethod yX6_likenessOf, Cond.selects RX6 yX6_likenessOf yX6_likenessOf, Cond.code yX6_likenessOf cX6_likenessOf 5 (some .long), Cond.fieldLink RX6 44 "TaughtTonguesModel" "slipIs" "I", Cond.methodLink RX6 95 yX6_beforehand, Cond.instanceMethod yX6_beforehand, Cond.selects RX6 yX6_beforehand yX6_beforehand, Cond.code yX6_beforehand cX6_beforehand 6 (some .int), Cond.fieldLink RX6 89 "TaughtTonguesModel" "lines" "I", Cond.fieldLink RX6 16 "TaughtTonguesModel" "lineSigns" "[I"]
def wsX6_lasts_r3 : List Cond := [Cond.methodLink RX6 131 yX6_ones, Cond.static yX6_ones, Cond.code yX6_ones cX6_ones 1 (some .int), Cond.methodLink RX6 147 yX6_oddsOf, Cond.instanceMethod yX6_oddsOf, Cond.selects RX6 yX6_oddsOf yX6_oddsOf, Cond.code yX6_oddsOf cX6_oddsOf 3 (some .long), Cond.methodLink RX6 173 yX6_doesLast, Cond.instanceMethod yX6_doesLast, Cond.selects RX6 yX6_doesLast yX6_doesLast, Cond.code yX6_doesLast cX6_doesLast 4 (some .boolean)]
def wsX6_lasts : List Cond := .code yX6_lasts cX6_lasts 7 (some .int) :: ((wsX6_lasts_r1 ++ (wsX6_lasts_r2 ++ wsX6_lasts_r3)) ++ wsX60)
def wsX6_lives_r1 : List Cond := [Cond.constantLong RX6 117 (-1000000000000000001), Cond.constantLong RX6 122 (-1000000000000000002), Cond.fieldLink RX6 48 "TaughtTonguesModel" "hearsIs" "I", Cond.constantLong RX6 165 (-1000000000000000003), Cond.fieldLink RX6 29 "TaughtTonguesModel" "now" "[J", Cond.fieldLink RX6 159 "TaughtTonguesModel" "lowerNow" "J", Cond.methodLink RX6 92 yX6_isTongue, Cond.static yX6_isTongue, Cond.initialized RX6, Cond.code yX6_isTongue cX6_isTongue 1 (some .boolean), Cond.constantLong RX6 57 (7), Cond.methodLink RX6 53 yX6_in, Cond.static yX6_in, Cond.code yX6_in cX6_in 6 (some .boolean), Cond.methodLink RX6 59 yX6_isMeaning, Cond.static yX6_isMeaning, Cond.code yX6_isMeaning cX6_isMeaning 1 (some .boolean), Cond.constantLong RX6 51 (2), Cond.methodLink RX6 162 yX6_isLives, Cond.static yX6_isLives, Cond.code yX6_isLives cX6_isLives 1 (some .boolean), Cond.constantLong RX6 63 (4), Cond.methodLink RX6 119 yX6_isPart, Cond.static yX6_isPart]
def wsX6_lives_r2 : List Cond := [Cond.code yX6_isPart cX6_isPart 1 (some .boolean), Cond.methodLink RX6 155 yX6_findSteps, Cond.instanceMethod yX6_findSteps, Cond.selects RX6 yX6_findSteps yX6_findSteps, Cond.code yX6_findSteps cX6_findSteps 11 none, Cond.fieldLink RX6 143 "TaughtTonguesModel" "lower" "J", Cond.fieldLink RX6 25 "TaughtTonguesModel" "steps" "[J", Cond.fieldLink RX6 101 "TaughtTonguesModel" "rowMany" "I", Cond.fieldLink RX6 22 "TaughtTonguesModel" "row" "[I", Cond.methodLink RX6 139 yX6_lowerOf, Cond.instanceMethod yX6_lowerOf, Cond.selects RX6 yX6_lowerOf yX6_lowerOf, Cond.code yX6_lowerOf cX6_lowerOf 6 (some .long), Cond.constantLong RX6 137 (12), Cond.fieldLink RX6 7 "TaughtTonguesModel" "weights" "[I", Cond.methodLink RX6 134 yX6_taken, Cond.instanceMethod yX6_taken, Cond.selects RX6 yX6_taken yX6_taken, Cond.code yX6_taken cX6_taken 7 (some .int), Cond.fieldLink RX6 65 "TaughtTonguesModel" "learnerIs" "I", Cond.methodLink RX6 128 yX6_hasAll, Cond.instanceMethod yX6_hasAll, Cond.selects RX6 yX6_hasAll yX6_hasAll, Cond.code yX6_hasAll cX6_hasAll 4 (some .boolean)]
def wsX6_lives_r3 : List Cond := [Cond.methodLink RX6 104 yX6_hasForm, Cond.static yX6_hasForm, Cond.code yX6_hasForm cX6_hasForm 2 (some .boolean), Cond.methodLink RX6 113 yX6_likenessOf, Cond.instanceMethod yX6_likenessOf, Cond.selects RX6 yX6_likenessOf yX6_likenessOf, Cond.code yX6_likenessOf cX6_likenessOf 5 (some .long), Cond.fieldLink RX6 44 "TaughtTonguesModel" "slipIs" "I", Cond.methodLink RX6 95 yX6_beforehand, Cond.instanceMethod yX6_beforehand, Cond.selects RX6 yX6_beforehand yX6_beforehand, Cond.code yX6_beforehand cX6_beforehand 6 (some .int), Cond.fieldLink RX6 89 "TaughtTonguesModel" "lines" "I", Cond.fieldLink RX6 16 "TaughtTonguesModel" "lineSigns" "[I", Cond.methodLink RX6 131 yX6_ones, Cond.static yX6_ones, Cond.code yX6_ones cX6_ones 1 (some .int), Cond.methodLink RX6 147 yX6_oddsOf, Cond.instanceMethod yX6_oddsOf, Cond.selects RX6 yX6_oddsOf yX6_oddsOf, Cond.code yX6_oddsOf cX6_oddsOf 3 (some .long), Cond.methodLink RX6 167 yX6_live, Cond.instanceMethod yX6_live, Cond.selects RX6 yX6_live yX6_live]
def wsX6_lives_r4 : List Cond := [Cond.code yX6_live cX6_live 6 none, Cond.fieldLink RX6 32 "TaughtTonguesModel" "then" "[J", Cond.methodLink RX6 124 yX6_lowest, Cond.static yX6_lowest, Cond.code yX6_lowest cX6_lowest 11 (some .long)]
def wsX6_lives : List Cond := .code yX6_lives cX6_lives 9 (some .long) :: ((wsX6_lives_r1 ++ (wsX6_lives_r2 ++ (wsX6_lives_r3 ++ wsX6_lives_r4))) ++ wsX60)
def wsX6_often_r1 : List Cond := [Cond.constantLong RX6 137 (12), Cond.fieldLink RX6 7 "TaughtTonguesModel" "weights" "[I", Cond.fieldLink RX6 25 "TaughtTonguesModel" "steps" "[J", Cond.fieldLink RX6 143 "TaughtTonguesModel" "lower" "J", Cond.methodLink RX6 92 yX6_isTongue, Cond.static yX6_isTongue, Cond.initialized RX6, Cond.code yX6_isTongue cX6_isTongue 1 (some .boolean), Cond.constantLong RX6 57 (7), Cond.methodLink RX6 53 yX6_in, Cond.static yX6_in, Cond.code yX6_in cX6_in 6 (some .boolean), Cond.methodLink RX6 59 yX6_isMeaning, Cond.static yX6_isMeaning, Cond.code yX6_isMeaning cX6_isMeaning 1 (some .boolean), Cond.constantLong RX6 51 (2), Cond.methodLink RX6 155 yX6_findSteps, Cond.instanceMethod yX6_findSteps, Cond.selects RX6 yX6_findSteps yX6_findSteps, Cond.code yX6_findSteps cX6_findSteps 11 none, Cond.fieldLink RX6 48 "TaughtTonguesModel" "hearsIs" "I", Cond.fieldLink RX6 101 "TaughtTonguesModel" "rowMany" "I", Cond.fieldLink RX6 22 "TaughtTonguesModel" "row" "[I", Cond.methodLink RX6 139 yX6_lowerOf]
def wsX6_often_r2 : List Cond := [Cond.instanceMethod yX6_lowerOf, Cond.selects RX6 yX6_lowerOf yX6_lowerOf, Cond.code yX6_lowerOf cX6_lowerOf 6 (some .long), Cond.methodLink RX6 134 yX6_taken, Cond.instanceMethod yX6_taken, Cond.selects RX6 yX6_taken yX6_taken, Cond.code yX6_taken cX6_taken 7 (some .int), Cond.fieldLink RX6 65 "TaughtTonguesModel" "learnerIs" "I", Cond.methodLink RX6 128 yX6_hasAll, Cond.instanceMethod yX6_hasAll, Cond.selects RX6 yX6_hasAll yX6_hasAll, Cond.code yX6_hasAll cX6_hasAll 4 (some .boolean), Cond.methodLink RX6 104 yX6_hasForm, Cond.static yX6_hasForm, Cond.code yX6_hasForm cX6_hasForm 2 (some .boolean), Cond.methodLink RX6 113 yX6_likenessOf, Cond.instanceMethod yX6_likenessOf, Cond.selects RX6 yX6_likenessOf yX6_likenessOf, Cond.code yX6_likenessOf cX6_likenessOf 5 (some .long), Cond.fieldLink RX6 44 "TaughtTonguesModel" "slipIs" "I", Cond.methodLink RX6 95 yX6_beforehand, Cond.instanceMethod yX6_beforehand, Cond.selects RX6 yX6_beforehand yX6_beforehand, Cond.code yX6_beforehand cX6_beforehand 6 (some .int)]
def wsX6_often_r3 : List Cond := [Cond.fieldLink RX6 89 "TaughtTonguesModel" "lines" "I", Cond.fieldLink RX6 16 "TaughtTonguesModel" "lineSigns" "[I", Cond.methodLink RX6 131 yX6_ones, Cond.static yX6_ones, Cond.code yX6_ones cX6_ones 1 (some .int), Cond.methodLink RX6 147 yX6_oddsOf, Cond.instanceMethod yX6_oddsOf, Cond.selects RX6 yX6_oddsOf yX6_oddsOf, Cond.code yX6_oddsOf cX6_oddsOf 3 (some .long)]
def wsX6_often : List Cond := .code yX6_often cX6_often 10 (some .int) :: ((wsX6_often_r1 ++ (wsX6_often_r2 ++ wsX6_often_r3)) ++ wsX60)
def wsX6_choose_r1 : List Cond := [Cond.fieldLink RX6 38 "TaughtTonguesModel" "picked" "[I", Cond.fieldLink RX6 101 "TaughtTonguesModel" "rowMany" "I", Cond.fieldLink RX6 22 "TaughtTonguesModel" "row" "[I", Cond.methodLink RX6 134 yX6_taken, Cond.instanceMethod yX6_taken, Cond.selects RX6 yX6_taken yX6_taken, Cond.initialized RX6, Cond.code yX6_taken cX6_taken 7 (some .int), Cond.fieldLink RX6 65 "TaughtTonguesModel" "learnerIs" "I", Cond.methodLink RX6 128 yX6_hasAll, Cond.instanceMethod yX6_hasAll, Cond.selects RX6 yX6_hasAll yX6_hasAll, Cond.code yX6_hasAll cX6_hasAll 4 (some .boolean), Cond.methodLink RX6 104 yX6_hasForm, Cond.static yX6_hasForm, Cond.code yX6_hasForm cX6_hasForm 2 (some .boolean), Cond.methodLink RX6 113 yX6_likenessOf, Cond.instanceMethod yX6_likenessOf, Cond.selects RX6 yX6_likenessOf yX6_likenessOf, Cond.code yX6_likenessOf cX6_likenessOf 5 (some .long), Cond.fieldLink RX6 44 "TaughtTonguesModel" "slipIs" "I", Cond.methodLink RX6 95 yX6_beforehand, Cond.instanceMethod yX6_beforehand, Cond.selects RX6 yX6_beforehand yX6_beforehand]
def wsX6_choose_r2 : List Cond := [Cond.code yX6_beforehand cX6_beforehand 6 (some .int), Cond.fieldLink RX6 89 "TaughtTonguesModel" "lines" "I", Cond.fieldLink RX6 16 "TaughtTonguesModel" "lineSigns" "[I", Cond.methodLink RX6 131 yX6_ones, Cond.static yX6_ones, Cond.code yX6_ones cX6_ones 1 (some .int)]
def wsX6_choose : List Cond := .code yX6_choose cX6_choose 7 (some .boolean) :: ((wsX6_choose_r1 ++ wsX6_choose_r2) ++ wsX60)
def wsX6_chosen_r1 : List Cond := [Cond.fieldLink RX6 38 "TaughtTonguesModel" "picked" "[I", Cond.methodLink RX6 92 yX6_isTongue, Cond.static yX6_isTongue, Cond.initialized RX6, Cond.code yX6_isTongue cX6_isTongue 1 (some .boolean), Cond.constantLong RX6 57 (7), Cond.methodLink RX6 53 yX6_in, Cond.static yX6_in, Cond.code yX6_in cX6_in 6 (some .boolean), Cond.methodLink RX6 176 yX6_choose, Cond.instanceMethod yX6_choose, Cond.selects RX6 yX6_choose yX6_choose, Cond.code yX6_choose cX6_choose 7 (some .boolean), Cond.fieldLink RX6 101 "TaughtTonguesModel" "rowMany" "I", Cond.fieldLink RX6 22 "TaughtTonguesModel" "row" "[I", Cond.methodLink RX6 134 yX6_taken, Cond.instanceMethod yX6_taken, Cond.selects RX6 yX6_taken yX6_taken, Cond.code yX6_taken cX6_taken 7 (some .int), Cond.fieldLink RX6 65 "TaughtTonguesModel" "learnerIs" "I", Cond.methodLink RX6 128 yX6_hasAll, Cond.instanceMethod yX6_hasAll, Cond.selects RX6 yX6_hasAll yX6_hasAll, Cond.code yX6_hasAll cX6_hasAll 4 (some .boolean)]
def wsX6_chosen_r2 : List Cond := [Cond.methodLink RX6 104 yX6_hasForm, Cond.static yX6_hasForm, Cond.code yX6_hasForm cX6_hasForm 2 (some .boolean), Cond.methodLink RX6 113 yX6_likenessOf, Cond.instanceMethod yX6_likenessOf, Cond.selects RX6 yX6_likenessOf yX6_likenessOf, Cond.code yX6_likenessOf cX6_likenessOf 5 (some .long), Cond.fieldLink RX6 44 "TaughtTonguesModel" "slipIs" "I", Cond.methodLink RX6 95 yX6_beforehand, Cond.instanceMethod yX6_beforehand, Cond.selects RX6 yX6_beforehand yX6_beforehand, Cond.code yX6_beforehand cX6_beforehand 6 (some .int), Cond.fieldLink RX6 89 "TaughtTonguesModel" "lines" "I", Cond.fieldLink RX6 16 "TaughtTonguesModel" "lineSigns" "[I", Cond.methodLink RX6 131 yX6_ones, Cond.static yX6_ones, Cond.code yX6_ones cX6_ones 1 (some .int)]
def wsX6_chosen : List Cond := .code yX6_chosen cX6_chosen 4 (some .int) :: ((wsX6_chosen_r1 ++ wsX6_chosen_r2) ++ wsX60)
def wsX6_findCame_r1 : List Cond := [Cond.fieldLink RX6 41 "TaughtTonguesModel" "came" "[J", Cond.fieldLink RX6 29 "TaughtTonguesModel" "now" "[J", Cond.methodLink RX6 155 yX6_findSteps, Cond.instanceMethod yX6_findSteps, Cond.selects RX6 yX6_findSteps yX6_findSteps, Cond.initialized RX6, Cond.code yX6_findSteps cX6_findSteps 11 none, Cond.fieldLink RX6 143 "TaughtTonguesModel" "lower" "J", Cond.fieldLink RX6 25 "TaughtTonguesModel" "steps" "[J", Cond.fieldLink RX6 48 "TaughtTonguesModel" "hearsIs" "I", Cond.fieldLink RX6 101 "TaughtTonguesModel" "rowMany" "I", Cond.fieldLink RX6 22 "TaughtTonguesModel" "row" "[I", Cond.methodLink RX6 139 yX6_lowerOf, Cond.instanceMethod yX6_lowerOf, Cond.selects RX6 yX6_lowerOf yX6_lowerOf, Cond.code yX6_lowerOf cX6_lowerOf 6 (some .long), Cond.constantLong RX6 137 (12), Cond.fieldLink RX6 7 "TaughtTonguesModel" "weights" "[I", Cond.methodLink RX6 134 yX6_taken, Cond.instanceMethod yX6_taken, Cond.selects RX6 yX6_taken yX6_taken, Cond.code yX6_taken cX6_taken 7 (some .int), Cond.fieldLink RX6 65 "TaughtTonguesModel" "learnerIs" "I", Cond.methodLink RX6 128 yX6_hasAll]
def wsX6_findCame_r2 : List Cond := [Cond.instanceMethod yX6_hasAll, Cond.selects RX6 yX6_hasAll yX6_hasAll, Cond.code yX6_hasAll cX6_hasAll 4 (some .boolean), Cond.methodLink RX6 104 yX6_hasForm, Cond.static yX6_hasForm, Cond.code yX6_hasForm cX6_hasForm 2 (some .boolean), Cond.methodLink RX6 113 yX6_likenessOf, Cond.instanceMethod yX6_likenessOf, Cond.selects RX6 yX6_likenessOf yX6_likenessOf, Cond.code yX6_likenessOf cX6_likenessOf 5 (some .long), Cond.fieldLink RX6 44 "TaughtTonguesModel" "slipIs" "I", Cond.methodLink RX6 95 yX6_beforehand, Cond.instanceMethod yX6_beforehand, Cond.selects RX6 yX6_beforehand yX6_beforehand, Cond.code yX6_beforehand cX6_beforehand 6 (some .int), Cond.fieldLink RX6 89 "TaughtTonguesModel" "lines" "I", Cond.fieldLink RX6 16 "TaughtTonguesModel" "lineSigns" "[I", Cond.methodLink RX6 131 yX6_ones, Cond.static yX6_ones, Cond.code yX6_ones cX6_ones 1 (some .int), Cond.methodLink RX6 147 yX6_oddsOf, Cond.instanceMethod yX6_oddsOf, Cond.selects RX6 yX6_oddsOf yX6_oddsOf, Cond.code yX6_oddsOf cX6_oddsOf 3 (some .long)]
def wsX6_findCame_r3 : List Cond := [Cond.methodLink RX6 167 yX6_live, Cond.instanceMethod yX6_live, Cond.selects RX6 yX6_live yX6_live, Cond.code yX6_live cX6_live 6 none, Cond.fieldLink RX6 159 "TaughtTonguesModel" "lowerNow" "J", Cond.fieldLink RX6 32 "TaughtTonguesModel" "then" "[J"]
def wsX6_findCame : List Cond := .code yX6_findCame cX6_findCame 6 (some .long) :: ((wsX6_findCame_r1 ++ (wsX6_findCame_r2 ++ wsX6_findCame_r3)) ++ wsX60)
def wsX6_back_r1 : List Cond := [Cond.constantLong RX6 117 (-1000000000000000001), Cond.constantLong RX6 122 (-1000000000000000002), Cond.fieldLink RX6 48 "TaughtTonguesModel" "hearsIs" "I", Cond.constantLong RX6 165 (-1000000000000000003), Cond.fieldLink RX6 41 "TaughtTonguesModel" "came" "[J", Cond.methodLink RX6 92 yX6_isTongue, Cond.static yX6_isTongue, Cond.initialized RX6, Cond.code yX6_isTongue cX6_isTongue 1 (some .boolean), Cond.constantLong RX6 57 (7), Cond.methodLink RX6 53 yX6_in, Cond.static yX6_in, Cond.code yX6_in cX6_in 6 (some .boolean), Cond.methodLink RX6 162 yX6_isLives, Cond.static yX6_isLives, Cond.code yX6_isLives cX6_isLives 1 (some .boolean), Cond.constantLong RX6 63 (4), Cond.methodLink RX6 119 yX6_isPart, Cond.static yX6_isPart, Cond.code yX6_isPart cX6_isPart 1 (some .boolean), Cond.methodLink RX6 179 yX6_findCame, Cond.instanceMethod yX6_findCame, Cond.selects RX6 yX6_findCame yX6_findCame, Cond.code yX6_findCame cX6_findCame 6 (some .long)]
def wsX6_back_r2 : List Cond := [Cond.fieldLink RX6 29 "TaughtTonguesModel" "now" "[J", Cond.methodLink RX6 155 yX6_findSteps, Cond.instanceMethod yX6_findSteps, Cond.selects RX6 yX6_findSteps yX6_findSteps, Cond.code yX6_findSteps cX6_findSteps 11 none, Cond.fieldLink RX6 143 "TaughtTonguesModel" "lower" "J", Cond.fieldLink RX6 25 "TaughtTonguesModel" "steps" "[J", Cond.fieldLink RX6 101 "TaughtTonguesModel" "rowMany" "I", Cond.fieldLink RX6 22 "TaughtTonguesModel" "row" "[I", Cond.methodLink RX6 139 yX6_lowerOf, Cond.instanceMethod yX6_lowerOf, Cond.selects RX6 yX6_lowerOf yX6_lowerOf, Cond.code yX6_lowerOf cX6_lowerOf 6 (some .long), Cond.constantLong RX6 137 (12), Cond.fieldLink RX6 7 "TaughtTonguesModel" "weights" "[I", Cond.methodLink RX6 134 yX6_taken, Cond.instanceMethod yX6_taken, Cond.selects RX6 yX6_taken yX6_taken, Cond.code yX6_taken cX6_taken 7 (some .int), Cond.fieldLink RX6 65 "TaughtTonguesModel" "learnerIs" "I", Cond.methodLink RX6 128 yX6_hasAll, Cond.instanceMethod yX6_hasAll, Cond.selects RX6 yX6_hasAll yX6_hasAll, Cond.code yX6_hasAll cX6_hasAll 4 (some .boolean)]
def wsX6_back_r3 : List Cond := [Cond.methodLink RX6 104 yX6_hasForm, Cond.static yX6_hasForm, Cond.code yX6_hasForm cX6_hasForm 2 (some .boolean), Cond.methodLink RX6 113 yX6_likenessOf, Cond.instanceMethod yX6_likenessOf, Cond.selects RX6 yX6_likenessOf yX6_likenessOf, Cond.code yX6_likenessOf cX6_likenessOf 5 (some .long), Cond.fieldLink RX6 44 "TaughtTonguesModel" "slipIs" "I", Cond.methodLink RX6 95 yX6_beforehand, Cond.instanceMethod yX6_beforehand, Cond.selects RX6 yX6_beforehand yX6_beforehand, Cond.code yX6_beforehand cX6_beforehand 6 (some .int), Cond.fieldLink RX6 89 "TaughtTonguesModel" "lines" "I", Cond.fieldLink RX6 16 "TaughtTonguesModel" "lineSigns" "[I", Cond.methodLink RX6 131 yX6_ones, Cond.static yX6_ones, Cond.code yX6_ones cX6_ones 1 (some .int), Cond.methodLink RX6 147 yX6_oddsOf, Cond.instanceMethod yX6_oddsOf, Cond.selects RX6 yX6_oddsOf yX6_oddsOf, Cond.code yX6_oddsOf cX6_oddsOf 3 (some .long), Cond.methodLink RX6 167 yX6_live, Cond.instanceMethod yX6_live, Cond.selects RX6 yX6_live yX6_live]
def wsX6_back_r4 : List Cond := [Cond.code yX6_live cX6_live 6 none, Cond.fieldLink RX6 159 "TaughtTonguesModel" "lowerNow" "J", Cond.fieldLink RX6 32 "TaughtTonguesModel" "then" "[J", Cond.methodLink RX6 124 yX6_lowest, Cond.static yX6_lowest, Cond.code yX6_lowest cX6_lowest 11 (some .long)]
def wsX6_back : List Cond := .code yX6_back cX6_back 7 (some .long) :: ((wsX6_back_r1 ++ (wsX6_back_r2 ++ (wsX6_back_r3 ++ wsX6_back_r4))) ++ wsX60)
def wsX6_guess_r1 : List Cond := [Cond.fieldLink RX6 48 "TaughtTonguesModel" "hearsIs" "I", Cond.fieldLink RX6 41 "TaughtTonguesModel" "came" "[J", Cond.methodLink RX6 92 yX6_isTongue, Cond.static yX6_isTongue, Cond.initialized RX6, Cond.code yX6_isTongue cX6_isTongue 1 (some .boolean), Cond.constantLong RX6 57 (7), Cond.methodLink RX6 53 yX6_in, Cond.static yX6_in, Cond.code yX6_in cX6_in 6 (some .boolean), Cond.methodLink RX6 162 yX6_isLives, Cond.static yX6_isLives, Cond.code yX6_isLives cX6_isLives 1 (some .boolean), Cond.constantLong RX6 63 (4), Cond.methodLink RX6 179 yX6_findCame, Cond.instanceMethod yX6_findCame, Cond.selects RX6 yX6_findCame yX6_findCame, Cond.code yX6_findCame cX6_findCame 6 (some .long), Cond.fieldLink RX6 29 "TaughtTonguesModel" "now" "[J", Cond.methodLink RX6 155 yX6_findSteps, Cond.instanceMethod yX6_findSteps, Cond.selects RX6 yX6_findSteps yX6_findSteps, Cond.code yX6_findSteps cX6_findSteps 11 none, Cond.fieldLink RX6 143 "TaughtTonguesModel" "lower" "J"]
def wsX6_guess_r2 : List Cond := [Cond.fieldLink RX6 25 "TaughtTonguesModel" "steps" "[J", Cond.fieldLink RX6 101 "TaughtTonguesModel" "rowMany" "I", Cond.fieldLink RX6 22 "TaughtTonguesModel" "row" "[I", Cond.methodLink RX6 139 yX6_lowerOf, Cond.instanceMethod yX6_lowerOf, Cond.selects RX6 yX6_lowerOf yX6_lowerOf, Cond.code yX6_lowerOf cX6_lowerOf 6 (some .long), Cond.constantLong RX6 137 (12), Cond.fieldLink RX6 7 "TaughtTonguesModel" "weights" "[I", Cond.methodLink RX6 134 yX6_taken, Cond.instanceMethod yX6_taken, Cond.selects RX6 yX6_taken yX6_taken, Cond.code yX6_taken cX6_taken 7 (some .int), Cond.fieldLink RX6 65 "TaughtTonguesModel" "learnerIs" "I", Cond.methodLink RX6 128 yX6_hasAll, Cond.instanceMethod yX6_hasAll, Cond.selects RX6 yX6_hasAll yX6_hasAll, Cond.code yX6_hasAll cX6_hasAll 4 (some .boolean), Cond.methodLink RX6 104 yX6_hasForm, Cond.static yX6_hasForm, Cond.code yX6_hasForm cX6_hasForm 2 (some .boolean), Cond.methodLink RX6 113 yX6_likenessOf, Cond.instanceMethod yX6_likenessOf, Cond.selects RX6 yX6_likenessOf yX6_likenessOf]
def wsX6_guess_r3 : List Cond := [Cond.code yX6_likenessOf cX6_likenessOf 5 (some .long), Cond.fieldLink RX6 44 "TaughtTonguesModel" "slipIs" "I", Cond.methodLink RX6 95 yX6_beforehand, Cond.instanceMethod yX6_beforehand, Cond.selects RX6 yX6_beforehand yX6_beforehand, Cond.code yX6_beforehand cX6_beforehand 6 (some .int), Cond.fieldLink RX6 89 "TaughtTonguesModel" "lines" "I", Cond.fieldLink RX6 16 "TaughtTonguesModel" "lineSigns" "[I", Cond.methodLink RX6 131 yX6_ones, Cond.static yX6_ones, Cond.code yX6_ones cX6_ones 1 (some .int), Cond.methodLink RX6 147 yX6_oddsOf, Cond.instanceMethod yX6_oddsOf, Cond.selects RX6 yX6_oddsOf yX6_oddsOf, Cond.code yX6_oddsOf cX6_oddsOf 3 (some .long), Cond.methodLink RX6 167 yX6_live, Cond.instanceMethod yX6_live, Cond.selects RX6 yX6_live yX6_live, Cond.code yX6_live cX6_live 6 none, Cond.fieldLink RX6 159 "TaughtTonguesModel" "lowerNow" "J", Cond.fieldLink RX6 32 "TaughtTonguesModel" "then" "[J"]
def wsX6_guess : List Cond := .code yX6_guess cX6_guess 9 (some .int) :: ((wsX6_guess_r1 ++ (wsX6_guess_r2 ++ wsX6_guess_r3)) ++ wsX60)
def wsX6_told : List Cond := .code yX6_told cX6_told 2 (some .int) :: ([.constantLong RX6 182 (10), .constantLong RX6 137 (12), .fieldLink RX6 7 "TaughtTonguesModel" "weights" "[I", .constantLong RX6 51 (2), .fieldLink RX6 78 "TaughtTonguesModel" "signMany" "I", .fieldLink RX6 98 "TaughtTonguesModel" "heardMany" "I", .methodLink RX6 53 yX6_in, .static yX6_in, .initialized RX6, .code yX6_in cX6_in 6 (some .boolean), .methodLink RX6 70 yX6_numberIs, .instanceMethod yX6_numberIs, .selects RX6 yX6_numberIs yX6_numberIs, .code yX6_numberIs cX6_numberIs 2 (some .int), .fieldLink RX6 44 "TaughtTonguesModel" "slipIs" "I", .fieldLink RX6 48 "TaughtTonguesModel" "hearsIs" "I", .fieldLink RX6 65 "TaughtTonguesModel" "learnerIs" "I"] ++ wsX60)
theorem inJ6 : ∀ w ∈ wsJ60, w ∈ lw_tbl := by decide +kernel
theorem inJ10 : ∀ w ∈ wsJ100, w ∈ lw_tbl := by decide +kernel
theorem inJ7 : ∀ w ∈ wsJ70, w ∈ lw_tbl := by decide +kernel
set_option maxRecDepth 20000 in
theorem ggX0_clear_J7_fill_53178 : GoodIn wsX0_clear wsJ7_fill_53178 := goodIn_r _ [6] (by decide +kernel) (by decide +kernel)
set_option maxRecDepth 20000 in
theorem gX0_clear_J7_fill_53178 : GoodIn wsX0_clear (va_wsS RX0 19 yJ7_fill_53178 wsJ7_fill_53178) := goodIn_app (goodIn_of _ (by decide +kernel)) ggX0_clear_J7_fill_53178
set_option maxRecDepth 20000 in
theorem ggX0_sharedWith_X5_formOf : GoodIn wsX0_sharedWith wsX5_formOf := goodIn_r _ [4] (by decide +kernel) (by decide +kernel)
set_option maxRecDepth 20000 in
theorem gX0_sharedWith_X5_formOf_n25 : GoodIn wsX0_sharedWith (wsX5_formOf) := ggX0_sharedWith_X5_formOf
set_option maxRecDepth 20000 in
theorem ggX1_likenessOf_X0_sharedWith : GoodIn wsX1_likenessOf wsX0_sharedWith := goodIn_r _ [5, 6, 7, 8, 9, 19, 20] (by decide +kernel) (by decide +kernel)
set_option maxRecDepth 20000 in
theorem gX1_likenessOf_X0_sharedWith : GoodIn wsX1_likenessOf (wsV RX1 22 RX0 yX0_sharedWith wsX0_sharedWith) := goodIn_app (goodIn_of _ (by decide +kernel)) ggX1_likenessOf_X0_sharedWith
set_option maxRecDepth 20000 in
theorem ggX1_likenessOf_X1_likenessBy : GoodIn wsX1_likenessOf wsX1_likenessBy := goodIn_r _ [14, 15, 16, 17, 8, 18, 21, 22, 23] (by decide +kernel) (by decide +kernel)
set_option maxRecDepth 20000 in
theorem gX1_likenessOf_X1_likenessBy : GoodIn wsX1_likenessOf (wsV RX1 31 RX1 yX1_likenessBy wsX1_likenessBy) := goodIn_app (goodIn_of _ (by decide +kernel)) ggX1_likenessOf_X1_likenessBy
set_option maxRecDepth 20000 in
theorem ggX1_likenessBy_X5_power : GoodIn wsX1_likenessBy wsX5_power := goodIn_r _ [5] (by decide +kernel) (by decide +kernel)
set_option maxRecDepth 20000 in
theorem gX1_likenessBy_X5_power_n35 : GoodIn wsX1_likenessBy (wsX5_power) := ggX1_likenessBy_X5_power
set_option maxRecDepth 20000 in
theorem ggX1_choice_X0_sharedWith : GoodIn wsX1_choice wsX0_sharedWith := goodIn_r _ [7, 8, 9, 10, 11, 35, 36] (by decide +kernel) (by decide +kernel)
set_option maxRecDepth 20000 in
theorem gX1_choice_X0_sharedWith : GoodIn wsX1_choice (wsV RX1 22 RX0 yX0_sharedWith wsX0_sharedWith) := goodIn_app (goodIn_of _ (by decide +kernel)) ggX1_choice_X0_sharedWith
set_option maxRecDepth 20000 in
theorem ggX1_choice_X1_likenessBy : GoodIn wsX1_choice wsX1_likenessBy := goodIn_r _ [16, 17, 18, 19, 10, 20, 32, 33, 34] (by decide +kernel) (by decide +kernel)
set_option maxRecDepth 20000 in
theorem gX1_choice_X1_likenessBy : GoodIn wsX1_choice (wsV RX1 31 RX1 yX1_likenessBy wsX1_likenessBy) := goodIn_app (goodIn_of _ (by decide +kernel)) ggX1_choice_X1_likenessBy
set_option maxRecDepth 20000 in
theorem ggX1_choice_X1_isRather : GoodIn wsX1_choice wsX1_isRather := goodIn_r _ [24, 2, 25, 26, 27, 28, 29, 30, 31, 32, 33, 34] (by decide +kernel) (by decide +kernel)
set_option maxRecDepth 20000 in
theorem gX1_choice_X1_isRather : GoodIn wsX1_choice (wsV RX1 41 RX1 yX1_isRather wsX1_isRather) := goodIn_app (goodIn_of _ (by decide +kernel)) ggX1_choice_X1_isRather
set_option maxRecDepth 20000 in
theorem ggX1_isRather_J6_bitCount_0f7a4 : GoodIn wsX1_isRather wsJ6_bitCount_0f7a4 := goodIn_r _ [5, 6, 7, 8] (by decide +kernel) (by decide +kernel)
set_option maxRecDepth 20000 in
theorem gX1_isRather_J6_bitCount_0f7a4 : GoodIn wsX1_isRather (va_wsS RX1 45 yJ6_bitCount_0f7a4 wsJ6_bitCount_0f7a4) := goodIn_app (goodIn_of _ (by decide +kernel)) ggX1_isRather_J6_bitCount_0f7a4
set_option maxRecDepth 20000 in
theorem ggX2_init_X0_init : GoodIn wsX2_init wsX0_init := goodIn_r _ [16, 17, 2, 3, 4, 18, 19, 43, 44] (by decide +kernel) (by decide +kernel)
set_option maxRecDepth 20000 in
theorem gX2_init_X0_init_n29 : GoodIn wsX2_init (wsX0_init) := ggX2_init_X0_init
set_option maxRecDepth 20000 in
theorem ggX2_init_X2_makeGreaterOnes : GoodIn wsX2_init wsX2_makeGreaterOnes := goodIn_r _ [24, 7, 6, 8, 5, 37, 38, 39, 40, 41, 42] (by decide +kernel) (by decide +kernel)
set_option maxRecDepth 20000 in
theorem gX2_init_X2_makeGreaterOnes : GoodIn wsX2_init (wsV RX2 38 RX2 yX2_makeGreaterOnes wsX2_makeGreaterOnes) := goodIn_app (goodIn_of _ (by decide +kernel)) ggX2_init_X2_makeGreaterOnes
set_option maxRecDepth 20000 in
theorem ggX2_init_X2_joinGreaterOnes : GoodIn wsX2_init wsX2_joinGreaterOnes := goodIn_r _ [28, 7, 6, 8, 5, 37, 38, 39, 40, 41, 42] (by decide +kernel) (by decide +kernel)
set_option maxRecDepth 20000 in
theorem gX2_init_X2_joinGreaterOnes : GoodIn wsX2_init (wsV RX2 42 RX2 yX2_joinGreaterOnes wsX2_joinGreaterOnes) := goodIn_app (goodIn_of _ (by decide +kernel)) ggX2_init_X2_joinGreaterOnes
set_option maxRecDepth 20000 in
theorem ggX2_init_X2_forgetChoices : GoodIn wsX2_init wsX2_forgetChoices := goodIn_r _ [32, 9, 33, 34, 35, 36, 37, 38, 39, 40, 41, 42] (by decide +kernel) (by decide +kernel)
set_option maxRecDepth 20000 in
theorem gX2_init_X2_forgetChoices : GoodIn wsX2_init (wsV RX2 45 RX2 yX2_forgetChoices wsX2_forgetChoices) := goodIn_app (goodIn_of _ (by decide +kernel)) ggX2_init_X2_forgetChoices
set_option maxRecDepth 20000 in
theorem ggX2_forgetChoices_J7_fill_53178 : GoodIn wsX2_forgetChoices wsJ7_fill_53178 := goodIn_r _ [5] (by decide +kernel) (by decide +kernel)
set_option maxRecDepth 20000 in
theorem gX2_forgetChoices_J7_fill_53178 : GoodIn wsX2_forgetChoices (va_wsS RX2 48 yJ7_fill_53178 wsJ7_fill_53178) := goodIn_app (goodIn_of _ (by decide +kernel)) ggX2_forgetChoices_J7_fill_53178
set_option maxRecDepth 20000 in
theorem ggX2_choiceBehind_X2_countSayings : GoodIn wsX2_choiceBehind wsX2_countSayings := goodIn_r _ [8, 3, 9, 10, 11, 12, 13, 14, 15, 16, 17, 18, 19, 20, 21, 22, 23, 24, 25, 59, 60, 61, 62, 63, 64, 65, 66] (by decide +kernel) (by decide +kernel)
set_option maxRecDepth 20000 in
theorem gX2_choiceBehind_X2_countSayings : GoodIn wsX2_choiceBehind (wsV RX2 54 RX2 yX2_countSayings wsX2_countSayings) := goodIn_app (goodIn_of _ (by decide +kernel)) ggX2_choiceBehind_X2_countSayings
set_option maxRecDepth 20000 in
theorem ggX2_choiceBehind_X1_choice : GoodIn wsX2_choiceBehind wsX1_choice := goodIn_r _ [30, 31, 32, 33, 34, 35, 14, 36, 16, 37, 38, 39, 40, 41, 42, 29, 43, 44, 45, 46, 47, 48, 49, 50, 51, 52, 53, 54, 55, 56, 57, 58, 67, 68, 69, 65, 66] (by decide +kernel) (by decide +kernel)
set_option maxRecDepth 20000 in
theorem gX2_choiceBehind_X1_choice : GoodIn wsX2_choiceBehind (wsV RX2 57 RX1 yX1_choice wsX1_choice) := goodIn_app (goodIn_of _ (by decide +kernel)) ggX2_choiceBehind_X1_choice
set_option maxRecDepth 20000 in
theorem ggX2_countSayings_X0_clear : GoodIn wsX2_countSayings wsX0_clear := goodIn_r _ [8, 9, 10, 11, 12, 13, 14, 25, 26] (by decide +kernel) (by decide +kernel)
set_option maxRecDepth 20000 in
theorem gX2_countSayings_X0_clear : GoodIn wsX2_countSayings (wsV RX2 63 RX0 yX0_clear wsX0_clear) := goodIn_app (goodIn_of _ (by decide +kernel)) ggX2_countSayings_X0_clear
set_option maxRecDepth 20000 in
theorem ggX2_countSayings_X0_add : GoodIn wsX2_countSayings wsX0_add := goodIn_r _ [18, 9, 10, 25, 26] (by decide +kernel) (by decide +kernel)
set_option maxRecDepth 20000 in
theorem gX2_countSayings_X0_add : GoodIn wsX2_countSayings (wsV RX2 66 RX0 yX0_add wsX0_add) := goodIn_app (goodIn_of _ (by decide +kernel)) ggX2_countSayings_X0_add
set_option maxRecDepth 20000 in
theorem ggX2_firstThatTeaches_X2_countSayings : GoodIn wsX2_firstThatTeaches wsX2_countSayings := goodIn_r _ [6, 1, 7, 8, 9, 10, 11, 12, 13, 14, 15, 16, 17, 18, 19, 20, 21, 22, 23, 64, 65, 66, 67, 68, 69, 70, 71] (by decide +kernel) (by decide +kernel)
set_option maxRecDepth 20000 in
theorem gX2_firstThatTeaches_X2_countSayings : GoodIn wsX2_firstThatTeaches (wsV RX2 54 RX2 yX2_countSayings wsX2_countSayings) := goodIn_app (goodIn_of _ (by decide +kernel)) ggX2_firstThatTeaches_X2_countSayings
set_option maxRecDepth 20000 in
theorem ggX2_firstThatTeaches_X0_sharedWith : GoodIn wsX2_firstThatTeaches wsX0_sharedWith := goodIn_r _ [27, 14, 28, 29, 30, 70, 71] (by decide +kernel) (by decide +kernel)
set_option maxRecDepth 20000 in
theorem gX2_firstThatTeaches_X0_sharedWith : GoodIn wsX2_firstThatTeaches (wsV RX2 69 RX0 yX0_sharedWith wsX0_sharedWith) := goodIn_app (goodIn_of _ (by decide +kernel)) ggX2_firstThatTeaches_X0_sharedWith
set_option maxRecDepth 20000 in
theorem ggX2_firstThatTeaches_X2_choiceBehind : GoodIn wsX2_firstThatTeaches wsX2_choiceBehind := goodIn_r _ [34, 35, 36, 1, 2, 3, 4, 5, 6, 7, 8, 9, 10, 11, 12, 13, 14, 15, 16, 17, 18, 19, 20, 21, 22, 23, 37, 38, 39, 40, 41, 42, 43, 44, 25, 26, 27, 28, 29, 30, 45, 46, 47, 48, 49, 50, 51, 52, 53, 54, 55, 56, 57, 58, 59, 60, 61, 62, 63, 64, 65, 66, 67, 68, 69, 70, 71, 72, 73, 74] (by decide +kernel) (by decide +kernel)
set_option maxRecDepth 20000 in
theorem gX2_firstThatTeaches_X2_choiceBehind : GoodIn wsX2_firstThatTeaches (wsV RX2 77 RX2 yX2_choiceBehind wsX2_choiceBehind) := goodIn_app (goodIn_of _ (by decide +kernel)) ggX2_firstThatTeaches_X2_choiceBehind
set_option maxRecDepth 20000 in
theorem ggX3_firstFault_X3_canStand : GoodIn wsX3_firstFault wsX3_canStand := goodIn_r _ [6] (by decide +kernel) (by decide +kernel)
set_option maxRecDepth 20000 in
theorem gX3_firstFault_X3_canStand : GoodIn wsX3_firstFault (va_wsS RX3 19 yX3_canStand wsX3_canStand) := goodIn_app (goodIn_of _ (by decide +kernel)) ggX3_firstFault_X3_canStand
set_option maxRecDepth 20000 in
theorem ggX3_numberFor_X3_lineFits : GoodIn wsX3_numberFor wsX3_lineFits := goodIn_r _ [7, 2, 8, 9, 10, 11, 12] (by decide +kernel) (by decide +kernel)
set_option maxRecDepth 20000 in
theorem gX3_numberFor_X3_lineFits : GoodIn wsX3_numberFor (wsV RX3 23 RX3 yX3_lineFits wsX3_lineFits) := goodIn_app (goodIn_of _ (by decide +kernel)) ggX3_numberFor_X3_lineFits
set_option maxRecDepth 20000 in
theorem ggX3_lineFits_X5_formOf : GoodIn wsX3_lineFits wsX5_formOf := goodIn_r _ [4] (by decide +kernel) (by decide +kernel)
set_option maxRecDepth 20000 in
theorem gX3_lineFits_X5_formOf_n26 : GoodIn wsX3_lineFits (wsX5_formOf) := ggX3_lineFits_X5_formOf
set_option maxRecDepth 20000 in
theorem ggX4_whole_X5_power : GoodIn wsX4_whole wsX5_power := goodIn_r _ [5] (by decide +kernel) (by decide +kernel)
set_option maxRecDepth 20000 in
theorem gX4_whole_X5_power_n55 : GoodIn wsX4_whole (wsX5_power) := ggX4_whole_X5_power
set_option maxRecDepth 20000 in
theorem ggX4_rowOf_X4_listSayings : GoodIn wsX4_rowOf wsX4_listSayings := goodIn_r _ [11, 12, 13, 14, 15, 16, 83, 84, 85, 86, 87, 88, 89, 90, 91, 92, 93, 94, 95, 96, 97] (by decide +kernel) (by decide +kernel)
set_option maxRecDepth 20000 in
theorem gX4_rowOf_X4_listSayings : GoodIn wsX4_rowOf (wsV RX4 59 RX4 yX4_listSayings wsX4_listSayings) := goodIn_app (goodIn_of _ (by decide +kernel)) ggX4_rowOf_X4_listSayings
set_option maxRecDepth 20000 in
theorem ggX4_rowOf_J7_fill_d0a16 : GoodIn wsX4_rowOf wsJ7_fill_d0a16 := goodIn_r _ [20] (by decide +kernel) (by decide +kernel)
set_option maxRecDepth 20000 in
theorem gX4_rowOf_J7_fill_d0a16 : GoodIn wsX4_rowOf (va_wsS RX4 63 yJ7_fill_d0a16 wsJ7_fill_d0a16) := goodIn_app (goodIn_of _ (by decide +kernel)) ggX4_rowOf_J7_fill_d0a16
set_option maxRecDepth 20000 in
theorem ggX4_rowOf_X4_hearOneMore : GoodIn wsX4_rowOf wsX4_hearOneMore := goodIn_r _ [24, 3, 6, 83, 84, 85, 86, 87, 88, 89, 90, 91, 92, 93, 94, 98, 99, 100, 101, 102, 103] (by decide +kernel) (by decide +kernel)
set_option maxRecDepth 20000 in
theorem gX4_rowOf_X4_hearOneMore : GoodIn wsX4_rowOf (wsV RX4 69 RX4 yX4_hearOneMore wsX4_hearOneMore) := goodIn_app (goodIn_of _ (by decide +kernel)) ggX4_rowOf_X4_hearOneMore
set_option maxRecDepth 20000 in
theorem ggX4_rowOf_X2_choiceBehind : GoodIn wsX4_rowOf wsX2_choiceBehind := goodIn_r _ [29, 30, 31, 32, 33, 34, 35, 28, 36, 37, 38, 39, 40, 41, 42, 43, 44, 45, 46, 47, 19, 48, 49, 50, 51, 52, 53, 54, 55, 56, 57, 58, 59, 60, 61, 62, 63, 14, 15, 16, 64, 65, 66, 67, 68, 69, 70, 71, 72, 73, 74, 75, 76, 77, 78, 79, 80, 81, 82, 98, 99, 100, 101, 102, 103, 104, 105, 95, 96, 97] (by decide +kernel) (by decide +kernel)
set_option maxRecDepth 20000 in
theorem gX4_rowOf_X2_choiceBehind : GoodIn wsX4_rowOf (wsV RX4 75 RX2 yX2_choiceBehind wsX2_choiceBehind) := goodIn_app (goodIn_of _ (by decide +kernel)) ggX4_rowOf_X2_choiceBehind
set_option maxRecDepth 20000 in
theorem ggX4_listSayings_X5_formOf : GoodIn wsX4_listSayings wsX5_formOf := goodIn_r _ [5] (by decide +kernel) (by decide +kernel)
set_option maxRecDepth 20000 in
theorem gX4_listSayings_X5_formOf_n79 : GoodIn wsX4_listSayings (wsX5_formOf) := ggX4_listSayings_X5_formOf
set_option maxRecDepth 20000 in
theorem ggX4_know_X4_rowOf : GoodIn wsX4_know wsX4_rowOf := goodIn_r _ [11, 12, 13, 14, 15, 16, 17, 18, 19, 20, 10, 21, 22, 23, 24, 25, 26, 27, 28, 29, 30, 31, 32, 33, 34, 35, 36, 37, 38, 39, 40, 41, 42, 43, 44, 45, 46, 47, 48, 49, 50, 51, 52, 53, 54, 55, 56, 57, 58, 59, 60, 61, 62, 63, 64, 65, 66, 67, 68, 69, 70, 71, 72, 73, 74, 75, 76, 77, 78, 79, 80, 81, 82, 83, 84, 85, 86, 87, 88, 89, 90, 91, 92, 93, 94, 95, 96, 97, 98, 99, 100, 101, 102, 103, 104, 105, 106, 107, 108, 109, 110, 111, 112, 113, 114, 115] (by decide +kernel) (by decide +kernel)
set_option maxRecDepth 20000 in
theorem gX4_know_X4_rowOf : GoodIn wsX4_know (wsV RX4 91 RX4 yX4_rowOf wsX4_rowOf) := goodIn_app (goodIn_of _ (by decide +kernel)) ggX4_know_X4_rowOf
set_option maxRecDepth 20000 in
theorem ggX4_forward_X4_startAt : GoodIn wsX4_forward wsX4_startAt := goodIn_r _ [12, 2, 13, 14, 15, 16, 17, 18, 19, 20, 21, 22, 23, 24, 25, 26, 27, 28] (by decide +kernel) (by decide +kernel)
set_option maxRecDepth 20000 in
theorem gX4_forward_X4_startAt : GoodIn wsX4_forward (wsV RX4 101 RX4 yX4_startAt wsX4_startAt) := goodIn_app (goodIn_of _ (by decide +kernel)) ggX4_forward_X4_startAt
set_option maxRecDepth 20000 in
theorem ggX4_forward_J7_fill_d0a16 : GoodIn wsX4_forward wsJ7_fill_d0a16 := goodIn_r _ [16] (by decide +kernel) (by decide +kernel)
set_option maxRecDepth 20000 in
theorem gX4_forward_J7_fill_d0a16 : GoodIn wsX4_forward (va_wsS RX4 63 yJ7_fill_d0a16 wsJ7_fill_d0a16) := goodIn_app (goodIn_of _ (by decide +kernel)) ggX4_forward_J7_fill_d0a16
set_option maxRecDepth 20000 in
theorem ggX4_backward_X4_startAt : GoodIn wsX4_backward wsX4_startAt := goodIn_r _ [12, 3, 13, 14, 15, 16, 17, 18, 19, 20, 21, 22, 23, 24, 25, 26, 27, 28] (by decide +kernel) (by decide +kernel)
set_option maxRecDepth 20000 in
theorem gX4_backward_X4_startAt : GoodIn wsX4_backward (wsV RX4 101 RX4 yX4_startAt wsX4_startAt) := goodIn_app (goodIn_of _ (by decide +kernel)) ggX4_backward_X4_startAt
set_option maxRecDepth 20000 in
theorem ggX4_backward_J7_fill_d0a16 : GoodIn wsX4_backward wsJ7_fill_d0a16 := goodIn_r _ [16] (by decide +kernel) (by decide +kernel)
set_option maxRecDepth 20000 in
theorem gX4_backward_J7_fill_d0a16 : GoodIn wsX4_backward (va_wsS RX4 63 yJ7_fill_d0a16 wsJ7_fill_d0a16) := goodIn_app (goodIn_of _ (by decide +kernel)) ggX4_backward_J7_fill_d0a16
set_option maxRecDepth 20000 in
theorem ggX4_startAt_J7_fill_d0a16 : GoodIn wsX4_startAt wsJ7_fill_d0a16 := goodIn_r _ [5] (by decide +kernel) (by decide +kernel)
set_option maxRecDepth 20000 in
theorem gX4_startAt_J7_fill_d0a16 : GoodIn wsX4_startAt (va_wsS RX4 63 yJ7_fill_d0a16 wsJ7_fill_d0a16) := goodIn_app (goodIn_of _ (by decide +kernel)) ggX4_startAt_J7_fill_d0a16
set_option maxRecDepth 20000 in
theorem ggX4_keptOnes_X4_whole : GoodIn wsX4_keptOnes wsX4_whole := goodIn_r _ [6, 7, 8, 9, 10, 11, 12, 13, 14, 15, 16, 17, 18, 19, 20, 21, 22, 23] (by decide +kernel) (by decide +kernel)
set_option maxRecDepth 20000 in
theorem gX4_keptOnes_X4_whole : GoodIn wsX4_keptOnes (wsV RX4 105 RX4 yX4_whole wsX4_whole) := goodIn_app (goodIn_of _ (by decide +kernel)) ggX4_keptOnes_X4_whole
set_option maxRecDepth 20000 in
theorem ggX5_init_X3_init : GoodIn wsX5_init wsX3_init := goodIn_r _ [27, 28, 2, 3, 24, 29, 30, 87, 88] (by decide +kernel) (by decide +kernel)
set_option maxRecDepth 20000 in
theorem gX5_init_X3_init_n9 : GoodIn wsX5_init (wsX3_init) := ggX5_init_X3_init
set_option maxRecDepth 20000 in
theorem ggX5_init_X0_init : GoodIn wsX5_init wsX0_init := goodIn_r _ [32, 33, 2, 3, 24, 34, 35, 95, 96] (by decide +kernel) (by decide +kernel)
set_option maxRecDepth 20000 in
theorem gX5_init_X0_init_n18 : GoodIn wsX5_init (wsX0_init) := ggX5_init_X0_init
set_option maxRecDepth 20000 in
theorem ggX5_init_X1_init : GoodIn wsX5_init wsX1_init := goodIn_r _ [37, 38, 2, 3, 24, 39, 40, 41, 97, 98, 99] (by decide +kernel) (by decide +kernel)
set_option maxRecDepth 20000 in
theorem gX5_init_X1_init_n25 : GoodIn wsX5_init (wsX1_init) := ggX5_init_X1_init
set_option maxRecDepth 20000 in
theorem ggX5_init_X2_init : GoodIn wsX5_init wsX2_init := goodIn_r _ [44, 45, 2, 3, 24, 46, 47, 48, 49, 50, 51, 9, 10, 52, 53, 31, 32, 33, 34, 35, 54, 55, 56, 18, 57, 58, 59, 60, 61, 62, 63, 64, 65, 66, 67, 68, 69, 100, 101, 102, 103, 104, 105, 95, 96] (by decide +kernel) (by decide +kernel)
set_option maxRecDepth 20000 in
theorem gX5_init_X2_init : GoodIn wsX5_init (wsX2_init) := ggX5_init_X2_init
set_option maxRecDepth 20000 in
theorem ggX5_init_X4_init : GoodIn wsX5_init wsX4_init := goodIn_r _ [72, 73, 2, 3, 24, 74, 75, 76, 77, 78, 79, 80, 81, 82, 83, 84, 85, 86, 106, 107, 108, 109, 110, 111, 112, 113, 114, 115, 116, 117] (by decide +kernel) (by decide +kernel)
set_option maxRecDepth 20000 in
theorem gX5_init_X4_init : GoodIn wsX5_init (wsX4_init) := ggX5_init_X4_init
set_option maxRecDepth 20000 in
theorem ggX5_weight_X5_isMeaning : GoodIn wsX5_weight wsX5_isMeaning := goodIn_r _ [5, 6, 7, 4, 8] (by decide +kernel) (by decide +kernel)
set_option maxRecDepth 20000 in
theorem gX5_weight_X5_isMeaning : GoodIn wsX5_weight (va_wsS RX5 52 yX5_isMeaning wsX5_isMeaning) := goodIn_app (goodIn_of _ (by decide +kernel)) ggX5_weight_X5_isMeaning
set_option maxRecDepth 20000 in
theorem ggX5_weight_X5_isBetween : GoodIn wsX5_weight wsX5_isBetween := goodIn_r _ [8] (by decide +kernel) (by decide +kernel)
set_option maxRecDepth 20000 in
theorem gX5_weight_X5_isBetween : GoodIn wsX5_weight (va_wsS RX5 56 yX5_isBetween wsX5_isBetween) := goodIn_app (goodIn_of _ (by decide +kernel)) ggX5_weight_X5_isBetween
set_option maxRecDepth 20000 in
theorem ggX5_set_X5_isBetween : GoodIn wsX5_set wsX5_isBetween := goodIn_r _ [4] (by decide +kernel) (by decide +kernel)
set_option maxRecDepth 20000 in
theorem gX5_set_X5_isBetween : GoodIn wsX5_set (va_wsS RX5 56 yX5_isBetween wsX5_isBetween) := goodIn_app (goodIn_of _ (by decide +kernel)) ggX5_set_X5_isBetween
set_option maxRecDepth 20000 in
theorem ggX5_set_X5_changeSlip : GoodIn wsX5_set wsX5_changeSlip := goodIn_r _ [8, 9, 10, 11, 12, 3, 13, 14, 15, 16, 17, 18, 19, 20, 21, 22, 23, 24, 25, 34, 35, 36, 37, 38, 39, 40, 41, 42, 43, 44, 45, 46, 47, 48, 49, 50, 51, 52, 53, 54, 55, 56, 57, 58, 59, 60] (by decide +kernel) (by decide +kernel)
set_option maxRecDepth 20000 in
theorem gX5_set_X5_changeSlip : GoodIn wsX5_set (wsV RX5 67 RX5 yX5_changeSlip wsX5_changeSlip) := goodIn_app (goodIn_of _ (by decide +kernel)) ggX5_set_X5_changeSlip
set_option maxRecDepth 20000 in
theorem ggX5_set_X5_changeHears : GoodIn wsX5_set wsX5_changeHears := goodIn_r _ [29, 15, 34, 35, 36, 37, 38, 39, 43, 44, 45, 46, 47, 48, 49, 50, 51, 52, 53, 54] (by decide +kernel) (by decide +kernel)
set_option maxRecDepth 20000 in
theorem gX5_set_X5_changeHears : GoodIn wsX5_set (wsV RX5 71 RX5 yX5_changeHears wsX5_changeHears) := goodIn_app (goodIn_of _ (by decide +kernel)) ggX5_set_X5_changeHears
set_option maxRecDepth 20000 in
theorem ggX5_set_X5_changeLearner : GoodIn wsX5_set wsX5_changeLearner := goodIn_r _ [33, 9, 10, 11, 12, 3, 13, 14, 15, 16, 17, 18, 19, 20, 21, 22, 23, 24, 25, 34, 35, 36, 37, 38, 39, 40, 41, 42, 43, 44, 45, 46, 47, 48, 49, 50, 51, 52, 53, 54, 55, 56, 57, 58, 59, 60] (by decide +kernel) (by decide +kernel)
set_option maxRecDepth 20000 in
theorem gX5_set_X5_changeLearner : GoodIn wsX5_set (wsV RX5 74 RX5 yX5_changeLearner wsX5_changeLearner) := goodIn_app (goodIn_of _ (by decide +kernel)) ggX5_set_X5_changeLearner
set_option maxRecDepth 20000 in
theorem ggX5_say_X5_isBetween : GoodIn wsX5_say wsX5_isBetween := goodIn_r _ [5] (by decide +kernel) (by decide +kernel)
set_option maxRecDepth 20000 in
theorem gX5_say_X5_isBetween : GoodIn wsX5_say (va_wsS RX5 56 yX5_isBetween wsX5_isBetween) := goodIn_app (goodIn_of _ (by decide +kernel)) ggX5_say_X5_isBetween
set_option maxRecDepth 20000 in
theorem ggX5_say_X3_add : GoodIn wsX5_say wsX3_add := goodIn_r _ [10, 11, 12, 19, 20] (by decide +kernel) (by decide +kernel)
set_option maxRecDepth 20000 in
theorem gX5_say_X3_add : GoodIn wsX5_say (wsV RX5 77 RX3 yX3_add wsX3_add) := goodIn_app (goodIn_of _ (by decide +kernel)) ggX5_say_X3_add
set_option maxRecDepth 20000 in
theorem ggX5_wipe_X3_clear : GoodIn wsX5_wipe wsX3_clear := goodIn_r _ [6, 7, 14, 15] (by decide +kernel) (by decide +kernel)
set_option maxRecDepth 20000 in
theorem gX5_wipe_X3_clear : GoodIn wsX5_wipe (wsV RX5 84 RX3 yX3_clear wsX3_clear) := goodIn_app (goodIn_of _ (by decide +kernel)) ggX5_wipe_X3_clear
set_option maxRecDepth 20000 in
theorem ggX5_fault_X3_firstFault : GoodIn wsX5_fault wsX3_firstFault := goodIn_r _ [6, 7, 8, 9, 10, 5, 11, 18, 19] (by decide +kernel) (by decide +kernel)
set_option maxRecDepth 20000 in
theorem gX5_fault_X3_firstFault : GoodIn wsX5_fault (wsV RX5 88 RX3 yX3_firstFault wsX3_firstFault) := goodIn_app (goodIn_of _ (by decide +kernel)) ggX5_fault_X3_firstFault
set_option maxRecDepth 20000 in
theorem ggX5_before_X3_firstFault : GoodIn wsX5_before wsX3_firstFault := goodIn_r _ [7, 8, 9, 10, 11, 6, 12, 57, 58] (by decide +kernel) (by decide +kernel)
set_option maxRecDepth 20000 in
theorem gX5_before_X3_firstFault : GoodIn wsX5_before (wsV RX5 88 RX3 yX3_firstFault wsX3_firstFault) := goodIn_app (goodIn_of _ (by decide +kernel)) ggX5_before_X3_firstFault
set_option maxRecDepth 20000 in
theorem ggX5_before_X3_lines : GoodIn wsX5_before wsX3_lines := goodIn_r _ [16, 8, 57, 58] (by decide +kernel) (by decide +kernel)
set_option maxRecDepth 20000 in
theorem gX5_before_X3_lines : GoodIn wsX5_before (wsV RX5 91 RX3 yX3_lines wsX3_lines) := goodIn_app (goodIn_of _ (by decide +kernel)) ggX5_before_X3_lines
set_option maxRecDepth 20000 in
theorem ggX5_before_X3_numberFor : GoodIn wsX5_before wsX3_numberFor := goodIn_r _ [20, 8, 9, 21, 22, 23, 6, 24, 25, 26, 27, 57, 58] (by decide +kernel) (by decide +kernel)
set_option maxRecDepth 20000 in
theorem gX5_before_X3_numberFor : GoodIn wsX5_before (wsV RX5 97 RX3 yX3_numberFor wsX3_numberFor) := goodIn_app (goodIn_of _ (by decide +kernel)) ggX5_before_X3_numberFor
set_option maxRecDepth 20000 in
theorem ggX5_before_X3_clear : GoodIn wsX5_before wsX3_clear := goodIn_r _ [31, 8, 57, 58] (by decide +kernel) (by decide +kernel)
set_option maxRecDepth 20000 in
theorem gX5_before_X3_clear : GoodIn wsX5_before (wsV RX5 84 RX3 yX3_clear wsX3_clear) := goodIn_app (goodIn_of _ (by decide +kernel)) ggX5_before_X3_clear
set_option maxRecDepth 20000 in
theorem ggX5_before_X5_learnerChanged : GoodIn wsX5_before wsX5_learnerChanged := goodIn_r _ [35, 36, 37, 38, 39, 40, 41, 42, 43, 44, 45, 46, 47, 48, 49, 50, 51, 52, 53, 59, 60, 61, 62, 63, 64, 65, 66, 67, 68, 69, 70, 71, 72, 73, 74, 75, 76] (by decide +kernel) (by decide +kernel)
set_option maxRecDepth 20000 in
theorem gX5_before_X5_learnerChanged : GoodIn wsX5_before (wsV RX5 100 RX5 yX5_learnerChanged wsX5_learnerChanged) := goodIn_app (goodIn_of _ (by decide +kernel)) ggX5_before_X5_learnerChanged
set_option maxRecDepth 20000 in
theorem ggX5_number_X5_isTongue : GoodIn wsX5_number wsX5_isTongue := goodIn_r _ [5, 6, 7, 4, 8] (by decide +kernel) (by decide +kernel)
set_option maxRecDepth 20000 in
theorem gX5_number_X5_isTongue : GoodIn wsX5_number (va_wsS RX5 103 yX5_isTongue wsX5_isTongue) := goodIn_app (goodIn_of _ (by decide +kernel)) ggX5_number_X5_isTongue
set_option maxRecDepth 20000 in
theorem ggX5_hear_X5_isMeaning : GoodIn wsX5_hear wsX5_isMeaning := goodIn_r _ [5, 6, 7, 4, 8] (by decide +kernel) (by decide +kernel)
set_option maxRecDepth 20000 in
theorem gX5_hear_X5_isMeaning : GoodIn wsX5_hear (va_wsS RX5 52 yX5_isMeaning wsX5_isMeaning) := goodIn_app (goodIn_of _ (by decide +kernel)) ggX5_hear_X5_isMeaning
set_option maxRecDepth 20000 in
theorem ggX5_hear_X5_isForm : GoodIn wsX5_hear wsX5_isForm := goodIn_r _ [11, 6, 7, 4, 8] (by decide +kernel) (by decide +kernel)
set_option maxRecDepth 20000 in
theorem gX5_hear_X5_isForm : GoodIn wsX5_hear (va_wsS RX5 106 yX5_isForm wsX5_isForm) := goodIn_app (goodIn_of _ (by decide +kernel)) ggX5_hear_X5_isForm
set_option maxRecDepth 20000 in
theorem ggX5_hear_X0_add : GoodIn wsX5_hear wsX0_add := goodIn_r _ [16, 17, 18, 25, 26] (by decide +kernel) (by decide +kernel)
set_option maxRecDepth 20000 in
theorem gX5_hear_X0_add : GoodIn wsX5_hear (wsV RX5 112 RX0 yX0_add wsX0_add) := goodIn_app (goodIn_of _ (by decide +kernel)) ggX5_hear_X0_add
set_option maxRecDepth 20000 in
theorem ggX5_forget_X0_clear : GoodIn wsX5_forget wsX0_clear := goodIn_r _ [6, 7, 8, 9, 10, 11, 12, 19, 20] (by decide +kernel) (by decide +kernel)
set_option maxRecDepth 20000 in
theorem gX5_forget_X0_clear : GoodIn wsX5_forget (wsV RX5 115 RX0 yX0_clear wsX0_clear) := goodIn_app (goodIn_of _ (by decide +kernel)) ggX5_forget_X0_clear
set_option maxRecDepth 20000 in
theorem ggX5_likeness_X5_isTongue : GoodIn wsX5_likeness wsX5_isTongue := goodIn_r _ [7, 8, 9, 6, 10] (by decide +kernel) (by decide +kernel)
set_option maxRecDepth 20000 in
theorem gX5_likeness_X5_isTongue : GoodIn wsX5_likeness (va_wsS RX5 103 yX5_isTongue wsX5_isTongue) := goodIn_app (goodIn_of _ (by decide +kernel)) ggX5_likeness_X5_isTongue
set_option maxRecDepth 20000 in
theorem ggX5_likeness_X1_likenessOf : GoodIn wsX5_likeness wsX1_likenessOf := goodIn_r _ [15, 16, 17, 18, 19, 20, 21, 22, 6, 23, 24, 25, 26, 14, 27, 28, 29, 30, 31, 38, 39, 40, 41, 42] (by decide +kernel) (by decide +kernel)
set_option maxRecDepth 20000 in
theorem gX5_likeness_X1_likenessOf : GoodIn wsX5_likeness (wsV RX5 117 RX1 yX1_likenessOf wsX1_likenessOf) := goodIn_app (goodIn_of _ (by decide +kernel)) ggX5_likeness_X1_likenessOf
set_option maxRecDepth 20000 in
theorem ggX5_thinks_X5_isTongue : GoodIn wsX5_thinks wsX5_isTongue := goodIn_r _ [7, 8, 9, 6, 10] (by decide +kernel) (by decide +kernel)
set_option maxRecDepth 20000 in
theorem gX5_thinks_X5_isTongue : GoodIn wsX5_thinks (va_wsS RX5 103 yX5_isTongue wsX5_isTongue) := goodIn_app (goodIn_of _ (by decide +kernel)) ggX5_thinks_X5_isTongue
set_option maxRecDepth 20000 in
theorem ggX5_thinks_X5_isPart : GoodIn wsX5_thinks wsX5_isPart := goodIn_r _ [13, 8, 9, 6, 10] (by decide +kernel) (by decide +kernel)
set_option maxRecDepth 20000 in
theorem gX5_thinks_X5_isPart : GoodIn wsX5_thinks (va_wsS RX5 123 yX5_isPart wsX5_isPart) := goodIn_app (goodIn_of _ (by decide +kernel)) ggX5_thinks_X5_isPart
set_option maxRecDepth 20000 in
theorem ggX5_thinks_X5_refusalOf : GoodIn wsX5_thinks wsX5_refusalOf := goodIn_r _ [16] (by decide +kernel) (by decide +kernel)
set_option maxRecDepth 20000 in
theorem gX5_thinks_X5_refusalOf : GoodIn wsX5_thinks (va_wsS RX5 126 yX5_refusalOf wsX5_refusalOf) := goodIn_app (goodIn_of _ (by decide +kernel)) ggX5_thinks_X5_refusalOf
set_option maxRecDepth 20000 in
theorem ggX5_thinks_X1_likenessOf : GoodIn wsX5_thinks wsX1_likenessOf := goodIn_r _ [21, 22, 23, 24, 25, 26, 27, 28, 6, 29, 30, 31, 32, 20, 33, 34, 35, 36, 37, 50, 51, 52, 53, 54] (by decide +kernel) (by decide +kernel)
set_option maxRecDepth 20000 in
theorem gX5_thinks_X1_likenessOf : GoodIn wsX5_thinks (wsV RX5 117 RX1 yX1_likenessOf wsX1_likenessOf) := goodIn_app (goodIn_of _ (by decide +kernel)) ggX5_thinks_X1_likenessOf
set_option maxRecDepth 20000 in
theorem ggX5_thinks_X5_fraction : GoodIn wsX5_thinks wsX5_fraction := goodIn_r _ [40, 1, 41, 42, 6, 43] (by decide +kernel) (by decide +kernel)
set_option maxRecDepth 20000 in
theorem gX5_thinks_X5_fraction : GoodIn wsX5_thinks (va_wsS RX5 132 yX5_fraction wsX5_fraction) := goodIn_app (goodIn_of _ (by decide +kernel)) ggX5_thinks_X5_fraction
set_option maxRecDepth 20000 in
theorem ggX5_takes_X1_choice : GoodIn wsX5_takes wsX1_choice := goodIn_r _ [7, 8, 9, 10, 11, 12, 13, 14, 15, 16, 17, 18, 19, 20, 21, 6, 22, 23, 24, 25, 26, 27, 28, 29, 30, 31, 32, 33, 34, 35, 36, 37, 44, 45, 46, 47, 48] (by decide +kernel) (by decide +kernel)
set_option maxRecDepth 20000 in
theorem gX5_takes_X1_choice : GoodIn wsX5_takes (wsV RX5 136 RX1 yX1_choice wsX1_choice) := goodIn_app (goodIn_of _ (by decide +kernel)) ggX5_takes_X1_choice
set_option maxRecDepth 20000 in
theorem ggX5_step_X5_isTongue : GoodIn wsX5_step wsX5_isTongue := goodIn_r _ [6, 7, 8, 5, 9] (by decide +kernel) (by decide +kernel)
set_option maxRecDepth 20000 in
theorem gX5_step_X5_isTongue : GoodIn wsX5_step (va_wsS RX5 103 yX5_isTongue wsX5_isTongue) := goodIn_app (goodIn_of _ (by decide +kernel)) ggX5_step_X5_isTongue
set_option maxRecDepth 20000 in
theorem ggX5_step_X5_isPart : GoodIn wsX5_step wsX5_isPart := goodIn_r _ [12, 7, 8, 5, 9] (by decide +kernel) (by decide +kernel)
set_option maxRecDepth 20000 in
theorem gX5_step_X5_isPart : GoodIn wsX5_step (va_wsS RX5 123 yX5_isPart wsX5_isPart) := goodIn_app (goodIn_of _ (by decide +kernel)) ggX5_step_X5_isPart
set_option maxRecDepth 20000 in
theorem ggX5_step_X5_refusalOf : GoodIn wsX5_step wsX5_refusalOf := goodIn_r _ [15] (by decide +kernel) (by decide +kernel)
set_option maxRecDepth 20000 in
theorem gX5_step_X5_refusalOf : GoodIn wsX5_step (va_wsS RX5 126 yX5_refusalOf wsX5_refusalOf) := goodIn_app (goodIn_of _ (by decide +kernel)) ggX5_step_X5_refusalOf
set_option maxRecDepth 20000 in
theorem ggX5_step_X4_rowOf : GoodIn wsX5_step wsX4_rowOf := goodIn_r _ [20, 21, 22, 23, 24, 25, 26, 27, 28, 29, 19, 30, 31, 32, 33, 5, 34, 35, 36, 37, 38, 39, 40, 41, 42, 43, 44, 45, 46, 47, 48, 49, 50, 51, 52, 53, 54, 55, 56, 57, 58, 59, 60, 61, 62, 63, 64, 65, 66, 67, 68, 69, 70, 71, 72, 73, 74, 75, 76, 77, 78, 79, 80, 81, 82, 83, 84, 85, 86, 87, 88, 89, 90, 91, 92, 93, 94, 95, 96, 97, 98, 99, 100, 117, 118, 119, 120, 121, 122, 123, 124, 125, 126, 127, 128, 129, 130, 131, 132, 133, 134, 135, 136, 137, 138, 139] (by decide +kernel) (by decide +kernel)
set_option maxRecDepth 20000 in
theorem gX5_step_X4_rowOf : GoodIn wsX5_step (wsV RX5 140 RX4 yX4_rowOf wsX4_rowOf) := goodIn_app (goodIn_of _ (by decide +kernel)) ggX5_step_X4_rowOf
set_option maxRecDepth 20000 in
theorem ggX5_step_X4_whole : GoodIn wsX5_step wsX4_whole := goodIn_r _ [104, 31, 24, 88, 5, 89, 117, 118, 119, 120, 121, 122, 123, 124, 125, 126, 127, 128] (by decide +kernel) (by decide +kernel)
set_option maxRecDepth 20000 in
theorem gX5_step_X4_whole : GoodIn wsX5_step (wsV RX5 144 RX4 yX4_whole wsX4_whole) := goodIn_app (goodIn_of _ (by decide +kernel)) ggX5_step_X4_whole
set_option maxRecDepth 20000 in
theorem ggX5_step_X5_fraction : GoodIn wsX5_step wsX5_fraction := goodIn_r _ [107, 1, 108, 109, 5, 110] (by decide +kernel) (by decide +kernel)
set_option maxRecDepth 20000 in
theorem gX5_step_X5_fraction : GoodIn wsX5_step (va_wsS RX5 132 yX5_fraction wsX5_fraction) := goodIn_app (goodIn_of _ (by decide +kernel)) ggX5_step_X5_fraction
set_option maxRecDepth 20000 in
theorem ggX5_book_X5_isTongue : GoodIn wsX5_book wsX5_isTongue := goodIn_r _ [6, 7, 8, 5, 9] (by decide +kernel) (by decide +kernel)
set_option maxRecDepth 20000 in
theorem gX5_book_X5_isTongue : GoodIn wsX5_book (va_wsS RX5 103 yX5_isTongue wsX5_isTongue) := goodIn_app (goodIn_of _ (by decide +kernel)) ggX5_book_X5_isTongue
set_option maxRecDepth 20000 in
theorem ggX5_book_X5_isBetween : GoodIn wsX5_book wsX5_isBetween := goodIn_r _ [9] (by decide +kernel) (by decide +kernel)
set_option maxRecDepth 20000 in
theorem gX5_book_X5_isBetween : GoodIn wsX5_book (va_wsS RX5 56 yX5_isBetween wsX5_isBetween) := goodIn_app (goodIn_of _ (by decide +kernel)) ggX5_book_X5_isBetween
set_option maxRecDepth 20000 in
theorem ggX5_book_X5_isPart : GoodIn wsX5_book wsX5_isPart := goodIn_r _ [12, 7, 8, 5, 9] (by decide +kernel) (by decide +kernel)
set_option maxRecDepth 20000 in
theorem gX5_book_X5_isPart : GoodIn wsX5_book (va_wsS RX5 123 yX5_isPart wsX5_isPart) := goodIn_app (goodIn_of _ (by decide +kernel)) ggX5_book_X5_isPart
set_option maxRecDepth 20000 in
theorem ggX5_book_X5_refusalOf : GoodIn wsX5_book wsX5_refusalOf := goodIn_r _ [15] (by decide +kernel) (by decide +kernel)
set_option maxRecDepth 20000 in
theorem gX5_book_X5_refusalOf : GoodIn wsX5_book (va_wsS RX5 126 yX5_refusalOf wsX5_refusalOf) := goodIn_app (goodIn_of _ (by decide +kernel)) ggX5_book_X5_refusalOf
set_option maxRecDepth 20000 in
theorem ggX5_book_X4_rowOf : GoodIn wsX5_book wsX4_rowOf := goodIn_r _ [20, 21, 22, 23, 24, 25, 26, 27, 28, 29, 19, 30, 31, 32, 33, 5, 34, 35, 36, 37, 38, 39, 40, 41, 42, 43, 44, 45, 46, 47, 48, 49, 50, 51, 52, 53, 54, 55, 56, 57, 58, 59, 60, 61, 62, 63, 64, 65, 66, 67, 68, 69, 70, 71, 72, 73, 74, 75, 76, 77, 78, 79, 80, 81, 82, 83, 84, 85, 86, 87, 88, 89, 90, 91, 92, 93, 94, 95, 96, 97, 98, 99, 100, 117, 118, 119, 120, 121, 122, 123, 124, 125, 126, 127, 128, 129, 130, 131, 132, 133, 134, 135, 136, 137, 138, 139] (by decide +kernel) (by decide +kernel)
set_option maxRecDepth 20000 in
theorem gX5_book_X4_rowOf : GoodIn wsX5_book (wsV RX5 140 RX4 yX4_rowOf wsX4_rowOf) := goodIn_app (goodIn_of _ (by decide +kernel)) ggX5_book_X4_rowOf
set_option maxRecDepth 20000 in
theorem ggX5_book_X4_whole : GoodIn wsX5_book wsX4_whole := goodIn_r _ [104, 31, 24, 88, 5, 89, 117, 118, 119, 120, 121, 122, 123, 124, 125, 126, 127, 128] (by decide +kernel) (by decide +kernel)
set_option maxRecDepth 20000 in
theorem gX5_book_X4_whole : GoodIn wsX5_book (wsV RX5 144 RX4 yX4_whole wsX4_whole) := goodIn_app (goodIn_of _ (by decide +kernel)) ggX5_book_X4_whole
set_option maxRecDepth 20000 in
theorem ggX5_book_X5_fraction : GoodIn wsX5_book wsX5_fraction := goodIn_r _ [107, 2, 108, 109, 5, 110] (by decide +kernel) (by decide +kernel)
set_option maxRecDepth 20000 in
theorem gX5_book_X5_fraction : GoodIn wsX5_book (va_wsS RX5 132 yX5_fraction wsX5_fraction) := goodIn_app (goodIn_of _ (by decide +kernel)) ggX5_book_X5_fraction
set_option maxRecDepth 20000 in
theorem ggX5_after_X5_isTongue : GoodIn wsX5_after wsX5_isTongue := goodIn_r _ [6, 7, 8, 5, 9] (by decide +kernel) (by decide +kernel)
set_option maxRecDepth 20000 in
theorem gX5_after_X5_isTongue : GoodIn wsX5_after (va_wsS RX5 103 yX5_isTongue wsX5_isTongue) := goodIn_app (goodIn_of _ (by decide +kernel)) ggX5_after_X5_isTongue
set_option maxRecDepth 20000 in
theorem ggX5_after_X5_isPart : GoodIn wsX5_after wsX5_isPart := goodIn_r _ [12, 7, 8, 5, 9] (by decide +kernel) (by decide +kernel)
set_option maxRecDepth 20000 in
theorem gX5_after_X5_isPart : GoodIn wsX5_after (va_wsS RX5 123 yX5_isPart wsX5_isPart) := goodIn_app (goodIn_of _ (by decide +kernel)) ggX5_after_X5_isPart
set_option maxRecDepth 20000 in
theorem ggX5_after_X5_refusalOfLives : GoodIn wsX5_after wsX5_refusalOfLives := goodIn_r _ [16, 2, 7, 8, 5, 9, 17, 18, 19, 135, 136, 137, 138, 139, 140, 141, 142, 143, 144, 145, 146, 147, 148, 149, 150, 151, 152] (by decide +kernel) (by decide +kernel)
set_option maxRecDepth 20000 in
theorem gX5_after_X5_refusalOfLives : GoodIn wsX5_after (wsV RX5 151 RX5 yX5_refusalOfLives wsX5_refusalOfLives) := goodIn_app (goodIn_of _ (by decide +kernel)) ggX5_after_X5_refusalOfLives
set_option maxRecDepth 20000 in
theorem ggX5_after_X4_know : GoodIn wsX5_after wsX4_know := goodIn_r _ [24, 25, 26, 27, 28, 29, 30, 31, 32, 33, 23, 34, 35, 36, 37, 38, 39, 40, 41, 42, 43, 44, 45, 46, 47, 5, 48, 49, 50, 51, 52, 53, 54, 55, 56, 57, 58, 59, 60, 61, 62, 63, 64, 65, 66, 67, 68, 69, 70, 71, 72, 73, 74, 75, 76, 77, 78, 79, 80, 81, 82, 83, 84, 85, 86, 87, 88, 89, 90, 91, 92, 93, 94, 95, 96, 97, 98, 99, 100, 101, 102, 103, 104, 105, 106, 107, 108, 109, 110, 111, 112, 113, 114, 141, 142, 143, 144, 145, 146, 147, 148, 149, 150, 151, 152, 153, 154, 155, 156, 157, 158, 159, 160, 161, 162, 163] (by decide +kernel) (by decide +kernel)
set_option maxRecDepth 20000 in
theorem gX5_after_X4_know : GoodIn wsX5_after (wsV RX5 155 RX4 yX4_know wsX4_know) := goodIn_app (goodIn_of _ (by decide +kernel)) ggX5_after_X4_know
set_option maxRecDepth 20000 in
theorem ggX5_after_X4_forward : GoodIn wsX5_after wsX4_forward := goodIn_r _ [118, 119, 120, 26, 27, 28, 29, 30, 121, 122, 123, 23, 124, 49, 50, 51, 52, 141, 142, 143, 144, 145, 146, 147, 148, 149, 150, 151, 152] (by decide +kernel) (by decide +kernel)
set_option maxRecDepth 20000 in
theorem gX5_after_X4_forward : GoodIn wsX5_after (wsV RX5 158 RX4 yX4_forward wsX4_forward) := goodIn_app (goodIn_of _ (by decide +kernel)) ggX5_after_X4_forward
set_option maxRecDepth 20000 in
theorem ggX5_after_X4_whole : GoodIn wsX5_after wsX4_whole := goodIn_r _ [128, 45, 38, 102, 5, 103, 141, 142, 143, 144, 145, 146, 147, 148, 149, 150, 151, 152] (by decide +kernel) (by decide +kernel)
set_option maxRecDepth 20000 in
theorem gX5_after_X4_whole : GoodIn wsX5_after (wsV RX5 144 RX4 yX4_whole wsX4_whole) := goodIn_app (goodIn_of _ (by decide +kernel)) ggX5_after_X4_whole
set_option maxRecDepth 20000 in
theorem ggX5_after_X5_fraction : GoodIn wsX5_after wsX5_fraction := goodIn_r _ [131, 1, 132, 133, 5, 134] (by decide +kernel) (by decide +kernel)
set_option maxRecDepth 20000 in
theorem gX5_after_X5_fraction : GoodIn wsX5_after (va_wsS RX5 132 yX5_fraction wsX5_fraction) := goodIn_app (goodIn_of _ (by decide +kernel)) ggX5_after_X5_fraction
set_option maxRecDepth 20000 in
theorem ggX5_leads_X5_isTongue : GoodIn wsX5_leads wsX5_isTongue := goodIn_r _ [6, 7, 8, 5, 9] (by decide +kernel) (by decide +kernel)
set_option maxRecDepth 20000 in
theorem gX5_leads_X5_isTongue : GoodIn wsX5_leads (va_wsS RX5 103 yX5_isTongue wsX5_isTongue) := goodIn_app (goodIn_of _ (by decide +kernel)) ggX5_leads_X5_isTongue
set_option maxRecDepth 20000 in
theorem ggX5_leads_X4_know : GoodIn wsX5_leads wsX4_know := goodIn_r _ [14, 15, 16, 17, 18, 19, 20, 21, 22, 23, 13, 24, 25, 26, 27, 28, 29, 30, 31, 32, 33, 34, 35, 36, 37, 5, 38, 39, 40, 41, 42, 43, 44, 45, 46, 47, 48, 49, 50, 51, 52, 53, 54, 55, 56, 57, 58, 59, 60, 61, 62, 63, 64, 65, 66, 67, 68, 69, 70, 71, 72, 73, 74, 75, 76, 77, 78, 79, 80, 81, 82, 83, 84, 85, 86, 87, 88, 89, 90, 91, 92, 93, 94, 95, 96, 97, 98, 99, 100, 101, 102, 103, 104, 122, 123, 124, 125, 126, 127, 128, 129, 130, 131, 132, 133, 134, 135, 136, 137, 138, 139, 140, 141, 142, 143, 144] (by decide +kernel) (by decide +kernel)
set_option maxRecDepth 20000 in
theorem gX5_leads_X4_know : GoodIn wsX5_leads (wsV RX5 155 RX4 yX4_know wsX4_know) := goodIn_app (goodIn_of _ (by decide +kernel)) ggX5_leads_X4_know
set_option maxRecDepth 20000 in
theorem ggX5_leads_X5_findReaches : GoodIn wsX5_leads wsX5_findReaches := goodIn_r _ [108, 2, 1, 109, 110, 111, 13, 112, 16, 113, 114, 5, 115, 116, 117, 118, 119, 120, 121, 122, 123, 124, 125, 126, 127, 128, 129, 130, 131, 132, 133] (by decide +kernel) (by decide +kernel)
set_option maxRecDepth 20000 in
theorem gX5_leads_X5_findReaches : GoodIn wsX5_leads (wsV RX5 162 RX5 yX5_findReaches wsX5_findReaches) := goodIn_app (goodIn_of _ (by decide +kernel)) ggX5_leads_X5_findReaches
set_option maxRecDepth 20000 in
theorem ggX5_lasts_X5_isBetween : GoodIn wsX5_lasts wsX5_isBetween := goodIn_r _ [5] (by decide +kernel) (by decide +kernel)
set_option maxRecDepth 20000 in
theorem gX5_lasts_X5_isBetween : GoodIn wsX5_lasts (va_wsS RX5 56 yX5_isBetween wsX5_isBetween) := goodIn_app (goodIn_of _ (by decide +kernel)) ggX5_lasts_X5_isBetween
set_option maxRecDepth 20000 in
theorem ggX5_lasts_X4_know : GoodIn wsX5_lasts wsX4_know := goodIn_r _ [10, 11, 12, 13, 14, 15, 16, 17, 18, 19, 9, 20, 21, 22, 23, 24, 25, 26, 27, 28, 29, 30, 31, 32, 33, 4, 34, 35, 36, 37, 38, 39, 40, 41, 42, 43, 44, 45, 46, 47, 48, 49, 50, 51, 52, 53, 54, 55, 56, 57, 58, 59, 60, 61, 62, 63, 64, 65, 66, 67, 68, 69, 70, 71, 72, 73, 74, 75, 76, 77, 78, 79, 80, 81, 82, 83, 84, 85, 86, 87, 88, 89, 90, 91, 92, 93, 94, 95, 96, 97, 98, 99, 100, 135, 136, 137, 138, 139, 140, 141, 142, 143, 144, 145, 146, 147, 148, 149, 150, 151, 152, 153, 154, 155, 156, 157] (by decide +kernel) (by decide +kernel)
set_option maxRecDepth 20000 in
theorem gX5_lasts_X4_know : GoodIn wsX5_lasts (wsV RX5 155 RX4 yX4_know wsX4_know) := goodIn_app (goodIn_of _ (by decide +kernel)) ggX5_lasts_X4_know
set_option maxRecDepth 20000 in
theorem ggX5_lasts_X4_keptOnes : GoodIn wsX5_lasts wsX4_keptOnes := goodIn_r _ [104, 12, 105, 106, 107, 9, 108, 31, 24, 88, 4, 89, 135, 136, 137, 138, 139, 140, 141, 142, 143, 144, 145, 146] (by decide +kernel) (by decide +kernel)
set_option maxRecDepth 20000 in
theorem gX5_lasts_X4_keptOnes : GoodIn wsX5_lasts (wsV RX5 165 RX4 yX4_keptOnes wsX4_keptOnes) := goodIn_app (goodIn_of _ (by decide +kernel)) ggX5_lasts_X4_keptOnes
set_option maxRecDepth 20000 in
theorem ggX5_lasts_X5_findReaches : GoodIn wsX5_lasts wsX5_findReaches := goodIn_r _ [112, 113, 1, 114, 115, 116, 9, 117, 12, 118, 119, 4, 120, 129, 130, 131, 132, 133, 134, 135, 136, 137, 138, 139, 140, 141, 142, 143, 144, 145, 146] (by decide +kernel) (by decide +kernel)
set_option maxRecDepth 20000 in
theorem gX5_lasts_X5_findReaches : GoodIn wsX5_lasts (wsV RX5 162 RX5 yX5_findReaches wsX5_findReaches) := goodIn_app (goodIn_of _ (by decide +kernel)) ggX5_lasts_X5_findReaches
set_option maxRecDepth 20000 in
theorem ggX5_lasts_X5_lastingOnes : GoodIn wsX5_lasts wsX5_lastingOnes := goodIn_r _ [124, 113, 118, 119, 4, 120, 129, 130, 131, 132, 133, 134] (by decide +kernel) (by decide +kernel)
set_option maxRecDepth 20000 in
theorem gX5_lasts_X5_lastingOnes : GoodIn wsX5_lasts (wsV RX5 168 RX5 yX5_lastingOnes wsX5_lastingOnes) := goodIn_app (goodIn_of _ (by decide +kernel)) ggX5_lasts_X5_lastingOnes
set_option maxRecDepth 20000 in
theorem ggX5_lasts_X5_countParts : GoodIn wsX5_lasts wsX5_countParts := goodIn_r _ [128, 113, 118, 119, 4, 120, 129, 130, 131, 132, 133, 134] (by decide +kernel) (by decide +kernel)
set_option maxRecDepth 20000 in
theorem gX5_lasts_X5_countParts : GoodIn wsX5_lasts (wsV RX5 171 RX5 yX5_countParts wsX5_countParts) := goodIn_app (goodIn_of _ (by decide +kernel)) ggX5_lasts_X5_countParts
set_option maxRecDepth 20000 in
theorem ggX5_lives_X5_isMeaning : GoodIn wsX5_lives wsX5_isMeaning := goodIn_r _ [6, 7, 8, 5, 9] (by decide +kernel) (by decide +kernel)
set_option maxRecDepth 20000 in
theorem gX5_lives_X5_isMeaning : GoodIn wsX5_lives (va_wsS RX5 52 yX5_isMeaning wsX5_isMeaning) := goodIn_app (goodIn_of _ (by decide +kernel)) ggX5_lives_X5_isMeaning
set_option maxRecDepth 20000 in
theorem ggX5_lives_X5_isTongue : GoodIn wsX5_lives wsX5_isTongue := goodIn_r _ [12, 7, 8, 5, 9] (by decide +kernel) (by decide +kernel)
set_option maxRecDepth 20000 in
theorem gX5_lives_X5_isTongue : GoodIn wsX5_lives (va_wsS RX5 103 yX5_isTongue wsX5_isTongue) := goodIn_app (goodIn_of _ (by decide +kernel)) ggX5_lives_X5_isTongue
set_option maxRecDepth 20000 in
theorem ggX5_lives_X5_isForm : GoodIn wsX5_lives wsX5_isForm := goodIn_r _ [15, 7, 8, 5, 9] (by decide +kernel) (by decide +kernel)
set_option maxRecDepth 20000 in
theorem gX5_lives_X5_isForm : GoodIn wsX5_lives (va_wsS RX5 106 yX5_isForm wsX5_isForm) := goodIn_app (goodIn_of _ (by decide +kernel)) ggX5_lives_X5_isForm
set_option maxRecDepth 20000 in
theorem ggX5_lives_X5_isPart : GoodIn wsX5_lives wsX5_isPart := goodIn_r _ [18, 7, 8, 5, 9] (by decide +kernel) (by decide +kernel)
set_option maxRecDepth 20000 in
theorem gX5_lives_X5_isPart : GoodIn wsX5_lives (va_wsS RX5 123 yX5_isPart wsX5_isPart) := goodIn_app (goodIn_of _ (by decide +kernel)) ggX5_lives_X5_isPart
set_option maxRecDepth 20000 in
theorem ggX5_lives_X5_refusalOfLives : GoodIn wsX5_lives wsX5_refusalOfLives := goodIn_r _ [22, 2, 7, 8, 5, 9, 23, 24, 25, 145, 146, 147, 148, 149, 150, 151, 152, 153, 154, 155, 156, 157, 158, 159, 160, 161, 162] (by decide +kernel) (by decide +kernel)
set_option maxRecDepth 20000 in
theorem gX5_lives_X5_refusalOfLives : GoodIn wsX5_lives (wsV RX5 151 RX5 yX5_refusalOfLives wsX5_refusalOfLives) := goodIn_app (goodIn_of _ (by decide +kernel)) ggX5_lives_X5_refusalOfLives
set_option maxRecDepth 20000 in
theorem ggX5_lives_X4_know : GoodIn wsX5_lives wsX4_know := goodIn_r _ [30, 31, 32, 33, 34, 35, 36, 37, 38, 39, 29, 40, 41, 42, 43, 44, 45, 46, 47, 48, 49, 50, 51, 52, 53, 5, 54, 55, 56, 57, 58, 59, 60, 61, 62, 63, 64, 65, 66, 67, 68, 69, 70, 71, 72, 73, 74, 75, 76, 77, 78, 79, 80, 81, 82, 83, 84, 85, 86, 87, 88, 89, 90, 91, 92, 93, 94, 95, 96, 97, 98, 99, 100, 101, 102, 103, 104, 105, 106, 107, 108, 109, 110, 111, 112, 113, 114, 115, 116, 117, 118, 119, 120, 151, 152, 153, 154, 155, 156, 157, 158, 159, 160, 161, 162, 163, 164, 165, 166, 167, 168, 169, 170, 171, 172, 173] (by decide +kernel) (by decide +kernel)
set_option maxRecDepth 20000 in
theorem gX5_lives_X4_know : GoodIn wsX5_lives (wsV RX5 155 RX4 yX4_know wsX4_know) := goodIn_app (goodIn_of _ (by decide +kernel)) ggX5_lives_X4_know
set_option maxRecDepth 20000 in
theorem ggX5_lives_X4_forward : GoodIn wsX5_lives wsX4_forward := goodIn_r _ [124, 125, 126, 32, 33, 34, 35, 36, 127, 128, 129, 29, 130, 55, 56, 57, 58, 151, 152, 153, 154, 155, 156, 157, 158, 159, 160, 161, 162] (by decide +kernel) (by decide +kernel)
set_option maxRecDepth 20000 in
theorem gX5_lives_X4_forward : GoodIn wsX5_lives (wsV RX5 158 RX4 yX4_forward wsX4_forward) := goodIn_app (goodIn_of _ (by decide +kernel)) ggX5_lives_X4_forward
set_option maxRecDepth 20000 in
theorem ggX5_lives_X5_oddsOfForm : GoodIn wsX5_lives wsX5_oddsOfForm := goodIn_r _ [133, 134, 53, 5, 54] (by decide +kernel) (by decide +kernel)
set_option maxRecDepth 20000 in
theorem gX5_lives_X5_oddsOfForm : GoodIn wsX5_lives (va_wsS RX5 174 yX5_oddsOfForm wsX5_oddsOfForm) := goodIn_app (goodIn_of _ (by decide +kernel)) ggX5_lives_X5_oddsOfForm
set_option maxRecDepth 20000 in
theorem ggX5_lives_X4_whole : GoodIn wsX5_lives wsX4_whole := goodIn_r _ [138, 51, 44, 108, 5, 109, 151, 152, 153, 154, 155, 156, 157, 158, 159, 160, 161, 162] (by decide +kernel) (by decide +kernel)
set_option maxRecDepth 20000 in
theorem gX5_lives_X4_whole : GoodIn wsX5_lives (wsV RX5 144 RX4 yX4_whole wsX4_whole) := goodIn_app (goodIn_of _ (by decide +kernel)) ggX5_lives_X4_whole
set_option maxRecDepth 20000 in
theorem ggX5_lives_X5_fraction : GoodIn wsX5_lives wsX5_fraction := goodIn_r _ [141, 1, 142, 143, 5, 144] (by decide +kernel) (by decide +kernel)
set_option maxRecDepth 20000 in
theorem gX5_lives_X5_fraction : GoodIn wsX5_lives (va_wsS RX5 132 yX5_fraction wsX5_fraction) := goodIn_app (goodIn_of _ (by decide +kernel)) ggX5_lives_X5_fraction
set_option maxRecDepth 20000 in
theorem ggX5_often_X5_isTongue : GoodIn wsX5_often wsX5_isTongue := goodIn_r _ [6, 7, 8, 5, 9] (by decide +kernel) (by decide +kernel)
set_option maxRecDepth 20000 in
theorem gX5_often_X5_isTongue : GoodIn wsX5_often (va_wsS RX5 103 yX5_isTongue wsX5_isTongue) := goodIn_app (goodIn_of _ (by decide +kernel)) ggX5_often_X5_isTongue
set_option maxRecDepth 20000 in
theorem ggX5_often_X5_isMeaning : GoodIn wsX5_often wsX5_isMeaning := goodIn_r _ [12, 7, 8, 5, 9] (by decide +kernel) (by decide +kernel)
set_option maxRecDepth 20000 in
theorem gX5_often_X5_isMeaning : GoodIn wsX5_often (va_wsS RX5 52 yX5_isMeaning wsX5_isMeaning) := goodIn_app (goodIn_of _ (by decide +kernel)) ggX5_often_X5_isMeaning
set_option maxRecDepth 20000 in
theorem ggX5_often_X5_isBetween : GoodIn wsX5_often wsX5_isBetween := goodIn_r _ [9] (by decide +kernel) (by decide +kernel)
set_option maxRecDepth 20000 in
theorem gX5_often_X5_isBetween : GoodIn wsX5_often (va_wsS RX5 56 yX5_isBetween wsX5_isBetween) := goodIn_app (goodIn_of _ (by decide +kernel)) ggX5_often_X5_isBetween
set_option maxRecDepth 20000 in
theorem ggX5_often_X5_refusalOf : GoodIn wsX5_often wsX5_refusalOf := goodIn_r _ [15] (by decide +kernel) (by decide +kernel)
set_option maxRecDepth 20000 in
theorem gX5_often_X5_refusalOf : GoodIn wsX5_often (va_wsS RX5 126 yX5_refusalOf wsX5_refusalOf) := goodIn_app (goodIn_of _ (by decide +kernel)) ggX5_often_X5_refusalOf
set_option maxRecDepth 20000 in
theorem ggX5_often_X4_rowOf : GoodIn wsX5_often wsX4_rowOf := goodIn_r _ [20, 21, 22, 23, 24, 25, 26, 27, 28, 29, 19, 30, 31, 32, 33, 5, 34, 35, 36, 37, 38, 39, 40, 41, 42, 43, 44, 45, 46, 47, 48, 49, 50, 51, 52, 53, 54, 55, 56, 57, 58, 59, 60, 61, 62, 63, 64, 65, 66, 67, 68, 69, 70, 71, 72, 73, 74, 75, 76, 77, 78, 79, 80, 81, 82, 83, 84, 85, 86, 87, 88, 89, 90, 91, 92, 93, 94, 95, 96, 97, 98, 99, 100, 115, 116, 117, 118, 119, 120, 121, 122, 123, 124, 125, 126, 127, 128, 129, 130, 131, 132, 133, 134, 135, 136, 137] (by decide +kernel) (by decide +kernel)
set_option maxRecDepth 20000 in
theorem gX5_often_X4_rowOf : GoodIn wsX5_often (wsV RX5 140 RX4 yX4_rowOf wsX4_rowOf) := goodIn_app (goodIn_of _ (by decide +kernel)) ggX5_often_X4_rowOf
set_option maxRecDepth 20000 in
theorem ggX5_often_X5_formOf : GoodIn wsX5_often wsX5_formOf := goodIn_r _ [34] (by decide +kernel) (by decide +kernel)
set_option maxRecDepth 20000 in
theorem gX5_often_X5_formOf : GoodIn wsX5_often (va_wsS RX5 178 yX5_formOf wsX5_formOf) := goodIn_app (goodIn_of _ (by decide +kernel)) ggX5_often_X5_formOf
set_option maxRecDepth 20000 in
theorem ggX5_often_X5_oddsOfForm : GoodIn wsX5_often wsX5_oddsOfForm := goodIn_r _ [104, 101, 33, 5, 34] (by decide +kernel) (by decide +kernel)
set_option maxRecDepth 20000 in
theorem gX5_often_X5_oddsOfForm : GoodIn wsX5_often (va_wsS RX5 174 yX5_oddsOfForm wsX5_oddsOfForm) := goodIn_app (goodIn_of _ (by decide +kernel)) ggX5_often_X5_oddsOfForm
set_option maxRecDepth 20000 in
theorem ggX5_often_X4_whole : GoodIn wsX5_often wsX4_whole := goodIn_r _ [108, 31, 24, 88, 5, 89, 115, 116, 117, 118, 119, 120, 121, 122, 123, 124, 125, 126] (by decide +kernel) (by decide +kernel)
set_option maxRecDepth 20000 in
theorem gX5_often_X4_whole : GoodIn wsX5_often (wsV RX5 144 RX4 yX4_whole wsX4_whole) := goodIn_app (goodIn_of _ (by decide +kernel)) ggX5_often_X4_whole
set_option maxRecDepth 20000 in
theorem ggX5_chosen_X5_isTongue : GoodIn wsX5_chosen wsX5_isTongue := goodIn_r _ [5, 6, 7, 4, 8] (by decide +kernel) (by decide +kernel)
set_option maxRecDepth 20000 in
theorem gX5_chosen_X5_isTongue : GoodIn wsX5_chosen (va_wsS RX5 103 yX5_isTongue wsX5_isTongue) := goodIn_app (goodIn_of _ (by decide +kernel)) ggX5_chosen_X5_isTongue
set_option maxRecDepth 20000 in
theorem ggX5_chosen_X2_firstThatTeaches : GoodIn wsX5_chosen wsX2_firstThatTeaches := goodIn_r _ [13, 14, 15, 16, 17, 12, 18, 19, 20, 21, 22, 23, 24, 25, 26, 27, 28, 29, 30, 31, 32, 33, 34, 35, 36, 37, 38, 39, 40, 4, 41, 42, 43, 44, 45, 46, 47, 48, 49, 50, 51, 52, 53, 54, 55, 56, 57, 58, 59, 60, 61, 62, 63, 64, 65, 66, 67, 68, 69, 70, 71, 72, 73, 74, 90, 91, 92, 93, 94, 95, 96, 97, 98, 99, 100] (by decide +kernel) (by decide +kernel)
set_option maxRecDepth 20000 in
theorem gX5_chosen_X2_firstThatTeaches : GoodIn wsX5_chosen (wsV RX5 184 RX2 yX2_firstThatTeaches wsX2_firstThatTeaches) := goodIn_app (goodIn_of _ (by decide +kernel)) ggX5_chosen_X2_firstThatTeaches
set_option maxRecDepth 20000 in
theorem ggX5_chosen_X2_sizeOf : GoodIn wsX5_chosen wsX2_sizeOf := goodIn_r _ [78, 79] (by decide +kernel) (by decide +kernel)
set_option maxRecDepth 20000 in
theorem gX5_chosen_X2_sizeOf : GoodIn wsX5_chosen (wsV RX5 187 RX2 yX2_sizeOf wsX2_sizeOf) := goodIn_app (goodIn_of _ (by decide +kernel)) ggX5_chosen_X2_sizeOf
set_option maxRecDepth 20000 in
theorem ggX5_chosen_X5_isBetween : GoodIn wsX5_chosen wsX5_isBetween := goodIn_r _ [8] (by decide +kernel) (by decide +kernel)
set_option maxRecDepth 20000 in
theorem gX5_chosen_X5_isBetween : GoodIn wsX5_chosen (va_wsS RX5 56 yX5_isBetween wsX5_isBetween) := goodIn_app (goodIn_of _ (by decide +kernel)) ggX5_chosen_X5_isBetween
set_option maxRecDepth 20000 in
theorem ggX5_chosen_X2_sayingOf : GoodIn wsX5_chosen wsX2_sayingOf := goodIn_r _ [83, 20, 19, 90, 91, 92, 93, 94, 95] (by decide +kernel) (by decide +kernel)
set_option maxRecDepth 20000 in
theorem gX5_chosen_X2_sayingOf : GoodIn wsX5_chosen (wsV RX5 190 RX2 yX2_sayingOf wsX2_sayingOf) := goodIn_app (goodIn_of _ (by decide +kernel)) ggX5_chosen_X2_sayingOf
set_option maxRecDepth 20000 in
theorem ggX5_back_X5_isTongue : GoodIn wsX5_back wsX5_isTongue := goodIn_r _ [6, 7, 8, 5, 9] (by decide +kernel) (by decide +kernel)
set_option maxRecDepth 20000 in
theorem gX5_back_X5_isTongue : GoodIn wsX5_back (va_wsS RX5 103 yX5_isTongue wsX5_isTongue) := goodIn_app (goodIn_of _ (by decide +kernel)) ggX5_back_X5_isTongue
set_option maxRecDepth 20000 in
theorem ggX5_back_X5_isPart : GoodIn wsX5_back wsX5_isPart := goodIn_r _ [12, 7, 8, 5, 9] (by decide +kernel) (by decide +kernel)
set_option maxRecDepth 20000 in
theorem gX5_back_X5_isPart : GoodIn wsX5_back (va_wsS RX5 123 yX5_isPart wsX5_isPart) := goodIn_app (goodIn_of _ (by decide +kernel)) ggX5_back_X5_isPart
set_option maxRecDepth 20000 in
theorem ggX5_back_X5_refusalOfLives : GoodIn wsX5_back wsX5_refusalOfLives := goodIn_r _ [16, 2, 7, 8, 5, 9, 17, 18, 19, 131, 132, 133, 134, 135, 136, 137, 138, 139, 140, 141, 142, 143, 144, 145, 146, 147, 148] (by decide +kernel) (by decide +kernel)
set_option maxRecDepth 20000 in
theorem gX5_back_X5_refusalOfLives : GoodIn wsX5_back (wsV RX5 151 RX5 yX5_refusalOfLives wsX5_refusalOfLives) := goodIn_app (goodIn_of _ (by decide +kernel)) ggX5_back_X5_refusalOfLives
set_option maxRecDepth 20000 in
theorem ggX5_back_X4_know : GoodIn wsX5_back wsX4_know := goodIn_r _ [24, 25, 26, 27, 28, 29, 30, 31, 32, 33, 23, 34, 35, 36, 37, 38, 39, 40, 41, 42, 43, 44, 45, 46, 47, 5, 48, 49, 50, 51, 52, 53, 54, 55, 56, 57, 58, 59, 60, 61, 62, 63, 64, 65, 66, 67, 68, 69, 70, 71, 72, 73, 74, 75, 76, 77, 78, 79, 80, 81, 82, 83, 84, 85, 86, 87, 88, 89, 90, 91, 92, 93, 94, 95, 96, 97, 98, 99, 100, 101, 102, 103, 104, 105, 106, 107, 108, 109, 110, 111, 112, 113, 114, 137, 138, 139, 140, 141, 142, 143, 144, 145, 146, 147, 148, 149, 150, 151, 152, 153, 154, 155, 156, 157, 158, 159] (by decide +kernel) (by decide +kernel)
set_option maxRecDepth 20000 in
theorem gX5_back_X4_know : GoodIn wsX5_back (wsV RX5 155 RX4 yX4_know wsX4_know) := goodIn_app (goodIn_of _ (by decide +kernel)) ggX5_back_X4_know
set_option maxRecDepth 20000 in
theorem ggX5_back_X4_backward : GoodIn wsX5_back wsX4_backward := goodIn_r _ [118, 119, 26, 120, 27, 28, 29, 30, 121, 122, 123, 23, 124, 49, 50, 51, 52, 137, 138, 139, 140, 141, 142, 143, 144, 145, 146, 147, 148] (by decide +kernel) (by decide +kernel)
set_option maxRecDepth 20000 in
theorem gX5_back_X4_backward : GoodIn wsX5_back (wsV RX5 193 RX4 yX4_backward wsX4_backward) := goodIn_app (goodIn_of _ (by decide +kernel)) ggX5_back_X4_backward
set_option maxRecDepth 20000 in
theorem ggX5_back_X5_fraction : GoodIn wsX5_back wsX5_fraction := goodIn_r _ [127, 1, 128, 129, 5, 130] (by decide +kernel) (by decide +kernel)
set_option maxRecDepth 20000 in
theorem gX5_back_X5_fraction : GoodIn wsX5_back (va_wsS RX5 132 yX5_fraction wsX5_fraction) := goodIn_app (goodIn_of _ (by decide +kernel)) ggX5_back_X5_fraction
set_option maxRecDepth 20000 in
theorem ggX5_guess_X5_isTongue : GoodIn wsX5_guess wsX5_isTongue := goodIn_r _ [5, 6, 7, 4, 8] (by decide +kernel) (by decide +kernel)
set_option maxRecDepth 20000 in
theorem gX5_guess_X5_isTongue : GoodIn wsX5_guess (va_wsS RX5 103 yX5_isTongue wsX5_isTongue) := goodIn_app (goodIn_of _ (by decide +kernel)) ggX5_guess_X5_isTongue
set_option maxRecDepth 20000 in
theorem ggX5_guess_X5_isBetween : GoodIn wsX5_guess wsX5_isBetween := goodIn_r _ [8] (by decide +kernel) (by decide +kernel)
set_option maxRecDepth 20000 in
theorem gX5_guess_X5_isBetween : GoodIn wsX5_guess (va_wsS RX5 56 yX5_isBetween wsX5_isBetween) := goodIn_app (goodIn_of _ (by decide +kernel)) ggX5_guess_X5_isBetween
set_option maxRecDepth 20000 in
theorem ggX5_guess_X5_refusalOfLives : GoodIn wsX5_guess wsX5_refusalOfLives := goodIn_r _ [12, 1, 6, 7, 4, 8, 13, 14, 15, 121, 122, 123, 124, 125, 126, 127, 128, 129, 130, 131, 132, 133, 134, 135, 136, 137, 138] (by decide +kernel) (by decide +kernel)
set_option maxRecDepth 20000 in
theorem gX5_guess_X5_refusalOfLives : GoodIn wsX5_guess (wsV RX5 151 RX5 yX5_refusalOfLives wsX5_refusalOfLives) := goodIn_app (goodIn_of _ (by decide +kernel)) ggX5_guess_X5_refusalOfLives
set_option maxRecDepth 20000 in
theorem ggX5_guess_X4_know : GoodIn wsX5_guess wsX4_know := goodIn_r _ [20, 21, 22, 23, 24, 25, 26, 27, 28, 29, 19, 30, 31, 32, 33, 34, 35, 36, 37, 38, 39, 40, 41, 42, 43, 4, 44, 45, 46, 47, 48, 49, 50, 51, 52, 53, 54, 55, 56, 57, 58, 59, 60, 61, 62, 63, 64, 65, 66, 67, 68, 69, 70, 71, 72, 73, 74, 75, 76, 77, 78, 79, 80, 81, 82, 83, 84, 85, 86, 87, 88, 89, 90, 91, 92, 93, 94, 95, 96, 97, 98, 99, 100, 101, 102, 103, 104, 105, 106, 107, 108, 109, 110, 127, 128, 129, 130, 131, 132, 133, 134, 135, 136, 137, 138, 139, 140, 141, 142, 143, 144, 145, 146, 147, 148, 149] (by decide +kernel) (by decide +kernel)
set_option maxRecDepth 20000 in
theorem gX5_guess_X4_know : GoodIn wsX5_guess (wsV RX5 155 RX4 yX4_know wsX4_know) := goodIn_app (goodIn_of _ (by decide +kernel)) ggX5_guess_X4_know
set_option maxRecDepth 20000 in
theorem ggX5_guess_X4_backward : GoodIn wsX5_guess wsX4_backward := goodIn_r _ [114, 115, 22, 116, 23, 24, 25, 26, 117, 118, 119, 19, 120, 45, 46, 47, 48, 127, 128, 129, 130, 131, 132, 133, 134, 135, 136, 137, 138] (by decide +kernel) (by decide +kernel)
set_option maxRecDepth 20000 in
theorem gX5_guess_X4_backward : GoodIn wsX5_guess (wsV RX5 193 RX4 yX4_backward wsX4_backward) := goodIn_app (goodIn_of _ (by decide +kernel)) ggX5_guess_X4_backward
set_option maxRecDepth 20000 in
theorem ggX5_changeSlip_X5_learnerChanged : GoodIn wsX5_changeSlip wsX5_learnerChanged := goodIn_r _ [6, 7, 8, 9, 10, 11, 12, 13, 14, 15, 16, 17, 18, 19, 20, 21, 22, 23, 24, 28, 29, 30, 31, 32, 33, 34, 35, 36, 37, 38, 39, 40, 41, 42, 43, 44, 45] (by decide +kernel) (by decide +kernel)
set_option maxRecDepth 20000 in
theorem gX5_changeSlip_X5_learnerChanged : GoodIn wsX5_changeSlip (wsV RX5 100 RX5 yX5_learnerChanged wsX5_learnerChanged) := goodIn_app (goodIn_of _ (by decide +kernel)) ggX5_changeSlip_X5_learnerChanged
set_option maxRecDepth 20000 in
theorem ggX5_changeLearner_X5_learnerChanged : GoodIn wsX5_changeLearner wsX5_learnerChanged := goodIn_r _ [6, 7, 8, 9, 10, 11, 12, 13, 14, 15, 16, 17, 18, 19, 20, 21, 22, 23, 24, 28, 29, 30, 31, 32, 33, 34, 35, 36, 37, 38, 39, 40, 41, 42, 43, 44, 45] (by decide +kernel) (by decide +kernel)
set_option maxRecDepth 20000 in
theorem gX5_changeLearner_X5_learnerChanged : GoodIn wsX5_changeLearner (wsV RX5 100 RX5 yX5_learnerChanged wsX5_learnerChanged) := goodIn_app (goodIn_of _ (by decide +kernel)) ggX5_changeLearner_X5_learnerChanged
set_option maxRecDepth 20000 in
theorem ggX5_learnerChanged_X2_forgetChoices : GoodIn wsX5_learnerChanged wsX2_forgetChoices := goodIn_r _ [7, 8, 9, 10, 11, 12, 31, 32, 33, 34, 35, 36] (by decide +kernel) (by decide +kernel)
set_option maxRecDepth 20000 in
theorem gX5_learnerChanged_X2_forgetChoices : GoodIn wsX5_learnerChanged (wsV RX5 202 RX2 yX2_forgetChoices wsX2_forgetChoices) := goodIn_app (goodIn_of _ (by decide +kernel)) ggX5_learnerChanged_X2_forgetChoices
set_option maxRecDepth 20000 in
theorem ggX5_findReaches_X4_nextOnes : GoodIn wsX5_findReaches wsX4_nextOnes := goodIn_r _ [7, 8, 19, 20, 21, 22, 23, 24, 25, 26, 27, 28, 29, 30] (by decide +kernel) (by decide +kernel)
set_option maxRecDepth 20000 in
theorem gX5_findReaches_X4_nextOnes : GoodIn wsX5_findReaches (wsV RX5 205 RX4 yX4_nextOnes wsX4_nextOnes) := goodIn_app (goodIn_of _ (by decide +kernel)) ggX5_findReaches_X4_nextOnes
set_option maxRecDepth 20000 in
theorem ggX5_findReaches_X5_isIn : GoodIn wsX5_findReaches wsX5_isIn := goodIn_r _ [12] (by decide +kernel) (by decide +kernel)
set_option maxRecDepth 20000 in
theorem gX5_findReaches_X5_isIn : GoodIn wsX5_findReaches (va_wsS RX5 208 yX5_isIn wsX5_isIn) := goodIn_app (goodIn_of _ (by decide +kernel)) ggX5_findReaches_X5_isIn
set_option maxRecDepth 20000 in
theorem ggX5_lastingOnes_X5_isIn : GoodIn wsX5_lastingOnes wsX5_isIn := goodIn_r _ [5] (by decide +kernel) (by decide +kernel)
set_option maxRecDepth 20000 in
theorem gX5_lastingOnes_X5_isIn : GoodIn wsX5_lastingOnes (va_wsS RX5 208 yX5_isIn wsX5_isIn) := goodIn_app (goodIn_of _ (by decide +kernel)) ggX5_lastingOnes_X5_isIn
set_option maxRecDepth 20000 in
theorem ggX5_countParts_X5_isIn : GoodIn wsX5_countParts wsX5_isIn := goodIn_r _ [5] (by decide +kernel) (by decide +kernel)
set_option maxRecDepth 20000 in
theorem gX5_countParts_X5_isIn : GoodIn wsX5_countParts (va_wsS RX5 208 yX5_isIn wsX5_isIn) := goodIn_app (goodIn_of _ (by decide +kernel)) ggX5_countParts_X5_isIn
set_option maxRecDepth 20000 in
theorem ggX5_oddsOfForm_X5_formOf : GoodIn wsX5_oddsOfForm wsX5_formOf := goodIn_r _ [4] (by decide +kernel) (by decide +kernel)
set_option maxRecDepth 20000 in
theorem gX5_oddsOfForm_X5_formOf : GoodIn wsX5_oddsOfForm (va_wsS RX5 178 yX5_formOf wsX5_formOf) := goodIn_app (goodIn_of _ (by decide +kernel)) ggX5_oddsOfForm_X5_formOf
set_option maxRecDepth 20000 in
theorem ggX5_refusalOfLives_X5_isBetween : GoodIn wsX5_refusalOfLives wsX5_isBetween := goodIn_r _ [5] (by decide +kernel) (by decide +kernel)
set_option maxRecDepth 20000 in
theorem gX5_refusalOfLives_X5_isBetween : GoodIn wsX5_refusalOfLives (va_wsS RX5 56 yX5_isBetween wsX5_isBetween) := goodIn_app (goodIn_of _ (by decide +kernel)) ggX5_refusalOfLives_X5_isBetween
set_option maxRecDepth 20000 in
theorem ggX5_refusalOfLives_X5_refusalOf : GoodIn wsX5_refusalOfLives wsX5_refusalOf := goodIn_r _ [8] (by decide +kernel) (by decide +kernel)
set_option maxRecDepth 20000 in
theorem gX5_refusalOfLives_X5_refusalOf : GoodIn wsX5_refusalOfLives (va_wsS RX5 126 yX5_refusalOf wsX5_refusalOf) := goodIn_app (goodIn_of _ (by decide +kernel)) ggX5_refusalOfLives_X5_refusalOf
set_option maxRecDepth 20000 in
theorem ggX5_isTongue_X5_isBetween : GoodIn wsX5_isTongue wsX5_isBetween := goodIn_r _ [4] (by decide +kernel) (by decide +kernel)
set_option maxRecDepth 20000 in
theorem gX5_isTongue_X5_isBetween : GoodIn wsX5_isTongue (va_wsS RX5 56 yX5_isBetween wsX5_isBetween) := goodIn_app (goodIn_of _ (by decide +kernel)) ggX5_isTongue_X5_isBetween
set_option maxRecDepth 20000 in
theorem ggX5_isMeaning_X5_isBetween : GoodIn wsX5_isMeaning wsX5_isBetween := goodIn_r _ [4] (by decide +kernel) (by decide +kernel)
set_option maxRecDepth 20000 in
theorem gX5_isMeaning_X5_isBetween : GoodIn wsX5_isMeaning (va_wsS RX5 56 yX5_isBetween wsX5_isBetween) := goodIn_app (goodIn_of _ (by decide +kernel)) ggX5_isMeaning_X5_isBetween
set_option maxRecDepth 20000 in
theorem ggX5_isForm_X5_isBetween : GoodIn wsX5_isForm wsX5_isBetween := goodIn_r _ [4] (by decide +kernel) (by decide +kernel)
set_option maxRecDepth 20000 in
theorem gX5_isForm_X5_isBetween : GoodIn wsX5_isForm (va_wsS RX5 56 yX5_isBetween wsX5_isBetween) := goodIn_app (goodIn_of _ (by decide +kernel)) ggX5_isForm_X5_isBetween
set_option maxRecDepth 20000 in
theorem ggX5_isPart_X5_isBetween : GoodIn wsX5_isPart wsX5_isBetween := goodIn_r _ [4] (by decide +kernel) (by decide +kernel)
set_option maxRecDepth 20000 in
theorem gX5_isPart_X5_isBetween : GoodIn wsX5_isPart (va_wsS RX5 56 yX5_isBetween wsX5_isBetween) := goodIn_app (goodIn_of _ (by decide +kernel)) ggX5_isPart_X5_isBetween
set_option maxRecDepth 20000 in
theorem ggX5_fraction_X5_commonDivisor : GoodIn wsX5_fraction wsX5_commonDivisor := goodIn_r _ [5] (by decide +kernel) (by decide +kernel)
set_option maxRecDepth 20000 in
theorem gX5_fraction_X5_commonDivisor : GoodIn wsX5_fraction (va_wsS RX5 212 yX5_commonDivisor wsX5_commonDivisor) := goodIn_app (goodIn_of _ (by decide +kernel)) ggX5_fraction_X5_commonDivisor
set_option maxRecDepth 20000 in
theorem ggX6_isMeaning_X6_in : GoodIn wsX6_isMeaning wsX6_in := goodIn_r _ [5] (by decide +kernel) (by decide +kernel)
set_option maxRecDepth 20000 in
theorem gX6_isMeaning_X6_in : GoodIn wsX6_isMeaning (va_wsS RX6 53 yX6_in wsX6_in) := goodIn_app (goodIn_of _ (by decide +kernel)) ggX6_isMeaning_X6_in
set_option maxRecDepth 20000 in
theorem ggX6_isTongue_X6_in : GoodIn wsX6_isTongue wsX6_in := goodIn_r _ [5] (by decide +kernel) (by decide +kernel)
set_option maxRecDepth 20000 in
theorem gX6_isTongue_X6_in : GoodIn wsX6_isTongue (va_wsS RX6 53 yX6_in wsX6_in) := goodIn_app (goodIn_of _ (by decide +kernel)) ggX6_isTongue_X6_in
set_option maxRecDepth 20000 in
theorem ggX6_isPart_X6_in : GoodIn wsX6_isPart wsX6_in := goodIn_r _ [4] (by decide +kernel) (by decide +kernel)
set_option maxRecDepth 20000 in
theorem gX6_isPart_X6_in : GoodIn wsX6_isPart (va_wsS RX6 53 yX6_in wsX6_in) := goodIn_app (goodIn_of _ (by decide +kernel)) ggX6_isPart_X6_in
set_option maxRecDepth 20000 in
theorem ggX6_weight_X6_isMeaning : GoodIn wsX6_weight wsX6_isMeaning := goodIn_r _ [6, 7, 8, 9, 5, 10] (by decide +kernel) (by decide +kernel)
end
section
set_option maxRecDepth 20000 in
theorem gX6_weight_X6_isMeaning : GoodIn wsX6_weight (va_wsS RX6 59 yX6_isMeaning wsX6_isMeaning) := goodIn_app (goodIn_of _ (by decide +kernel)) ggX6_weight_X6_isMeaning
set_option maxRecDepth 20000 in
theorem ggX6_weight_X6_in : GoodIn wsX6_weight wsX6_in := goodIn_r _ [10] (by decide +kernel) (by decide +kernel)
set_option maxRecDepth 20000 in
theorem gX6_weight_X6_in : GoodIn wsX6_weight (va_wsS RX6 53 yX6_in wsX6_in) := goodIn_app (goodIn_of _ (by decide +kernel)) ggX6_weight_X6_in
set_option maxRecDepth 20000 in
theorem ggX6_set_X6_in : GoodIn wsX6_set wsX6_in := goodIn_r _ [10] (by decide +kernel) (by decide +kernel)
set_option maxRecDepth 20000 in
theorem gX6_set_X6_in : GoodIn wsX6_set (va_wsS RX6 53 yX6_in wsX6_in) := goodIn_app (goodIn_of _ (by decide +kernel)) ggX6_set_X6_in
set_option maxRecDepth 20000 in
theorem ggX6_set_X6_numberIs : GoodIn wsX6_set wsX6_numberIs := goodIn_r _ [14, 4, 5, 6, 15, 16, 17, 18, 19, 20, 21, 22, 23, 24, 25, 26, 27, 28, 29, 30, 31, 32, 33, 34] (by decide +kernel) (by decide +kernel)
set_option maxRecDepth 20000 in
theorem gX6_set_X6_numberIs : GoodIn wsX6_set (wsV RX6 70 RX6 yX6_numberIs wsX6_numberIs) := goodIn_app (goodIn_of _ (by decide +kernel)) ggX6_set_X6_numberIs
set_option maxRecDepth 20000 in
theorem ggX6_say_X6_in : GoodIn wsX6_say wsX6_in := goodIn_r _ [8] (by decide +kernel) (by decide +kernel)
set_option maxRecDepth 20000 in
theorem gX6_say_X6_in : GoodIn wsX6_say (va_wsS RX6 53 yX6_in wsX6_in) := goodIn_app (goodIn_of _ (by decide +kernel)) ggX6_say_X6_in
set_option maxRecDepth 20000 in
theorem ggX6_fault_X6_in : GoodIn wsX6_fault wsX6_in := goodIn_r _ [8] (by decide +kernel) (by decide +kernel)
set_option maxRecDepth 20000 in
theorem gX6_fault_X6_in : GoodIn wsX6_fault (va_wsS RX6 53 yX6_in wsX6_in) := goodIn_app (goodIn_of _ (by decide +kernel)) ggX6_fault_X6_in
set_option maxRecDepth 20000 in
theorem ggX6_before_X6_fault : GoodIn wsX6_before wsX6_fault := goodIn_r _ [9, 1, 4, 10, 11, 12, 13, 8, 14, 15, 16, 17, 18, 19, 20, 21, 22, 23, 24, 25, 26, 27, 28, 29, 30, 31, 32, 33, 34] (by decide +kernel) (by decide +kernel)
set_option maxRecDepth 20000 in
theorem gX6_before_X6_fault : GoodIn wsX6_before (wsV RX6 85 RX6 yX6_fault wsX6_fault) := goodIn_app (goodIn_of _ (by decide +kernel)) ggX6_before_X6_fault
set_option maxRecDepth 20000 in
theorem ggX6_number_X6_isTongue : GoodIn wsX6_number wsX6_isTongue := goodIn_r _ [4, 5, 6, 7, 3, 8] (by decide +kernel) (by decide +kernel)
set_option maxRecDepth 20000 in
theorem gX6_number_X6_isTongue : GoodIn wsX6_number (va_wsS RX6 92 yX6_isTongue wsX6_isTongue) := goodIn_app (goodIn_of _ (by decide +kernel)) ggX6_number_X6_isTongue
set_option maxRecDepth 20000 in
theorem ggX6_number_X6_beforehand : GoodIn wsX6_number wsX6_beforehand := goodIn_r _ [12, 13, 14, 15, 16, 17, 18, 19, 20, 21, 22, 23, 24, 25, 26, 27, 28, 29, 30, 31, 32, 33, 34] (by decide +kernel) (by decide +kernel)
set_option maxRecDepth 20000 in
theorem gX6_number_X6_beforehand : GoodIn wsX6_number (wsV RX6 95 RX6 yX6_beforehand wsX6_beforehand) := goodIn_app (goodIn_of _ (by decide +kernel)) ggX6_number_X6_beforehand
set_option maxRecDepth 20000 in
theorem ggX6_hear_X6_isMeaning : GoodIn wsX6_hear wsX6_isMeaning := goodIn_r _ [6, 7, 8, 9, 5, 10] (by decide +kernel) (by decide +kernel)
set_option maxRecDepth 20000 in
theorem gX6_hear_X6_isMeaning : GoodIn wsX6_hear (va_wsS RX6 59 yX6_isMeaning wsX6_isMeaning) := goodIn_app (goodIn_of _ (by decide +kernel)) ggX6_hear_X6_isMeaning
set_option maxRecDepth 20000 in
theorem ggX6_hear_X6_in : GoodIn wsX6_hear wsX6_in := goodIn_r _ [10] (by decide +kernel) (by decide +kernel)
set_option maxRecDepth 20000 in
theorem gX6_hear_X6_in : GoodIn wsX6_hear (va_wsS RX6 53 yX6_in wsX6_in) := goodIn_app (goodIn_of _ (by decide +kernel)) ggX6_hear_X6_in
set_option maxRecDepth 20000 in
theorem ggX6_likenessOf_X6_beforehand : GoodIn wsX6_likenessOf wsX6_beforehand := goodIn_r _ [8, 9, 10, 14, 15, 16, 17, 18, 19, 20, 21, 22, 23, 24, 25, 26, 27, 28, 29, 30, 31, 32, 33] (by decide +kernel) (by decide +kernel)
set_option maxRecDepth 20000 in
theorem gX6_likenessOf_X6_beforehand : GoodIn wsX6_likenessOf (wsV RX6 95 RX6 yX6_beforehand wsX6_beforehand) := goodIn_app (goodIn_of _ (by decide +kernel)) ggX6_likenessOf_X6_beforehand
set_option maxRecDepth 20000 in
theorem ggX6_likenessOf_X6_hasForm : GoodIn wsX6_likenessOf wsX6_hasForm := goodIn_r _ [13] (by decide +kernel) (by decide +kernel)
set_option maxRecDepth 20000 in
theorem gX6_likenessOf_X6_hasForm : GoodIn wsX6_likenessOf (va_wsS RX6 104 yX6_hasForm wsX6_hasForm) := goodIn_app (goodIn_of _ (by decide +kernel)) ggX6_likenessOf_X6_hasForm
set_option maxRecDepth 20000 in
theorem ggX6_likeness_X6_isTongue : GoodIn wsX6_likeness wsX6_isTongue := goodIn_r _ [5, 6, 7, 8, 4, 9] (by decide +kernel) (by decide +kernel)
set_option maxRecDepth 20000 in
theorem gX6_likeness_X6_isTongue : GoodIn wsX6_likeness (va_wsS RX6 92 yX6_isTongue wsX6_isTongue) := goodIn_app (goodIn_of _ (by decide +kernel)) ggX6_likeness_X6_isTongue
set_option maxRecDepth 20000 in
theorem ggX6_likeness_X6_layHeard : GoodIn wsX6_likeness wsX6_layHeard := goodIn_r _ [13, 14, 15, 16, 17, 32, 33, 34, 35, 36, 37, 38, 39, 40, 41, 42, 43, 44, 45, 46, 47, 48, 49, 50, 51] (by decide +kernel) (by decide +kernel)
set_option maxRecDepth 20000 in
theorem gX6_likeness_X6_layHeard : GoodIn wsX6_likeness (wsV RX6 110 RX6 yX6_layHeard wsX6_layHeard) := goodIn_app (goodIn_of _ (by decide +kernel)) ggX6_likeness_X6_layHeard
set_option maxRecDepth 20000 in
theorem ggX6_likeness_X6_likenessOf : GoodIn wsX6_likeness wsX6_likenessOf := goodIn_r _ [21, 17, 14, 22, 23, 24, 25, 4, 26, 27, 28, 29, 30, 31, 32, 33, 34, 35, 36, 37, 38, 39, 40, 41, 42, 43, 44, 45, 46, 47, 48, 49, 50, 51] (by decide +kernel) (by decide +kernel)
set_option maxRecDepth 20000 in
theorem gX6_likeness_X6_likenessOf : GoodIn wsX6_likeness (wsV RX6 113 RX6 yX6_likenessOf wsX6_likenessOf) := goodIn_app (goodIn_of _ (by decide +kernel)) ggX6_likeness_X6_likenessOf
set_option maxRecDepth 20000 in
theorem ggX6_thinks_X6_isTongue : GoodIn wsX6_thinks wsX6_isTongue := goodIn_r _ [6, 7, 8, 9, 5, 10] (by decide +kernel) (by decide +kernel)
set_option maxRecDepth 20000 in
theorem gX6_thinks_X6_isTongue : GoodIn wsX6_thinks (va_wsS RX6 92 yX6_isTongue wsX6_isTongue) := goodIn_app (goodIn_of _ (by decide +kernel)) ggX6_thinks_X6_isTongue
set_option maxRecDepth 20000 in
theorem ggX6_thinks_X6_isPart : GoodIn wsX6_thinks wsX6_isPart := goodIn_r _ [13, 8, 9, 5, 10] (by decide +kernel) (by decide +kernel)
set_option maxRecDepth 20000 in
theorem gX6_thinks_X6_isPart : GoodIn wsX6_thinks (va_wsS RX6 119 yX6_isPart wsX6_isPart) := goodIn_app (goodIn_of _ (by decide +kernel)) ggX6_thinks_X6_isPart
set_option maxRecDepth 20000 in
theorem ggX6_thinks_X6_layHeard : GoodIn wsX6_thinks wsX6_layHeard := goodIn_r _ [17, 18, 19, 20, 21, 39, 40, 41, 42, 43, 44, 45, 46, 47, 48, 49, 50, 51, 52, 53, 54, 55, 56, 57, 58] (by decide +kernel) (by decide +kernel)
set_option maxRecDepth 20000 in
theorem gX6_thinks_X6_layHeard : GoodIn wsX6_thinks (wsV RX6 110 RX6 yX6_layHeard wsX6_layHeard) := goodIn_app (goodIn_of _ (by decide +kernel)) ggX6_thinks_X6_layHeard
set_option maxRecDepth 20000 in
theorem ggX6_thinks_X6_likenessOf : GoodIn wsX6_thinks wsX6_likenessOf := goodIn_r _ [25, 21, 18, 26, 27, 28, 29, 5, 30, 31, 32, 33, 34, 35, 39, 40, 41, 42, 43, 44, 45, 46, 47, 48, 49, 50, 51, 52, 53, 54, 55, 56, 57, 58] (by decide +kernel) (by decide +kernel)
set_option maxRecDepth 20000 in
theorem gX6_thinks_X6_likenessOf : GoodIn wsX6_thinks (wsV RX6 113 RX6 yX6_likenessOf wsX6_likenessOf) := goodIn_app (goodIn_of _ (by decide +kernel)) ggX6_thinks_X6_likenessOf
set_option maxRecDepth 20000 in
theorem ggX6_thinks_X6_lowest : GoodIn wsX6_thinks wsX6_lowest := goodIn_r _ [38] (by decide +kernel) (by decide +kernel)
set_option maxRecDepth 20000 in
theorem gX6_thinks_X6_lowest : GoodIn wsX6_thinks (va_wsS RX6 124 yX6_lowest wsX6_lowest) := goodIn_app (goodIn_of _ (by decide +kernel)) ggX6_thinks_X6_lowest
set_option maxRecDepth 20000 in
theorem ggX6_hasAll_X6_hasForm : GoodIn wsX6_hasAll wsX6_hasForm := goodIn_r _ [6] (by decide +kernel) (by decide +kernel)
set_option maxRecDepth 20000 in
theorem gX6_hasAll_X6_hasForm : GoodIn wsX6_hasAll (va_wsS RX6 104 yX6_hasForm wsX6_hasForm) := goodIn_app (goodIn_of _ (by decide +kernel)) ggX6_hasAll_X6_hasForm
set_option maxRecDepth 20000 in
theorem ggX6_taken_X6_hasAll : GoodIn wsX6_taken wsX6_hasAll := goodIn_r _ [6, 7, 8, 9, 10, 5, 11, 26, 27, 28, 29, 30, 31, 32, 33, 34, 35, 36, 37, 38, 39, 40, 41, 42, 43, 44, 45] (by decide +kernel) (by decide +kernel)
set_option maxRecDepth 20000 in
theorem gX6_taken_X6_hasAll : GoodIn wsX6_taken (wsV RX6 128 RX6 yX6_hasAll wsX6_hasAll) := goodIn_app (goodIn_of _ (by decide +kernel)) ggX6_taken_X6_hasAll
set_option maxRecDepth 20000 in
theorem ggX6_taken_X6_likenessOf : GoodIn wsX6_taken wsX6_likenessOf := goodIn_r _ [15, 7, 8, 16, 17, 18, 19, 5, 20, 21, 22, 9, 10, 11, 26, 27, 28, 29, 30, 31, 32, 33, 34, 35, 36, 37, 38, 39, 40, 41, 42, 43, 44, 45] (by decide +kernel) (by decide +kernel)
set_option maxRecDepth 20000 in
theorem gX6_taken_X6_likenessOf : GoodIn wsX6_taken (wsV RX6 113 RX6 yX6_likenessOf wsX6_likenessOf) := goodIn_app (goodIn_of _ (by decide +kernel)) ggX6_taken_X6_likenessOf
set_option maxRecDepth 20000 in
theorem ggX6_taken_X6_ones : GoodIn wsX6_taken wsX6_ones := goodIn_r _ [25] (by decide +kernel) (by decide +kernel)
set_option maxRecDepth 20000 in
theorem gX6_taken_X6_ones : GoodIn wsX6_taken (va_wsS RX6 131 yX6_ones wsX6_ones) := goodIn_app (goodIn_of _ (by decide +kernel)) ggX6_taken_X6_ones
set_option maxRecDepth 20000 in
theorem ggX6_takes_X6_layHeard : GoodIn wsX6_takes wsX6_layHeard := goodIn_r _ [5, 6, 7, 8, 9, 36, 37, 38, 39, 40, 41, 42, 43, 44, 45, 46, 47, 48, 49, 50, 51, 52, 53, 54, 55] (by decide +kernel) (by decide +kernel)
set_option maxRecDepth 20000 in
theorem gX6_takes_X6_layHeard : GoodIn wsX6_takes (wsV RX6 110 RX6 yX6_layHeard wsX6_layHeard) := goodIn_app (goodIn_of _ (by decide +kernel)) ggX6_takes_X6_layHeard
set_option maxRecDepth 20000 in
theorem ggX6_takes_X6_taken : GoodIn wsX6_takes wsX6_taken := goodIn_r _ [13, 14, 15, 16, 17, 4, 18, 9, 6, 19, 20, 21, 22, 23, 24, 25, 26, 27, 28, 29, 30, 31, 32, 33, 34, 35, 36, 37, 38, 39, 40, 41, 42, 43, 44, 45, 46, 47, 48, 49, 50, 51, 52, 53, 54, 55] (by decide +kernel) (by decide +kernel)
set_option maxRecDepth 20000 in
theorem gX6_takes_X6_taken : GoodIn wsX6_takes (wsV RX6 134 RX6 yX6_taken wsX6_taken) := goodIn_app (goodIn_of _ (by decide +kernel)) ggX6_takes_X6_taken
set_option maxRecDepth 20000 in
theorem ggX6_oddsOf_X6_hasForm : GoodIn wsX6_oddsOf wsX6_hasForm := goodIn_r _ [7] (by decide +kernel) (by decide +kernel)
set_option maxRecDepth 20000 in
theorem gX6_oddsOf_X6_hasForm : GoodIn wsX6_oddsOf (va_wsS RX6 104 yX6_hasForm wsX6_hasForm) := goodIn_app (goodIn_of _ (by decide +kernel)) ggX6_oddsOf_X6_hasForm
set_option maxRecDepth 20000 in
theorem ggX6_findSteps_X6_lowerOf : GoodIn wsX6_findSteps wsX6_lowerOf := goodIn_r _ [10, 11, 12, 3, 43, 44, 45, 46, 47, 48, 49, 50, 51, 52, 53, 54, 55, 56, 57, 58, 59, 60, 61, 62] (by decide +kernel) (by decide +kernel)
set_option maxRecDepth 20000 in
theorem gX6_findSteps_X6_lowerOf : GoodIn wsX6_findSteps (wsV RX6 139 RX6 yX6_lowerOf wsX6_lowerOf) := goodIn_app (goodIn_of _ (by decide +kernel)) ggX6_findSteps_X6_lowerOf
set_option maxRecDepth 20000 in
theorem ggX6_findSteps_X6_taken : GoodIn wsX6_findSteps wsX6_taken := goodIn_r _ [16, 17, 18, 19, 20, 9, 21, 4, 5, 22, 23, 24, 25, 26, 27, 28, 29, 30, 31, 32, 33, 34, 35, 36, 37, 38, 43, 44, 45, 46, 47, 48, 49, 50, 51, 52, 53, 54, 55, 56, 57, 58, 59, 60, 61, 62] (by decide +kernel) (by decide +kernel)
set_option maxRecDepth 20000 in
theorem gX6_findSteps_X6_taken : GoodIn wsX6_findSteps (wsV RX6 134 RX6 yX6_taken wsX6_taken) := goodIn_app (goodIn_of _ (by decide +kernel)) ggX6_findSteps_X6_taken
set_option maxRecDepth 20000 in
theorem ggX6_findSteps_X6_oddsOf : GoodIn wsX6_findSteps wsX6_oddsOf := goodIn_r _ [42, 12, 11, 29, 22, 23, 9, 24, 43, 44, 45, 46, 47, 48, 49, 50, 51, 52, 53, 54, 55, 56, 57, 58, 59, 60, 61, 62] (by decide +kernel) (by decide +kernel)
set_option maxRecDepth 20000 in
theorem gX6_findSteps_X6_oddsOf : GoodIn wsX6_findSteps (wsV RX6 147 RX6 yX6_oddsOf wsX6_oddsOf) := goodIn_app (goodIn_of _ (by decide +kernel)) ggX6_findSteps_X6_oddsOf
set_option maxRecDepth 20000 in
theorem ggX6_step_X6_book : GoodIn wsX6_step wsX6_book := goodIn_r _ [5, 6, 7, 8, 9, 10, 11, 12, 4, 13, 14, 15, 16, 17, 18, 19, 20, 21, 22, 23, 24, 25, 26, 27, 28, 29, 30, 31, 32, 33, 34, 35, 36, 37, 38, 39, 40, 41, 42, 43, 44, 45, 46, 47, 48, 49, 50, 51, 52, 53, 54, 55, 56, 57, 58, 59, 60, 61, 62, 63, 64, 65, 66, 67, 68, 69, 70, 71, 72, 73, 74, 75, 76, 77, 78, 79, 80, 81, 82, 83, 84, 85] (by decide +kernel) (by decide +kernel)
set_option maxRecDepth 20000 in
theorem gX6_step_X6_book : GoodIn wsX6_step (wsV RX6 151 RX6 yX6_book wsX6_book) := goodIn_app (goodIn_of _ (by decide +kernel)) ggX6_step_X6_book
set_option maxRecDepth 20000 in
theorem ggX6_book_X6_isTongue : GoodIn wsX6_book wsX6_isTongue := goodIn_r _ [9, 10, 11, 12, 8, 13] (by decide +kernel) (by decide +kernel)
set_option maxRecDepth 20000 in
theorem gX6_book_X6_isTongue : GoodIn wsX6_book (va_wsS RX6 92 yX6_isTongue wsX6_isTongue) := goodIn_app (goodIn_of _ (by decide +kernel)) ggX6_book_X6_isTongue
set_option maxRecDepth 20000 in
theorem ggX6_book_X6_in : GoodIn wsX6_book wsX6_in := goodIn_r _ [13] (by decide +kernel) (by decide +kernel)
set_option maxRecDepth 20000 in
theorem gX6_book_X6_in : GoodIn wsX6_book (va_wsS RX6 53 yX6_in wsX6_in) := goodIn_app (goodIn_of _ (by decide +kernel)) ggX6_book_X6_in
set_option maxRecDepth 20000 in
theorem ggX6_book_X6_isPart : GoodIn wsX6_book wsX6_isPart := goodIn_r _ [16, 11, 12, 8, 13] (by decide +kernel) (by decide +kernel)
set_option maxRecDepth 20000 in
theorem gX6_book_X6_isPart : GoodIn wsX6_book (va_wsS RX6 119 yX6_isPart wsX6_isPart) := goodIn_app (goodIn_of _ (by decide +kernel)) ggX6_book_X6_isPart
set_option maxRecDepth 20000 in
theorem ggX6_book_X6_findSteps : GoodIn wsX6_book wsX6_findSteps := goodIn_r _ [20, 5, 4, 2, 21, 22, 23, 24, 25, 8, 26, 27, 28, 29, 30, 31, 32, 33, 34, 35, 36, 37, 38, 39, 40, 41, 42, 43, 44, 45, 46, 47, 48, 49, 50, 51, 52, 53, 54, 55, 56, 57, 58, 62, 63, 64, 65, 66, 67, 68, 69, 70, 71, 72, 73, 74, 75, 76, 77, 78, 79, 80, 81] (by decide +kernel) (by decide +kernel)
set_option maxRecDepth 20000 in
theorem gX6_book_X6_findSteps : GoodIn wsX6_book (wsV RX6 155 RX6 yX6_findSteps wsX6_findSteps) := goodIn_app (goodIn_of _ (by decide +kernel)) ggX6_book_X6_findSteps
set_option maxRecDepth 20000 in
theorem ggX6_book_X6_lowest : GoodIn wsX6_book wsX6_lowest := goodIn_r _ [61] (by decide +kernel) (by decide +kernel)
set_option maxRecDepth 20000 in
theorem gX6_book_X6_lowest : GoodIn wsX6_book (va_wsS RX6 124 yX6_lowest wsX6_lowest) := goodIn_app (goodIn_of _ (by decide +kernel)) ggX6_book_X6_lowest
set_option maxRecDepth 20000 in
theorem ggX6_isLives_X6_in : GoodIn wsX6_isLives wsX6_in := goodIn_r _ [5] (by decide +kernel) (by decide +kernel)
set_option maxRecDepth 20000 in
theorem gX6_isLives_X6_in : GoodIn wsX6_isLives (va_wsS RX6 53 yX6_in wsX6_in) := goodIn_app (goodIn_of _ (by decide +kernel)) ggX6_isLives_X6_in
set_option maxRecDepth 20000 in
theorem ggX6_after_X6_isTongue : GoodIn wsX6_after wsX6_isTongue := goodIn_r _ [10, 11, 12, 13, 9, 14] (by decide +kernel) (by decide +kernel)
set_option maxRecDepth 20000 in
theorem gX6_after_X6_isTongue : GoodIn wsX6_after (va_wsS RX6 92 yX6_isTongue wsX6_isTongue) := goodIn_app (goodIn_of _ (by decide +kernel)) ggX6_after_X6_isTongue
set_option maxRecDepth 20000 in
theorem ggX6_after_X6_isLives : GoodIn wsX6_after wsX6_isLives := goodIn_r _ [17, 18, 12, 13, 9, 14] (by decide +kernel) (by decide +kernel)
set_option maxRecDepth 20000 in
theorem gX6_after_X6_isLives : GoodIn wsX6_after (va_wsS RX6 162 yX6_isLives wsX6_isLives) := goodIn_app (goodIn_of _ (by decide +kernel)) ggX6_after_X6_isLives
set_option maxRecDepth 20000 in
theorem ggX6_after_X6_isPart : GoodIn wsX6_after wsX6_isPart := goodIn_r _ [21, 12, 13, 9, 14] (by decide +kernel) (by decide +kernel)
set_option maxRecDepth 20000 in
theorem gX6_after_X6_isPart : GoodIn wsX6_after (va_wsS RX6 119 yX6_isPart wsX6_isPart) := goodIn_app (goodIn_of _ (by decide +kernel)) ggX6_after_X6_isPart
set_option maxRecDepth 20000 in
theorem ggX6_after_X6_findSteps : GoodIn wsX6_after wsX6_findSteps := goodIn_r _ [25, 26, 27, 3, 28, 29, 30, 31, 32, 9, 33, 34, 35, 36, 37, 38, 39, 40, 41, 42, 43, 44, 45, 46, 47, 48, 49, 50, 51, 52, 53, 54, 55, 56, 57, 58, 59, 60, 61, 62, 63, 64, 65, 74, 75, 76, 77, 78, 79, 80, 81, 82, 83, 84, 85, 86, 87, 88, 89, 90, 91, 92, 93] (by decide +kernel) (by decide +kernel)
set_option maxRecDepth 20000 in
theorem gX6_after_X6_findSteps : GoodIn wsX6_after (wsV RX6 155 RX6 yX6_findSteps wsX6_findSteps) := goodIn_app (goodIn_of _ (by decide +kernel)) ggX6_after_X6_findSteps
set_option maxRecDepth 20000 in
theorem ggX6_after_X6_live : GoodIn wsX6_after wsX6_live := goodIn_r _ [69, 6, 5, 70, 27, 26, 74, 75, 76, 77, 78, 79, 80, 81, 82, 83, 84, 85, 86, 87, 88, 89, 90, 91, 92, 93] (by decide +kernel) (by decide +kernel)
set_option maxRecDepth 20000 in
theorem gX6_after_X6_live : GoodIn wsX6_after (wsV RX6 167 RX6 yX6_live wsX6_live) := goodIn_app (goodIn_of _ (by decide +kernel)) ggX6_after_X6_live
set_option maxRecDepth 20000 in
theorem ggX6_after_X6_lowest : GoodIn wsX6_after wsX6_lowest := goodIn_r _ [73] (by decide +kernel) (by decide +kernel)
set_option maxRecDepth 20000 in
theorem gX6_after_X6_lowest : GoodIn wsX6_after (va_wsS RX6 124 yX6_lowest wsX6_lowest) := goodIn_app (goodIn_of _ (by decide +kernel)) ggX6_after_X6_lowest
set_option maxRecDepth 20000 in
theorem ggX6_findLeads_X6_findSteps : GoodIn wsX6_findLeads wsX6_findSteps := goodIn_r _ [7, 8, 2, 9, 10, 11, 12, 13, 14, 6, 15, 16, 17, 18, 19, 20, 21, 22, 23, 24, 25, 26, 27, 28, 29, 30, 31, 32, 33, 34, 35, 36, 37, 38, 39, 40, 41, 42, 43, 44, 45, 46, 47, 48, 49, 50, 51, 52, 53, 54, 55, 56, 57, 58, 59, 60, 61, 62, 63, 64, 65, 66, 67] (by decide +kernel) (by decide +kernel)
set_option maxRecDepth 20000 in
theorem gX6_findLeads_X6_findSteps : GoodIn wsX6_findLeads (wsV RX6 155 RX6 yX6_findSteps wsX6_findSteps) := goodIn_app (goodIn_of _ (by decide +kernel)) ggX6_findLeads_X6_findSteps
set_option maxRecDepth 20000 in
theorem ggX6_leads_X6_isTongue : GoodIn wsX6_leads wsX6_isTongue := goodIn_r _ [5, 6, 7, 8, 4, 9] (by decide +kernel) (by decide +kernel)
set_option maxRecDepth 20000 in
theorem gX6_leads_X6_isTongue : GoodIn wsX6_leads (va_wsS RX6 92 yX6_isTongue wsX6_isTongue) := goodIn_app (goodIn_of _ (by decide +kernel)) ggX6_leads_X6_isTongue
set_option maxRecDepth 20000 in
theorem ggX6_leads_X6_findLeads : GoodIn wsX6_leads wsX6_findLeads := goodIn_r _ [13, 1, 14, 15, 16, 17, 4, 18, 19, 20, 21, 22, 23, 24, 25, 26, 27, 28, 29, 30, 31, 32, 33, 34, 35, 36, 37, 38, 39, 40, 41, 42, 43, 44, 45, 46, 47, 48, 49, 50, 51, 52, 53, 54, 55, 56, 57, 58, 59, 60, 61, 62, 63, 64, 65, 66, 67, 68, 69, 70, 71, 72, 73, 74, 75, 76, 77, 78] (by decide +kernel) (by decide +kernel)
set_option maxRecDepth 20000 in
theorem gX6_leads_X6_findLeads : GoodIn wsX6_leads (wsV RX6 170 RX6 yX6_findLeads wsX6_findLeads) := goodIn_app (goodIn_of _ (by decide +kernel)) ggX6_leads_X6_findLeads
set_option maxRecDepth 20000 in
theorem ggX6_lasts_X6_in : GoodIn wsX6_lasts wsX6_in := goodIn_r _ [8] (by decide +kernel) (by decide +kernel)
set_option maxRecDepth 20000 in
theorem gX6_lasts_X6_in : GoodIn wsX6_lasts (va_wsS RX6 53 yX6_in wsX6_in) := goodIn_app (goodIn_of _ (by decide +kernel)) ggX6_lasts_X6_in
set_option maxRecDepth 20000 in
theorem ggX6_lasts_X6_findLeads : GoodIn wsX6_lasts wsX6_findLeads := goodIn_r _ [12, 2, 3, 13, 14, 15, 7, 16, 4, 17, 18, 19, 20, 21, 22, 23, 24, 25, 26, 27, 28, 29, 30, 31, 32, 33, 34, 35, 36, 37, 38, 39, 40, 41, 42, 43, 44, 45, 46, 47, 48, 49, 50, 51, 52, 53, 54, 55, 60, 61, 62, 63, 64, 65, 66, 67, 68, 69, 70, 71, 72, 73, 74, 75, 76, 77, 78, 79] (by decide +kernel) (by decide +kernel)
set_option maxRecDepth 20000 in
theorem gX6_lasts_X6_findLeads : GoodIn wsX6_lasts (wsV RX6 170 RX6 yX6_findLeads wsX6_findLeads) := goodIn_app (goodIn_of _ (by decide +kernel)) ggX6_lasts_X6_findLeads
set_option maxRecDepth 20000 in
theorem ggX6_lasts_X6_doesLast : GoodIn wsX6_lasts wsX6_doesLast := goodIn_r _ [59, 2, 60, 61, 62, 63, 64, 65, 66, 67, 68, 69, 70, 71, 72, 73, 74, 75, 76, 77, 78, 79] (by decide +kernel) (by decide +kernel)
set_option maxRecDepth 20000 in
theorem gX6_lasts_X6_doesLast : GoodIn wsX6_lasts (wsV RX6 173 RX6 yX6_doesLast wsX6_doesLast) := goodIn_app (goodIn_of _ (by decide +kernel)) ggX6_lasts_X6_doesLast
set_option maxRecDepth 20000 in
theorem ggX6_lives_X6_isTongue : GoodIn wsX6_lives wsX6_isTongue := goodIn_r _ [10, 11, 12, 13, 9, 14] (by decide +kernel) (by decide +kernel)
set_option maxRecDepth 20000 in
theorem gX6_lives_X6_isTongue : GoodIn wsX6_lives (va_wsS RX6 92 yX6_isTongue wsX6_isTongue) := goodIn_app (goodIn_of _ (by decide +kernel)) ggX6_lives_X6_isTongue
set_option maxRecDepth 20000 in
theorem ggX6_lives_X6_isMeaning : GoodIn wsX6_lives wsX6_isMeaning := goodIn_r _ [17, 18, 12, 13, 9, 14] (by decide +kernel) (by decide +kernel)
set_option maxRecDepth 20000 in
theorem gX6_lives_X6_isMeaning : GoodIn wsX6_lives (va_wsS RX6 59 yX6_isMeaning wsX6_isMeaning) := goodIn_app (goodIn_of _ (by decide +kernel)) ggX6_lives_X6_isMeaning
set_option maxRecDepth 20000 in
theorem ggX6_lives_X6_in : GoodIn wsX6_lives wsX6_in := goodIn_r _ [14] (by decide +kernel) (by decide +kernel)
set_option maxRecDepth 20000 in
theorem gX6_lives_X6_in : GoodIn wsX6_lives (va_wsS RX6 53 yX6_in wsX6_in) := goodIn_app (goodIn_of _ (by decide +kernel)) ggX6_lives_X6_in
set_option maxRecDepth 20000 in
theorem ggX6_lives_X6_isLives : GoodIn wsX6_lives wsX6_isLives := goodIn_r _ [21, 22, 12, 13, 9, 14] (by decide +kernel) (by decide +kernel)
set_option maxRecDepth 20000 in
theorem gX6_lives_X6_isLives : GoodIn wsX6_lives (va_wsS RX6 162 yX6_isLives wsX6_isLives) := goodIn_app (goodIn_of _ (by decide +kernel)) ggX6_lives_X6_isLives
set_option maxRecDepth 20000 in
theorem ggX6_lives_X6_isPart : GoodIn wsX6_lives wsX6_isPart := goodIn_r _ [25, 12, 13, 9, 14] (by decide +kernel) (by decide +kernel)
set_option maxRecDepth 20000 in
theorem gX6_lives_X6_isPart : GoodIn wsX6_lives (va_wsS RX6 119 yX6_isPart wsX6_isPart) := goodIn_app (goodIn_of _ (by decide +kernel)) ggX6_lives_X6_isPart
set_option maxRecDepth 20000 in
theorem ggX6_lives_X6_findSteps : GoodIn wsX6_lives wsX6_findSteps := goodIn_r _ [29, 30, 31, 3, 32, 33, 34, 35, 36, 9, 37, 38, 39, 40, 41, 42, 43, 44, 45, 46, 47, 48, 49, 50, 51, 52, 53, 54, 55, 56, 57, 58, 59, 60, 61, 62, 63, 64, 65, 66, 67, 68, 69, 78, 79, 80, 81, 82, 83, 84, 85, 86, 87, 88, 89, 90, 91, 92, 93, 94, 95, 96, 97] (by decide +kernel) (by decide +kernel)
set_option maxRecDepth 20000 in
theorem gX6_lives_X6_findSteps : GoodIn wsX6_lives (wsV RX6 155 RX6 yX6_findSteps wsX6_findSteps) := goodIn_app (goodIn_of _ (by decide +kernel)) ggX6_lives_X6_findSteps
set_option maxRecDepth 20000 in
theorem ggX6_lives_X6_live : GoodIn wsX6_lives wsX6_live := goodIn_r _ [73, 6, 5, 74, 31, 30, 78, 79, 80, 81, 82, 83, 84, 85, 86, 87, 88, 89, 90, 91, 92, 93, 94, 95, 96, 97] (by decide +kernel) (by decide +kernel)
set_option maxRecDepth 20000 in
theorem gX6_lives_X6_live : GoodIn wsX6_lives (wsV RX6 167 RX6 yX6_live wsX6_live) := goodIn_app (goodIn_of _ (by decide +kernel)) ggX6_lives_X6_live
set_option maxRecDepth 20000 in
theorem ggX6_lives_X6_lowest : GoodIn wsX6_lives wsX6_lowest := goodIn_r _ [77] (by decide +kernel) (by decide +kernel)
set_option maxRecDepth 20000 in
theorem gX6_lives_X6_lowest : GoodIn wsX6_lives (va_wsS RX6 124 yX6_lowest wsX6_lowest) := goodIn_app (goodIn_of _ (by decide +kernel)) ggX6_lives_X6_lowest
set_option maxRecDepth 20000 in
theorem ggX6_often_X6_isTongue : GoodIn wsX6_often wsX6_isTongue := goodIn_r _ [8, 9, 10, 11, 7, 12] (by decide +kernel) (by decide +kernel)
set_option maxRecDepth 20000 in
theorem gX6_often_X6_isTongue : GoodIn wsX6_often (va_wsS RX6 92 yX6_isTongue wsX6_isTongue) := goodIn_app (goodIn_of _ (by decide +kernel)) ggX6_often_X6_isTongue
set_option maxRecDepth 20000 in
theorem ggX6_often_X6_isMeaning : GoodIn wsX6_often wsX6_isMeaning := goodIn_r _ [15, 16, 10, 11, 7, 12] (by decide +kernel) (by decide +kernel)
set_option maxRecDepth 20000 in
theorem gX6_often_X6_isMeaning : GoodIn wsX6_often (va_wsS RX6 59 yX6_isMeaning wsX6_isMeaning) := goodIn_app (goodIn_of _ (by decide +kernel)) ggX6_often_X6_isMeaning
set_option maxRecDepth 20000 in
theorem ggX6_often_X6_in : GoodIn wsX6_often wsX6_in := goodIn_r _ [12] (by decide +kernel) (by decide +kernel)
set_option maxRecDepth 20000 in
theorem gX6_often_X6_in : GoodIn wsX6_often (va_wsS RX6 53 yX6_in wsX6_in) := goodIn_app (goodIn_of _ (by decide +kernel)) ggX6_often_X6_in
set_option maxRecDepth 20000 in
theorem ggX6_often_X6_findSteps : GoodIn wsX6_often wsX6_findSteps := goodIn_r _ [20, 4, 3, 21, 22, 23, 24, 25, 26, 7, 27, 1, 2, 28, 29, 30, 31, 32, 33, 34, 35, 36, 37, 38, 39, 40, 41, 42, 43, 44, 45, 46, 47, 48, 49, 50, 51, 52, 53, 54, 55, 56, 57, 58, 59, 60, 61, 62, 63, 64, 65, 66, 67, 68, 69, 70, 71, 72, 73, 74, 75, 76, 77] (by decide +kernel) (by decide +kernel)
set_option maxRecDepth 20000 in
theorem gX6_often_X6_findSteps : GoodIn wsX6_often (wsV RX6 155 RX6 yX6_findSteps wsX6_findSteps) := goodIn_app (goodIn_of _ (by decide +kernel)) ggX6_often_X6_findSteps
set_option maxRecDepth 20000 in
theorem ggX6_choose_X6_taken : GoodIn wsX6_choose wsX6_taken := goodIn_r _ [8, 9, 10, 11, 12, 7, 13, 2, 3, 14, 15, 16, 17, 18, 19, 20, 21, 22, 23, 24, 25, 26, 27, 28, 29, 30, 31, 32, 33, 34, 35, 36, 37, 38, 39, 40, 41, 42, 43, 44, 45, 46, 47, 48, 49, 50] (by decide +kernel) (by decide +kernel)
set_option maxRecDepth 20000 in
theorem gX6_choose_X6_taken : GoodIn wsX6_choose (wsV RX6 134 RX6 yX6_taken wsX6_taken) := goodIn_app (goodIn_of _ (by decide +kernel)) ggX6_choose_X6_taken
set_option maxRecDepth 20000 in
theorem ggX6_chosen_X6_isTongue : GoodIn wsX6_chosen wsX6_isTongue := goodIn_r _ [5, 6, 7, 8, 4, 9] (by decide +kernel) (by decide +kernel)
set_option maxRecDepth 20000 in
theorem gX6_chosen_X6_isTongue : GoodIn wsX6_chosen (va_wsS RX6 92 yX6_isTongue wsX6_isTongue) := goodIn_app (goodIn_of _ (by decide +kernel)) ggX6_chosen_X6_isTongue
set_option maxRecDepth 20000 in
theorem ggX6_chosen_X6_choose : GoodIn wsX6_chosen wsX6_choose := goodIn_r _ [13, 1, 14, 15, 16, 17, 18, 4, 19, 20, 21, 22, 23, 24, 25, 26, 27, 28, 29, 30, 31, 32, 33, 34, 35, 36, 37, 38, 39, 40, 41, 42, 43, 44, 45, 46, 47, 48, 49, 50, 51, 52, 53, 54, 55, 56, 57, 58, 59, 60, 61] (by decide +kernel) (by decide +kernel)
set_option maxRecDepth 20000 in
theorem gX6_chosen_X6_choose : GoodIn wsX6_chosen (wsV RX6 176 RX6 yX6_choose wsX6_choose) := goodIn_app (goodIn_of _ (by decide +kernel)) ggX6_chosen_X6_choose
set_option maxRecDepth 20000 in
theorem ggX6_chosen_X6_in : GoodIn wsX6_chosen wsX6_in := goodIn_r _ [9] (by decide +kernel) (by decide +kernel)
set_option maxRecDepth 20000 in
theorem gX6_chosen_X6_in : GoodIn wsX6_chosen (va_wsS RX6 53 yX6_in wsX6_in) := goodIn_app (goodIn_of _ (by decide +kernel)) ggX6_chosen_X6_in
set_option maxRecDepth 20000 in
theorem ggX6_findCame_X6_findSteps : GoodIn wsX6_findCame wsX6_findSteps := goodIn_r _ [7, 8, 9, 10, 11, 12, 13, 14, 15, 6, 16, 17, 18, 19, 20, 21, 22, 23, 24, 25, 26, 27, 28, 29, 30, 31, 32, 33, 34, 35, 36, 37, 38, 39, 40, 41, 42, 43, 44, 45, 46, 47, 48, 55, 56, 57, 58, 59, 60, 61, 62, 63, 64, 65, 66, 67, 68, 69, 70, 71, 72, 73, 74] (by decide +kernel) (by decide +kernel)
set_option maxRecDepth 20000 in
theorem gX6_findCame_X6_findSteps : GoodIn wsX6_findCame (wsV RX6 155 RX6 yX6_findSteps wsX6_findSteps) := goodIn_app (goodIn_of _ (by decide +kernel)) ggX6_findCame_X6_findSteps
set_option maxRecDepth 20000 in
theorem ggX6_findCame_X6_live : GoodIn wsX6_findCame wsX6_live := goodIn_r _ [52, 53, 2, 54, 9, 8, 55, 56, 57, 58, 59, 60, 61, 62, 63, 64, 65, 66, 67, 68, 69, 70, 71, 72, 73, 74] (by decide +kernel) (by decide +kernel)
set_option maxRecDepth 20000 in
theorem gX6_findCame_X6_live : GoodIn wsX6_findCame (wsV RX6 167 RX6 yX6_live wsX6_live) := goodIn_app (goodIn_of _ (by decide +kernel)) ggX6_findCame_X6_live
set_option maxRecDepth 20000 in
theorem ggX6_back_X6_isTongue : GoodIn wsX6_back wsX6_isTongue := goodIn_r _ [9, 10, 11, 12, 8, 13] (by decide +kernel) (by decide +kernel)
set_option maxRecDepth 20000 in
theorem gX6_back_X6_isTongue : GoodIn wsX6_back (va_wsS RX6 92 yX6_isTongue wsX6_isTongue) := goodIn_app (goodIn_of _ (by decide +kernel)) ggX6_back_X6_isTongue
set_option maxRecDepth 20000 in
theorem ggX6_back_X6_isLives : GoodIn wsX6_back wsX6_isLives := goodIn_r _ [16, 17, 11, 12, 8, 13] (by decide +kernel) (by decide +kernel)
set_option maxRecDepth 20000 in
theorem gX6_back_X6_isLives : GoodIn wsX6_back (va_wsS RX6 162 yX6_isLives wsX6_isLives) := goodIn_app (goodIn_of _ (by decide +kernel)) ggX6_back_X6_isLives
set_option maxRecDepth 20000 in
theorem ggX6_back_X6_isPart : GoodIn wsX6_back wsX6_isPart := goodIn_r _ [20, 11, 12, 8, 13] (by decide +kernel) (by decide +kernel)
set_option maxRecDepth 20000 in
theorem gX6_back_X6_isPart : GoodIn wsX6_back (va_wsS RX6 119 yX6_isPart wsX6_isPart) := goodIn_app (goodIn_of _ (by decide +kernel)) ggX6_back_X6_isPart
set_option maxRecDepth 20000 in
theorem ggX6_back_X6_findCame : GoodIn wsX6_back wsX6_findCame := goodIn_r _ [24, 5, 25, 26, 27, 28, 8, 29, 30, 31, 3, 32, 33, 34, 35, 36, 37, 38, 39, 40, 41, 42, 43, 44, 45, 46, 47, 48, 49, 50, 51, 52, 53, 54, 55, 56, 57, 58, 59, 60, 61, 62, 63, 64, 65, 66, 67, 68, 69, 70, 71, 72, 73, 74, 75, 79, 80, 81, 82, 83, 84, 85, 86, 87, 88, 89, 90, 91, 92, 93, 94, 95, 96, 97, 98] (by decide +kernel) (by decide +kernel)
set_option maxRecDepth 20000 in
theorem gX6_back_X6_findCame : GoodIn wsX6_back (wsV RX6 179 RX6 yX6_findCame wsX6_findCame) := goodIn_app (goodIn_of _ (by decide +kernel)) ggX6_back_X6_findCame
set_option maxRecDepth 20000 in
theorem ggX6_back_X6_lowest : GoodIn wsX6_back wsX6_lowest := goodIn_r _ [78] (by decide +kernel) (by decide +kernel)
set_option maxRecDepth 20000 in
theorem gX6_back_X6_lowest : GoodIn wsX6_back (va_wsS RX6 124 yX6_lowest wsX6_lowest) := goodIn_app (goodIn_of _ (by decide +kernel)) ggX6_back_X6_lowest
set_option maxRecDepth 20000 in
theorem ggX6_guess_X6_isTongue : GoodIn wsX6_guess wsX6_isTongue := goodIn_r _ [6, 7, 8, 9, 5, 10] (by decide +kernel) (by decide +kernel)
set_option maxRecDepth 20000 in
theorem gX6_guess_X6_isTongue : GoodIn wsX6_guess (va_wsS RX6 92 yX6_isTongue wsX6_isTongue) := goodIn_app (goodIn_of _ (by decide +kernel)) ggX6_guess_X6_isTongue
set_option maxRecDepth 20000 in
theorem ggX6_guess_X6_isLives : GoodIn wsX6_guess wsX6_isLives := goodIn_r _ [13, 14, 8, 9, 5, 10] (by decide +kernel) (by decide +kernel)
set_option maxRecDepth 20000 in
theorem gX6_guess_X6_isLives : GoodIn wsX6_guess (va_wsS RX6 162 yX6_isLives wsX6_isLives) := goodIn_app (goodIn_of _ (by decide +kernel)) ggX6_guess_X6_isLives
set_option maxRecDepth 20000 in
theorem ggX6_guess_X6_in : GoodIn wsX6_guess wsX6_in := goodIn_r _ [10] (by decide +kernel) (by decide +kernel)
set_option maxRecDepth 20000 in
theorem gX6_guess_X6_in : GoodIn wsX6_guess (va_wsS RX6 53 yX6_in wsX6_in) := goodIn_app (goodIn_of _ (by decide +kernel)) ggX6_guess_X6_in
set_option maxRecDepth 20000 in
theorem ggX6_guess_X6_findCame : GoodIn wsX6_guess wsX6_findCame := goodIn_r _ [18, 2, 19, 20, 21, 22, 5, 23, 24, 25, 1, 26, 27, 28, 29, 30, 31, 32, 33, 34, 35, 36, 37, 38, 39, 40, 41, 42, 43, 44, 45, 46, 47, 48, 49, 50, 51, 52, 53, 54, 55, 56, 57, 58, 59, 60, 61, 62, 63, 64, 65, 66, 67, 68, 69, 70, 71, 72, 73, 74, 75, 76, 77, 78, 79, 80, 81, 82, 83, 84, 85, 86, 87, 88, 89] (by decide +kernel) (by decide +kernel)
set_option maxRecDepth 20000 in
theorem gX6_guess_X6_findCame : GoodIn wsX6_guess (wsV RX6 179 RX6 yX6_findCame wsX6_findCame) := goodIn_app (goodIn_of _ (by decide +kernel)) ggX6_guess_X6_findCame
set_option maxRecDepth 20000 in
theorem ggX6_told_X6_in : GoodIn wsX6_told wsX6_in := goodIn_r _ [10] (by decide +kernel) (by decide +kernel)
set_option maxRecDepth 20000 in
theorem gX6_told_X6_in : GoodIn wsX6_told (va_wsS RX6 53 yX6_in wsX6_in) := goodIn_app (goodIn_of _ (by decide +kernel)) ggX6_told_X6_in
set_option maxRecDepth 20000 in
theorem ggX6_told_X6_numberIs : GoodIn wsX6_told wsX6_numberIs := goodIn_r _ [14, 15, 16, 17, 18, 19, 20, 21, 22, 23, 24, 25, 26, 27, 28, 29, 30, 31, 32, 33, 34, 35, 36, 37] (by decide +kernel) (by decide +kernel)
set_option maxRecDepth 20000 in
theorem gX6_told_X6_numberIs : GoodIn wsX6_told (wsV RX6 70 RX6 yX6_numberIs wsX6_numberIs) := goodIn_app (goodIn_of _ (by decide +kernel)) ggX6_told_X6_numberIs
abbrev vwCl : List vw_C := [(RX0, TX0, 2), (RX1, TX1, 3), (RX2, TX2, 6), (RX3, TX3, 2), (RX4, TX4, 12), (RX5, TX5, 6), (RX6, TX6, 20)]
end
section
theorem dX0_init_0 : decode cX0_init 0 = .ok (.aload_n 0, 1) := by decide +kernel
theorem dX0_init_1 : decode cX0_init 1 = .ok (.invokespecial 3, 3) := by decide +kernel
theorem dX0_init_4 : decode cX0_init 4 = .ok (.aload_n 0, 1) := by decide +kernel
theorem dX0_init_5 : decode cX0_init 5 = .ok (.bipush 6, 2) := by decide +kernel
theorem dX0_init_7 : decode cX0_init 7 = .ok (.newarray .int, 2) := by decide +kernel
theorem dX0_init_9 : decode cX0_init 9 = .ok (.putfield 9, 3) := by decide +kernel
theorem dX0_init_12 : decode cX0_init 12 = .ok (.aload_n 0, 1) := by decide +kernel
theorem dX0_init_13 : decode cX0_init 13 = .ok (.iconst 0, 1) := by decide +kernel
theorem dX0_init_14 : decode cX0_init 14 = .ok (.putfield 15, 3) := by decide +kernel
theorem dX0_init_17 : decode cX0_init 17 = .ok (.return_, 1) := by decide +kernel
theorem dX0_add_0 : decode cX0_add 0 = .ok (.aload_n 0, 1) := by decide +kernel
theorem dX0_add_1 : decode cX0_add 1 = .ok (.getfield 9, 3) := by decide +kernel
theorem dX0_add_4 : decode cX0_add 4 = .ok (.iload_n 1, 1) := by decide +kernel
theorem dX0_add_5 : decode cX0_add 5 = .ok (.dup2, 1) := by decide +kernel
theorem dX0_add_6 : decode cX0_add 6 = .ok (.iaload, 1) := by decide +kernel
theorem dX0_add_7 : decode cX0_add 7 = .ok (.iconst 1, 1) := by decide +kernel
theorem dX0_add_8 : decode cX0_add 8 = .ok (.iadd, 1) := by decide +kernel
theorem dX0_add_9 : decode cX0_add 9 = .ok (.iastore, 1) := by decide +kernel
theorem dX0_add_10 : decode cX0_add 10 = .ok (.aload_n 0, 1) := by decide +kernel
theorem dX0_add_11 : decode cX0_add 11 = .ok (.dup, 1) := by decide +kernel
theorem dX0_add_12 : decode cX0_add 12 = .ok (.getfield 15, 3) := by decide +kernel
theorem dX0_add_15 : decode cX0_add 15 = .ok (.iconst 1, 1) := by decide +kernel
theorem dX0_add_16 : decode cX0_add 16 = .ok (.iadd, 1) := by decide +kernel
theorem dX0_add_17 : decode cX0_add 17 = .ok (.putfield 15, 3) := by decide +kernel
theorem dX0_add_20 : decode cX0_add 20 = .ok (.return_, 1) := by decide +kernel
theorem dX0_clear_0 : decode cX0_clear 0 = .ok (.aload_n 0, 1) := by decide +kernel
theorem dX0_clear_1 : decode cX0_clear 1 = .ok (.getfield 9, 3) := by decide +kernel
theorem dX0_clear_4 : decode cX0_clear 4 = .ok (.iconst 0, 1) := by decide +kernel
theorem dX0_clear_5 : decode cX0_clear 5 = .ok (.invokestatic 19, 3) := by decide +kernel
theorem dX0_clear_8 : decode cX0_clear 8 = .ok (.aload_n 0, 1) := by decide +kernel
theorem dX0_clear_9 : decode cX0_clear 9 = .ok (.iconst 0, 1) := by decide +kernel
theorem dX0_clear_10 : decode cX0_clear 10 = .ok (.putfield 15, 3) := by decide +kernel
theorem dX0_clear_13 : decode cX0_clear 13 = .ok (.return_, 1) := by decide +kernel
theorem dX0_sharedWith_0 : decode cX0_sharedWith 0 = .ok (.iconst 0, 1) := by decide +kernel
theorem dX0_sharedWith_1 : decode cX0_sharedWith 1 = .ok (.istore_n 2, 1) := by decide +kernel
theorem dX0_sharedWith_2 : decode cX0_sharedWith 2 = .ok (.iconst 0, 1) := by decide +kernel
theorem dX0_sharedWith_3 : decode cX0_sharedWith 3 = .ok (.istore_n 3, 1) := by decide +kernel
theorem dX0_sharedWith_4 : decode cX0_sharedWith 4 = .ok (.iload_n 3, 1) := by decide +kernel
theorem dX0_sharedWith_5 : decode cX0_sharedWith 5 = .ok (.iconst 3, 1) := by decide +kernel
theorem dX0_sharedWith_6 : decode cX0_sharedWith 6 = .ok (.if_icmp .ge 26, 3) := by decide +kernel
theorem dX0_sharedWith_9 : decode cX0_sharedWith 9 = .ok (.iload_n 2, 1) := by decide +kernel
theorem dX0_sharedWith_10 : decode cX0_sharedWith 10 = .ok (.aload_n 0, 1) := by decide +kernel
theorem dX0_sharedWith_11 : decode cX0_sharedWith 11 = .ok (.getfield 9, 3) := by decide +kernel
theorem dX0_sharedWith_14 : decode cX0_sharedWith 14 = .ok (.iconst 2, 1) := by decide +kernel
theorem dX0_sharedWith_15 : decode cX0_sharedWith 15 = .ok (.iload_n 3, 1) := by decide +kernel
theorem dX0_sharedWith_16 : decode cX0_sharedWith 16 = .ok (.imul, 1) := by decide +kernel
theorem dX0_sharedWith_17 : decode cX0_sharedWith 17 = .ok (.iload_n 1, 1) := by decide +kernel
theorem dX0_sharedWith_18 : decode cX0_sharedWith 18 = .ok (.iload_n 3, 1) := by decide +kernel
theorem dX0_sharedWith_19 : decode cX0_sharedWith 19 = .ok (.invokestatic 25, 3) := by decide +kernel
theorem dX0_sharedWith_22 : decode cX0_sharedWith 22 = .ok (.iadd, 1) := by decide +kernel
theorem dX0_sharedWith_23 : decode cX0_sharedWith 23 = .ok (.iaload, 1) := by decide +kernel
theorem dX0_sharedWith_24 : decode cX0_sharedWith 24 = .ok (.iadd, 1) := by decide +kernel
theorem dX0_sharedWith_25 : decode cX0_sharedWith 25 = .ok (.istore_n 2, 1) := by decide +kernel
theorem dX0_sharedWith_26 : decode cX0_sharedWith 26 = .ok (.iinc 3 1, 3) := by decide +kernel
theorem dX0_sharedWith_29 : decode cX0_sharedWith 29 = .ok (.goto (-25), 3) := by decide +kernel
theorem dX0_sharedWith_32 : decode cX0_sharedWith 32 = .ok (.iload_n 2, 1) := by decide +kernel
theorem dX0_sharedWith_33 : decode cX0_sharedWith 33 = .ok (.ireturn, 1) := by decide +kernel
theorem dX1_init_0 : decode cX1_init 0 = .ok (.aload_n 0, 1) := by decide +kernel
theorem dX1_init_1 : decode cX1_init 1 = .ok (.invokespecial 3, 3) := by decide +kernel
theorem dX1_init_4 : decode cX1_init 4 = .ok (.aload_n 0, 1) := by decide +kernel
theorem dX1_init_5 : decode cX1_init 5 = .ok (.bipush 8, 2) := by decide +kernel
theorem dX1_init_7 : decode cX1_init 7 = .ok (.newarray .int, 2) := by decide +kernel
theorem dX1_init_9 : decode cX1_init 9 = .ok (.dup, 1) := by decide +kernel
theorem dX1_init_10 : decode cX1_init 10 = .ok (.iconst 0, 1) := by decide +kernel
theorem dX1_init_11 : decode cX1_init 11 = .ok (.iconst 1, 1) := by decide +kernel
theorem dX1_init_12 : decode cX1_init 12 = .ok (.iastore, 1) := by decide +kernel
theorem dX1_init_13 : decode cX1_init 13 = .ok (.dup, 1) := by decide +kernel
theorem dX1_init_14 : decode cX1_init 14 = .ok (.iconst 1, 1) := by decide +kernel
theorem dX1_init_15 : decode cX1_init 15 = .ok (.iconst 1, 1) := by decide +kernel
theorem dX1_init_16 : decode cX1_init 16 = .ok (.iastore, 1) := by decide +kernel
theorem dX1_init_17 : decode cX1_init 17 = .ok (.dup, 1) := by decide +kernel
theorem dX1_init_18 : decode cX1_init 18 = .ok (.iconst 2, 1) := by decide +kernel
theorem dX1_init_19 : decode cX1_init 19 = .ok (.iconst 1, 1) := by decide +kernel
theorem dX1_init_20 : decode cX1_init 20 = .ok (.iastore, 1) := by decide +kernel
theorem dX1_init_21 : decode cX1_init 21 = .ok (.dup, 1) := by decide +kernel
theorem dX1_init_22 : decode cX1_init 22 = .ok (.iconst 3, 1) := by decide +kernel
theorem dX1_init_23 : decode cX1_init 23 = .ok (.iconst 1, 1) := by decide +kernel
theorem dX1_init_24 : decode cX1_init 24 = .ok (.iastore, 1) := by decide +kernel
theorem dX1_init_25 : decode cX1_init 25 = .ok (.dup, 1) := by decide +kernel
theorem dX1_init_26 : decode cX1_init 26 = .ok (.iconst 4, 1) := by decide +kernel
theorem dX1_init_27 : decode cX1_init 27 = .ok (.iconst 1, 1) := by decide +kernel
theorem dX1_init_28 : decode cX1_init 28 = .ok (.iastore, 1) := by decide +kernel
theorem dX1_init_29 : decode cX1_init 29 = .ok (.dup, 1) := by decide +kernel
theorem dX1_init_30 : decode cX1_init 30 = .ok (.iconst 5, 1) := by decide +kernel
theorem dX1_init_31 : decode cX1_init 31 = .ok (.iconst 1, 1) := by decide +kernel
theorem dX1_init_32 : decode cX1_init 32 = .ok (.iastore, 1) := by decide +kernel
theorem dX1_init_33 : decode cX1_init 33 = .ok (.dup, 1) := by decide +kernel
theorem dX1_init_34 : decode cX1_init 34 = .ok (.bipush 6, 2) := by decide +kernel
theorem dX1_init_36 : decode cX1_init 36 = .ok (.iconst 1, 1) := by decide +kernel
theorem dX1_init_37 : decode cX1_init 37 = .ok (.iastore, 1) := by decide +kernel
theorem dX1_init_38 : decode cX1_init 38 = .ok (.dup, 1) := by decide +kernel
theorem dX1_init_39 : decode cX1_init 39 = .ok (.bipush 7, 2) := by decide +kernel
theorem dX1_init_41 : decode cX1_init 41 = .ok (.iconst 1, 1) := by decide +kernel
theorem dX1_init_42 : decode cX1_init 42 = .ok (.iastore, 1) := by decide +kernel
theorem dX1_init_43 : decode cX1_init 43 = .ok (.putfield 9, 3) := by decide +kernel
theorem dX1_init_46 : decode cX1_init 46 = .ok (.aload_n 0, 1) := by decide +kernel
theorem dX1_init_47 : decode cX1_init 47 = .ok (.iconst 1, 1) := by decide +kernel
theorem dX1_init_48 : decode cX1_init 48 = .ok (.putfield 15, 3) := by decide +kernel
theorem dX1_init_51 : decode cX1_init 51 = .ok (.aload_n 0, 1) := by decide +kernel
theorem dX1_init_52 : decode cX1_init 52 = .ok (.iconst 0, 1) := by decide +kernel
theorem dX1_init_53 : decode cX1_init 53 = .ok (.putfield 19, 3) := by decide +kernel
theorem dX1_init_56 : decode cX1_init 56 = .ok (.return_, 1) := by decide +kernel
theorem dX1_likenessOf_0 : decode cX1_likenessOf 0 = .ok (.aload_n 2, 1) := by decide +kernel
theorem dX1_likenessOf_1 : decode cX1_likenessOf 1 = .ok (.iload_n 1, 1) := by decide +kernel
theorem dX1_likenessOf_2 : decode cX1_likenessOf 2 = .ok (.invokevirtual 22, 3) := by decide +kernel
theorem dX1_likenessOf_5 : decode cX1_likenessOf 5 = .ok (.istore_n 3, 1) := by decide +kernel
theorem dX1_likenessOf_6 : decode cX1_likenessOf 6 = .ok (.aload_n 0, 1) := by decide +kernel
theorem dX1_likenessOf_7 : decode cX1_likenessOf 7 = .ok (.iload_n 1, 1) := by decide +kernel
theorem dX1_likenessOf_8 : decode cX1_likenessOf 8 = .ok (.iload_n 3, 1) := by decide +kernel
theorem dX1_likenessOf_9 : decode cX1_likenessOf 9 = .ok (.aload_n 2, 1) := by decide +kernel
theorem dX1_likenessOf_10 : decode cX1_likenessOf 10 = .ok (.getfield 28, 3) := by decide +kernel
theorem dX1_likenessOf_13 : decode cX1_likenessOf 13 = .ok (.iload_n 3, 1) := by decide +kernel
theorem dX1_likenessOf_14 : decode cX1_likenessOf 14 = .ok (.isub, 1) := by decide +kernel
theorem dX1_likenessOf_15 : decode cX1_likenessOf 15 = .ok (.invokevirtual 31, 3) := by decide +kernel
theorem dX1_likenessOf_18 : decode cX1_likenessOf 18 = .ok (.lreturn, 1) := by decide +kernel
theorem dX1_likenessBy_0 : decode cX1_likenessBy 0 = .ok (.aload_n 0, 1) := by decide +kernel
theorem dX1_likenessBy_1 : decode cX1_likenessBy 1 = .ok (.getfield 9, 3) := by decide +kernel
theorem dX1_likenessBy_4 : decode cX1_likenessBy 4 = .ok (.iload_n 1, 1) := by decide +kernel
theorem dX1_likenessBy_5 : decode cX1_likenessBy 5 = .ok (.iaload, 1) := by decide +kernel
theorem dX1_likenessBy_6 : decode cX1_likenessBy 6 = .ok (.i2l, 1) := by decide +kernel
theorem dX1_likenessBy_7 : decode cX1_likenessBy 7 = .ok (.bipush 12, 2) := by decide +kernel
theorem dX1_likenessBy_9 : decode cX1_likenessBy 9 = .ok (.aload_n 0, 1) := by decide +kernel
theorem dX1_likenessBy_10 : decode cX1_likenessBy 10 = .ok (.getfield 15, 3) := by decide +kernel
theorem dX1_likenessBy_13 : decode cX1_likenessBy 13 = .ok (.isub, 1) := by decide +kernel
theorem dX1_likenessBy_14 : decode cX1_likenessBy 14 = .ok (.i2l, 1) := by decide +kernel
theorem dX1_likenessBy_15 : decode cX1_likenessBy 15 = .ok (.iload_n 2, 1) := by decide +kernel
theorem dX1_likenessBy_16 : decode cX1_likenessBy 16 = .ok (.invokestatic 35, 3) := by decide +kernel
theorem dX1_likenessBy_19 : decode cX1_likenessBy 19 = .ok (.lmul, 1) := by decide +kernel
theorem dX1_likenessBy_20 : decode cX1_likenessBy 20 = .ok (.aload_n 0, 1) := by decide +kernel
theorem dX1_likenessBy_21 : decode cX1_likenessBy 21 = .ok (.getfield 15, 3) := by decide +kernel
theorem dX1_likenessBy_24 : decode cX1_likenessBy 24 = .ok (.i2l, 1) := by decide +kernel
theorem dX1_likenessBy_25 : decode cX1_likenessBy 25 = .ok (.iload_n 3, 1) := by decide +kernel
theorem dX1_likenessBy_26 : decode cX1_likenessBy 26 = .ok (.invokestatic 35, 3) := by decide +kernel
theorem dX1_likenessBy_29 : decode cX1_likenessBy 29 = .ok (.lmul, 1) := by decide +kernel
theorem dX1_likenessBy_30 : decode cX1_likenessBy 30 = .ok (.lreturn, 1) := by decide +kernel
theorem dX1_choice_0 : decode cX1_choice 0 = .ok (.iconst 0, 1) := by decide +kernel
theorem dX1_choice_1 : decode cX1_choice 1 = .ok (.istore_n 2, 1) := by decide +kernel
theorem dX1_choice_2 : decode cX1_choice 2 = .ok (.ldc2_w 39, 3) := by decide +kernel
theorem dX1_choice_5 : decode cX1_choice 5 = .ok (.lstore_n 3, 1) := by decide +kernel
theorem dX1_choice_6 : decode cX1_choice 6 = .ok (.iconst 0, 1) := by decide +kernel
theorem dX1_choice_7 : decode cX1_choice 7 = .ok (.istore 5, 2) := by decide +kernel
theorem dX1_choice_9 : decode cX1_choice 9 = .ok (.iload 5, 2) := by decide +kernel
theorem dX1_choice_11 : decode cX1_choice 11 = .ok (.bipush 8, 2) := by decide +kernel
theorem dX1_choice_13 : decode cX1_choice 13 = .ok (.if_icmp .ge 84, 3) := by decide +kernel
theorem dX1_choice_16 : decode cX1_choice 16 = .ok (.aload_n 1, 1) := by decide +kernel
theorem dX1_choice_17 : decode cX1_choice 17 = .ok (.iload 5, 2) := by decide +kernel
theorem dX1_choice_19 : decode cX1_choice 19 = .ok (.invokevirtual 22, 3) := by decide +kernel
theorem dX1_choice_22 : decode cX1_choice 22 = .ok (.istore 6, 2) := by decide +kernel
theorem dX1_choice_24 : decode cX1_choice 24 = .ok (.aload_n 0, 1) := by decide +kernel
theorem dX1_choice_25 : decode cX1_choice 25 = .ok (.getfield 19, 3) := by decide +kernel
theorem dX1_choice_28 : decode cX1_choice 28 = .ok (.iconst 1, 1) := by decide +kernel
theorem dX1_choice_29 : decode cX1_choice 29 = .ok (.if_icmp .ne 15, 3) := by decide +kernel
theorem dX1_choice_32 : decode cX1_choice 32 = .ok (.iload 6, 2) := by decide +kernel
theorem dX1_choice_34 : decode cX1_choice 34 = .ok (.aload_n 1, 1) := by decide +kernel
theorem dX1_choice_35 : decode cX1_choice 35 = .ok (.getfield 28, 3) := by decide +kernel
theorem dX1_choice_38 : decode cX1_choice 38 = .ok (.if_icmp .ne 6, 3) := by decide +kernel
theorem dX1_choice_41 : decode cX1_choice 41 = .ok (.iload 5, 2) := by decide +kernel
theorem dX1_choice_43 : decode cX1_choice 43 = .ok (.ireturn, 1) := by decide +kernel
theorem dX1_choice_44 : decode cX1_choice 44 = .ok (.aload_n 0, 1) := by decide +kernel
theorem dX1_choice_45 : decode cX1_choice 45 = .ok (.iload 5, 2) := by decide +kernel
theorem dX1_choice_47 : decode cX1_choice 47 = .ok (.iload 6, 2) := by decide +kernel
theorem dX1_choice_49 : decode cX1_choice 49 = .ok (.aload_n 1, 1) := by decide +kernel
theorem dX1_choice_50 : decode cX1_choice 50 = .ok (.getfield 28, 3) := by decide +kernel
theorem dX1_choice_53 : decode cX1_choice 53 = .ok (.iload 6, 2) := by decide +kernel
theorem dX1_choice_55 : decode cX1_choice 55 = .ok (.isub, 1) := by decide +kernel
theorem dX1_choice_56 : decode cX1_choice 56 = .ok (.invokevirtual 31, 3) := by decide +kernel
theorem dX1_choice_59 : decode cX1_choice 59 = .ok (.lstore 7, 2) := by decide +kernel
theorem dX1_choice_61 : decode cX1_choice 61 = .ok (.lload 7, 2) := by decide +kernel
theorem dX1_choice_63 : decode cX1_choice 63 = .ok (.lload_n 3, 1) := by decide +kernel
theorem dX1_choice_64 : decode cX1_choice 64 = .ok (.lcmp, 1) := by decide +kernel
theorem dX1_choice_65 : decode cX1_choice 65 = .ok (.ifCond .gt 20, 3) := by decide +kernel
theorem dX1_choice_68 : decode cX1_choice 68 = .ok (.lload 7, 2) := by decide +kernel
theorem dX1_choice_70 : decode cX1_choice 70 = .ok (.lload_n 3, 1) := by decide +kernel
theorem dX1_choice_71 : decode cX1_choice 71 = .ok (.lcmp, 1) := by decide +kernel
theorem dX1_choice_72 : decode cX1_choice 72 = .ok (.ifCond .ne 19, 3) := by decide +kernel
theorem dX1_choice_75 : decode cX1_choice 75 = .ok (.aload_n 0, 1) := by decide +kernel
theorem dX1_choice_76 : decode cX1_choice 76 = .ok (.iload 5, 2) := by decide +kernel
theorem dX1_choice_78 : decode cX1_choice 78 = .ok (.iload_n 2, 1) := by decide +kernel
theorem dX1_choice_79 : decode cX1_choice 79 = .ok (.invokevirtual 41, 3) := by decide +kernel
theorem dX1_choice_82 : decode cX1_choice 82 = .ok (.ifCond .eq 9, 3) := by decide +kernel
theorem dX1_choice_85 : decode cX1_choice 85 = .ok (.iload 5, 2) := by decide +kernel
theorem dX1_choice_87 : decode cX1_choice 87 = .ok (.istore_n 2, 1) := by decide +kernel
theorem dX1_choice_88 : decode cX1_choice 88 = .ok (.lload 7, 2) := by decide +kernel
theorem dX1_choice_90 : decode cX1_choice 90 = .ok (.lstore_n 3, 1) := by decide +kernel
theorem dX1_choice_91 : decode cX1_choice 91 = .ok (.iinc 5 1, 3) := by decide +kernel
theorem dX1_choice_94 : decode cX1_choice 94 = .ok (.goto (-85), 3) := by decide +kernel
theorem dX1_choice_97 : decode cX1_choice 97 = .ok (.iload_n 2, 1) := by decide +kernel
theorem dX1_choice_98 : decode cX1_choice 98 = .ok (.ireturn, 1) := by decide +kernel
theorem dX1_isRather_0 : decode cX1_isRather 0 = .ok (.aload_n 0, 1) := by decide +kernel
theorem dX1_isRather_1 : decode cX1_isRather 1 = .ok (.getfield 19, 3) := by decide +kernel
theorem dX1_isRather_4 : decode cX1_isRather 4 = .ok (.iconst 2, 1) := by decide +kernel
theorem dX1_isRather_5 : decode cX1_isRather 5 = .ok (.if_icmp .ne 18, 3) := by decide +kernel
theorem dX1_isRather_8 : decode cX1_isRather 8 = .ok (.iload_n 1, 1) := by decide +kernel
theorem dX1_isRather_9 : decode cX1_isRather 9 = .ok (.invokestatic 45, 3) := by decide +kernel
theorem dX1_isRather_12 : decode cX1_isRather 12 = .ok (.iload_n 2, 1) := by decide +kernel
theorem dX1_isRather_13 : decode cX1_isRather 13 = .ok (.invokestatic 45, 3) := by decide +kernel
theorem dX1_isRather_16 : decode cX1_isRather 16 = .ok (.if_icmp .ge 7, 3) := by decide +kernel
theorem dX1_isRather_19 : decode cX1_isRather 19 = .ok (.iconst 1, 1) := by decide +kernel
theorem dX1_isRather_20 : decode cX1_isRather 20 = .ok (.goto 4, 3) := by decide +kernel
theorem dX1_isRather_23 : decode cX1_isRather 23 = .ok (.iconst 0, 1) := by decide +kernel
theorem dX1_isRather_24 : decode cX1_isRather 24 = .ok (.ireturn, 1) := by decide +kernel
theorem dX2_init_0 : decode cX2_init 0 = .ok (.aload_n 0, 1) := by decide +kernel
theorem dX2_init_1 : decode cX2_init 1 = .ok (.invokespecial 3, 3) := by decide +kernel
theorem dX2_init_4 : decode cX2_init 4 = .ok (.aload_n 0, 1) := by decide +kernel
theorem dX2_init_5 : decode cX2_init 5 = .ok (.sipush 210, 3) := by decide +kernel
theorem dX2_init_8 : decode cX2_init 8 = .ok (.newarray .int, 2) := by decide +kernel
theorem dX2_init_10 : decode cX2_init 10 = .ok (.putfield 11, 3) := by decide +kernel
theorem dX2_init_13 : decode cX2_init 13 = .ok (.aload_n 0, 1) := by decide +kernel
theorem dX2_init_14 : decode cX2_init 14 = .ok (.sipush 210, 3) := by decide +kernel
theorem dX2_init_17 : decode cX2_init 17 = .ok (.newarray .int, 2) := by decide +kernel
theorem dX2_init_19 : decode cX2_init 19 = .ok (.putfield 15, 3) := by decide +kernel
theorem dX2_init_22 : decode cX2_init 22 = .ok (.aload_n 0, 1) := by decide +kernel
theorem dX2_init_23 : decode cX2_init 23 = .ok (.getstatic 18, 3) := by decide +kernel
theorem dX2_init_26 : decode cX2_init 26 = .ok (.iconst 4, 1) := by decide +kernel
theorem dX2_init_27 : decode cX2_init 27 = .ok (.iaload, 1) := by decide +kernel
theorem dX2_init_28 : decode cX2_init 28 = .ok (.bipush 6, 2) := by decide +kernel
theorem dX2_init_30 : decode cX2_init 30 = .ok (.imul, 1) := by decide +kernel
theorem dX2_init_31 : decode cX2_init 31 = .ok (.newarray .int, 2) := by decide +kernel
theorem dX2_init_33 : decode cX2_init 33 = .ok (.putfield 21, 3) := by decide +kernel
theorem dX2_init_36 : decode cX2_init 36 = .ok (.aload_n 0, 1) := by decide +kernel
theorem dX2_init_37 : decode cX2_init 37 = .ok (.sipush 210, 3) := by decide +kernel
theorem dX2_init_40 : decode cX2_init 40 = .ok (.newarray .int, 2) := by decide +kernel
theorem dX2_init_42 : decode cX2_init 42 = .ok (.putfield 24, 3) := by decide +kernel
theorem dX2_init_45 : decode cX2_init 45 = .ok (.aload_n 0, 1) := by decide +kernel
theorem dX2_init_46 : decode cX2_init 46 = .ok (.new 27, 3) := by decide +kernel
theorem dX2_init_49 : decode cX2_init 49 = .ok (.dup, 1) := by decide +kernel
theorem dX2_init_50 : decode cX2_init 50 = .ok (.invokespecial 29, 3) := by decide +kernel
theorem dX2_init_53 : decode cX2_init 53 = .ok (.putfield 30, 3) := by decide +kernel
theorem dX2_init_56 : decode cX2_init 56 = .ok (.aload_n 0, 1) := by decide +kernel
theorem dX2_init_57 : decode cX2_init 57 = .ok (.aload_n 1, 1) := by decide +kernel
theorem dX2_init_58 : decode cX2_init 58 = .ok (.putfield 34, 3) := by decide +kernel
theorem dX2_init_61 : decode cX2_init 61 = .ok (.iconst 0, 1) := by decide +kernel
theorem dX2_init_62 : decode cX2_init 62 = .ok (.istore_n 2, 1) := by decide +kernel
theorem dX2_init_63 : decode cX2_init 63 = .ok (.iload_n 2, 1) := by decide +kernel
theorem dX2_init_64 : decode cX2_init 64 = .ok (.iconst 4, 1) := by decide +kernel
theorem dX2_init_65 : decode cX2_init 65 = .ok (.if_icmp .ge 19, 3) := by decide +kernel
theorem dX2_init_68 : decode cX2_init 68 = .ok (.aload_n 0, 1) := by decide +kernel
theorem dX2_init_69 : decode cX2_init 69 = .ok (.iload_n 2, 1) := by decide +kernel
theorem dX2_init_70 : decode cX2_init 70 = .ok (.invokevirtual 38, 3) := by decide +kernel
theorem dX2_init_73 : decode cX2_init 73 = .ok (.aload_n 0, 1) := by decide +kernel
theorem dX2_init_74 : decode cX2_init 74 = .ok (.iload_n 2, 1) := by decide +kernel
theorem dX2_init_75 : decode cX2_init 75 = .ok (.invokevirtual 42, 3) := by decide +kernel
theorem dX2_init_78 : decode cX2_init 78 = .ok (.iinc 2 1, 3) := by decide +kernel
theorem dX2_init_81 : decode cX2_init 81 = .ok (.goto (-18), 3) := by decide +kernel
theorem dX2_init_84 : decode cX2_init 84 = .ok (.aload_n 0, 1) := by decide +kernel
theorem dX2_init_85 : decode cX2_init 85 = .ok (.invokevirtual 45, 3) := by decide +kernel
theorem dX2_init_88 : decode cX2_init 88 = .ok (.return_, 1) := by decide +kernel
theorem dX2_makeGreaterOnes_0 : decode cX2_makeGreaterOnes 0 = .ok (.getstatic 18, 3) := by decide +kernel
theorem dX2_makeGreaterOnes_3 : decode cX2_makeGreaterOnes 3 = .ok (.iload_n 1, 1) := by decide +kernel
theorem dX2_makeGreaterOnes_4 : decode cX2_makeGreaterOnes 4 = .ok (.iconst 1, 1) := by decide +kernel
theorem dX2_makeGreaterOnes_5 : decode cX2_makeGreaterOnes 5 = .ok (.iadd, 1) := by decide +kernel
theorem dX2_makeGreaterOnes_6 : decode cX2_makeGreaterOnes 6 = .ok (.iaload, 1) := by decide +kernel
theorem dX2_makeGreaterOnes_7 : decode cX2_makeGreaterOnes 7 = .ok (.istore_n 2, 1) := by decide +kernel
theorem dX2_makeGreaterOnes_8 : decode cX2_makeGreaterOnes 8 = .ok (.getstatic 18, 3) := by decide +kernel
theorem dX2_makeGreaterOnes_11 : decode cX2_makeGreaterOnes 11 = .ok (.iload_n 1, 1) := by decide +kernel
theorem dX2_makeGreaterOnes_12 : decode cX2_makeGreaterOnes 12 = .ok (.iaload, 1) := by decide +kernel
theorem dX2_makeGreaterOnes_13 : decode cX2_makeGreaterOnes 13 = .ok (.istore_n 3, 1) := by decide +kernel
theorem dX2_makeGreaterOnes_14 : decode cX2_makeGreaterOnes 14 = .ok (.iload_n 3, 1) := by decide +kernel
theorem dX2_makeGreaterOnes_15 : decode cX2_makeGreaterOnes 15 = .ok (.getstatic 18, 3) := by decide +kernel
theorem dX2_makeGreaterOnes_18 : decode cX2_makeGreaterOnes 18 = .ok (.iload_n 1, 1) := by decide +kernel
theorem dX2_makeGreaterOnes_19 : decode cX2_makeGreaterOnes 19 = .ok (.iconst 1, 1) := by decide +kernel
theorem dX2_makeGreaterOnes_20 : decode cX2_makeGreaterOnes 20 = .ok (.iadd, 1) := by decide +kernel
theorem dX2_makeGreaterOnes_21 : decode cX2_makeGreaterOnes 21 = .ok (.iaload, 1) := by decide +kernel
theorem dX2_makeGreaterOnes_22 : decode cX2_makeGreaterOnes 22 = .ok (.if_icmp .ge 61, 3) := by decide +kernel
theorem dX2_makeGreaterOnes_25 : decode cX2_makeGreaterOnes 25 = .ok (.aload_n 0, 1) := by decide +kernel
theorem dX2_makeGreaterOnes_26 : decode cX2_makeGreaterOnes 26 = .ok (.getfield 15, 3) := by decide +kernel
theorem dX2_makeGreaterOnes_29 : decode cX2_makeGreaterOnes 29 = .ok (.iload_n 3, 1) := by decide +kernel
theorem dX2_makeGreaterOnes_30 : decode cX2_makeGreaterOnes 30 = .ok (.iaload, 1) := by decide +kernel
theorem dX2_makeGreaterOnes_31 : decode cX2_makeGreaterOnes 31 = .ok (.istore 4, 2) := by decide +kernel
theorem dX2_makeGreaterOnes_33 : decode cX2_makeGreaterOnes 33 = .ok (.iload 4, 2) := by decide +kernel
theorem dX2_makeGreaterOnes_35 : decode cX2_makeGreaterOnes 35 = .ok (.bipush 6, 2) := by decide +kernel
theorem dX2_makeGreaterOnes_37 : decode cX2_makeGreaterOnes 37 = .ok (.if_icmp .ge 40, 3) := by decide +kernel
theorem dX2_makeGreaterOnes_40 : decode cX2_makeGreaterOnes 40 = .ok (.aload_n 0, 1) := by decide +kernel
theorem dX2_makeGreaterOnes_41 : decode cX2_makeGreaterOnes 41 = .ok (.getfield 21, 3) := by decide +kernel
theorem dX2_makeGreaterOnes_44 : decode cX2_makeGreaterOnes 44 = .ok (.iload_n 3, 1) := by decide +kernel
theorem dX2_makeGreaterOnes_45 : decode cX2_makeGreaterOnes 45 = .ok (.bipush 6, 2) := by decide +kernel
theorem dX2_makeGreaterOnes_47 : decode cX2_makeGreaterOnes 47 = .ok (.imul, 1) := by decide +kernel
theorem dX2_makeGreaterOnes_48 : decode cX2_makeGreaterOnes 48 = .ok (.iload 4, 2) := by decide +kernel
theorem dX2_makeGreaterOnes_50 : decode cX2_makeGreaterOnes 50 = .ok (.iadd, 1) := by decide +kernel
theorem dX2_makeGreaterOnes_51 : decode cX2_makeGreaterOnes 51 = .ok (.iload_n 2, 1) := by decide +kernel
theorem dX2_makeGreaterOnes_52 : decode cX2_makeGreaterOnes 52 = .ok (.iastore, 1) := by decide +kernel
theorem dX2_makeGreaterOnes_53 : decode cX2_makeGreaterOnes 53 = .ok (.aload_n 0, 1) := by decide +kernel
theorem dX2_makeGreaterOnes_54 : decode cX2_makeGreaterOnes 54 = .ok (.getfield 11, 3) := by decide +kernel
theorem dX2_makeGreaterOnes_57 : decode cX2_makeGreaterOnes 57 = .ok (.iload_n 2, 1) := by decide +kernel
theorem dX2_makeGreaterOnes_58 : decode cX2_makeGreaterOnes 58 = .ok (.iload_n 3, 1) := by decide +kernel
theorem dX2_makeGreaterOnes_59 : decode cX2_makeGreaterOnes 59 = .ok (.iastore, 1) := by decide +kernel
theorem dX2_makeGreaterOnes_60 : decode cX2_makeGreaterOnes 60 = .ok (.aload_n 0, 1) := by decide +kernel
theorem dX2_makeGreaterOnes_61 : decode cX2_makeGreaterOnes 61 = .ok (.getfield 15, 3) := by decide +kernel
theorem dX2_makeGreaterOnes_64 : decode cX2_makeGreaterOnes 64 = .ok (.iload_n 2, 1) := by decide +kernel
theorem dX2_makeGreaterOnes_65 : decode cX2_makeGreaterOnes 65 = .ok (.iload 4, 2) := by decide +kernel
theorem dX2_makeGreaterOnes_67 : decode cX2_makeGreaterOnes 67 = .ok (.iastore, 1) := by decide +kernel
theorem dX2_makeGreaterOnes_68 : decode cX2_makeGreaterOnes 68 = .ok (.iinc 2 1, 3) := by decide +kernel
theorem dX2_makeGreaterOnes_71 : decode cX2_makeGreaterOnes 71 = .ok (.iinc 4 1, 3) := by decide +kernel
theorem dX2_makeGreaterOnes_74 : decode cX2_makeGreaterOnes 74 = .ok (.goto (-41), 3) := by decide +kernel
theorem dX2_makeGreaterOnes_77 : decode cX2_makeGreaterOnes 77 = .ok (.iinc 3 1, 3) := by decide +kernel
theorem dX2_makeGreaterOnes_80 : decode cX2_makeGreaterOnes 80 = .ok (.goto (-66), 3) := by decide +kernel
theorem dX2_makeGreaterOnes_83 : decode cX2_makeGreaterOnes 83 = .ok (.return_, 1) := by decide +kernel
theorem dX2_joinGreaterOnes_0 : decode cX2_joinGreaterOnes 0 = .ok (.getstatic 18, 3) := by decide +kernel
theorem dX2_joinGreaterOnes_3 : decode cX2_joinGreaterOnes 3 = .ok (.iload_n 1, 1) := by decide +kernel
theorem dX2_joinGreaterOnes_4 : decode cX2_joinGreaterOnes 4 = .ok (.iaload, 1) := by decide +kernel
theorem dX2_joinGreaterOnes_5 : decode cX2_joinGreaterOnes 5 = .ok (.istore_n 2, 1) := by decide +kernel
theorem dX2_joinGreaterOnes_6 : decode cX2_joinGreaterOnes 6 = .ok (.iload_n 2, 1) := by decide +kernel
theorem dX2_joinGreaterOnes_7 : decode cX2_joinGreaterOnes 7 = .ok (.getstatic 18, 3) := by decide +kernel
theorem dX2_joinGreaterOnes_10 : decode cX2_joinGreaterOnes 10 = .ok (.iload_n 1, 1) := by decide +kernel
theorem dX2_joinGreaterOnes_11 : decode cX2_joinGreaterOnes 11 = .ok (.iconst 1, 1) := by decide +kernel
theorem dX2_joinGreaterOnes_12 : decode cX2_joinGreaterOnes 12 = .ok (.iadd, 1) := by decide +kernel
theorem dX2_joinGreaterOnes_13 : decode cX2_joinGreaterOnes 13 = .ok (.iaload, 1) := by decide +kernel
theorem dX2_joinGreaterOnes_14 : decode cX2_joinGreaterOnes 14 = .ok (.if_icmp .ge 73, 3) := by decide +kernel
theorem dX2_joinGreaterOnes_17 : decode cX2_joinGreaterOnes 17 = .ok (.iconst 0, 1) := by decide +kernel
theorem dX2_joinGreaterOnes_18 : decode cX2_joinGreaterOnes 18 = .ok (.istore_n 3, 1) := by decide +kernel
theorem dX2_joinGreaterOnes_19 : decode cX2_joinGreaterOnes 19 = .ok (.iload_n 3, 1) := by decide +kernel
theorem dX2_joinGreaterOnes_20 : decode cX2_joinGreaterOnes 20 = .ok (.aload_n 0, 1) := by decide +kernel
theorem dX2_joinGreaterOnes_21 : decode cX2_joinGreaterOnes 21 = .ok (.getfield 15, 3) := by decide +kernel
theorem dX2_joinGreaterOnes_24 : decode cX2_joinGreaterOnes 24 = .ok (.iload_n 2, 1) := by decide +kernel
theorem dX2_joinGreaterOnes_25 : decode cX2_joinGreaterOnes 25 = .ok (.iaload, 1) := by decide +kernel
theorem dX2_joinGreaterOnes_26 : decode cX2_joinGreaterOnes 26 = .ok (.if_icmp .ge 55, 3) := by decide +kernel
theorem dX2_joinGreaterOnes_29 : decode cX2_joinGreaterOnes 29 = .ok (.aload_n 0, 1) := by decide +kernel
theorem dX2_joinGreaterOnes_30 : decode cX2_joinGreaterOnes 30 = .ok (.getfield 21, 3) := by decide +kernel
theorem dX2_joinGreaterOnes_33 : decode cX2_joinGreaterOnes 33 = .ok (.aload_n 0, 1) := by decide +kernel
theorem dX2_joinGreaterOnes_34 : decode cX2_joinGreaterOnes 34 = .ok (.getfield 11, 3) := by decide +kernel
theorem dX2_joinGreaterOnes_37 : decode cX2_joinGreaterOnes 37 = .ok (.iload_n 2, 1) := by decide +kernel
theorem dX2_joinGreaterOnes_38 : decode cX2_joinGreaterOnes 38 = .ok (.iaload, 1) := by decide +kernel
theorem dX2_joinGreaterOnes_39 : decode cX2_joinGreaterOnes 39 = .ok (.bipush 6, 2) := by decide +kernel
theorem dX2_joinGreaterOnes_41 : decode cX2_joinGreaterOnes 41 = .ok (.imul, 1) := by decide +kernel
theorem dX2_joinGreaterOnes_42 : decode cX2_joinGreaterOnes 42 = .ok (.iload_n 3, 1) := by decide +kernel
theorem dX2_joinGreaterOnes_43 : decode cX2_joinGreaterOnes 43 = .ok (.iadd, 1) := by decide +kernel
theorem dX2_joinGreaterOnes_44 : decode cX2_joinGreaterOnes 44 = .ok (.iaload, 1) := by decide +kernel
theorem dX2_joinGreaterOnes_45 : decode cX2_joinGreaterOnes 45 = .ok (.istore 4, 2) := by decide +kernel
theorem dX2_joinGreaterOnes_47 : decode cX2_joinGreaterOnes 47 = .ok (.aload_n 0, 1) := by decide +kernel
theorem dX2_joinGreaterOnes_48 : decode cX2_joinGreaterOnes 48 = .ok (.getfield 21, 3) := by decide +kernel
theorem dX2_joinGreaterOnes_51 : decode cX2_joinGreaterOnes 51 = .ok (.iload_n 2, 1) := by decide +kernel
theorem dX2_joinGreaterOnes_52 : decode cX2_joinGreaterOnes 52 = .ok (.bipush 6, 2) := by decide +kernel
theorem dX2_joinGreaterOnes_54 : decode cX2_joinGreaterOnes 54 = .ok (.imul, 1) := by decide +kernel
theorem dX2_joinGreaterOnes_55 : decode cX2_joinGreaterOnes 55 = .ok (.iload_n 3, 1) := by decide +kernel
theorem dX2_joinGreaterOnes_56 : decode cX2_joinGreaterOnes 56 = .ok (.iadd, 1) := by decide +kernel
theorem dX2_joinGreaterOnes_57 : decode cX2_joinGreaterOnes 57 = .ok (.aload_n 0, 1) := by decide +kernel
theorem dX2_joinGreaterOnes_58 : decode cX2_joinGreaterOnes 58 = .ok (.getfield 21, 3) := by decide +kernel
theorem dX2_joinGreaterOnes_61 : decode cX2_joinGreaterOnes 61 = .ok (.iload 4, 2) := by decide +kernel
theorem dX2_joinGreaterOnes_63 : decode cX2_joinGreaterOnes 63 = .ok (.bipush 6, 2) := by decide +kernel
theorem dX2_joinGreaterOnes_65 : decode cX2_joinGreaterOnes 65 = .ok (.imul, 1) := by decide +kernel
theorem dX2_joinGreaterOnes_66 : decode cX2_joinGreaterOnes 66 = .ok (.aload_n 0, 1) := by decide +kernel
theorem dX2_joinGreaterOnes_67 : decode cX2_joinGreaterOnes 67 = .ok (.getfield 15, 3) := by decide +kernel
theorem dX2_joinGreaterOnes_70 : decode cX2_joinGreaterOnes 70 = .ok (.iload_n 2, 1) := by decide +kernel
theorem dX2_joinGreaterOnes_71 : decode cX2_joinGreaterOnes 71 = .ok (.iaload, 1) := by decide +kernel
theorem dX2_joinGreaterOnes_72 : decode cX2_joinGreaterOnes 72 = .ok (.iadd, 1) := by decide +kernel
theorem dX2_joinGreaterOnes_73 : decode cX2_joinGreaterOnes 73 = .ok (.iaload, 1) := by decide +kernel
theorem dX2_joinGreaterOnes_74 : decode cX2_joinGreaterOnes 74 = .ok (.iastore, 1) := by decide +kernel
theorem dX2_joinGreaterOnes_75 : decode cX2_joinGreaterOnes 75 = .ok (.iinc 3 1, 3) := by decide +kernel
theorem dX2_joinGreaterOnes_78 : decode cX2_joinGreaterOnes 78 = .ok (.goto (-59), 3) := by decide +kernel
theorem dX2_joinGreaterOnes_81 : decode cX2_joinGreaterOnes 81 = .ok (.iinc 2 1, 3) := by decide +kernel
theorem dX2_joinGreaterOnes_84 : decode cX2_joinGreaterOnes 84 = .ok (.goto (-78), 3) := by decide +kernel
theorem dX2_joinGreaterOnes_87 : decode cX2_joinGreaterOnes 87 = .ok (.return_, 1) := by decide +kernel
theorem dX2_forgetChoices_0 : decode cX2_forgetChoices 0 = .ok (.aload_n 0, 1) := by decide +kernel
theorem dX2_forgetChoices_1 : decode cX2_forgetChoices 1 = .ok (.getfield 24, 3) := by decide +kernel
theorem dX2_forgetChoices_4 : decode cX2_forgetChoices 4 = .ok (.iconst (-1), 1) := by decide +kernel
theorem dX2_forgetChoices_5 : decode cX2_forgetChoices 5 = .ok (.invokestatic 48, 3) := by decide +kernel
theorem dX2_forgetChoices_8 : decode cX2_forgetChoices 8 = .ok (.return_, 1) := by decide +kernel
theorem dX2_choiceBehind_0 : decode cX2_choiceBehind 0 = .ok (.aload_n 0, 1) := by decide +kernel
theorem dX2_choiceBehind_1 : decode cX2_choiceBehind 1 = .ok (.getfield 24, 3) := by decide +kernel
theorem dX2_choiceBehind_4 : decode cX2_choiceBehind 4 = .ok (.iload_n 1, 1) := by decide +kernel
theorem dX2_choiceBehind_5 : decode cX2_choiceBehind 5 = .ok (.iaload, 1) := by decide +kernel
theorem dX2_choiceBehind_6 : decode cX2_choiceBehind 6 = .ok (.iconst (-1), 1) := by decide +kernel
theorem dX2_choiceBehind_7 : decode cX2_choiceBehind 7 = .ok (.if_icmp .ne 25, 3) := by decide +kernel
theorem dX2_choiceBehind_10 : decode cX2_choiceBehind 10 = .ok (.aload_n 0, 1) := by decide +kernel
theorem dX2_choiceBehind_11 : decode cX2_choiceBehind 11 = .ok (.iload_n 1, 1) := by decide +kernel
theorem dX2_choiceBehind_12 : decode cX2_choiceBehind 12 = .ok (.invokevirtual 54, 3) := by decide +kernel
theorem dX2_choiceBehind_15 : decode cX2_choiceBehind 15 = .ok (.aload_n 0, 1) := by decide +kernel
theorem dX2_choiceBehind_16 : decode cX2_choiceBehind 16 = .ok (.getfield 24, 3) := by decide +kernel
theorem dX2_choiceBehind_19 : decode cX2_choiceBehind 19 = .ok (.iload_n 1, 1) := by decide +kernel
theorem dX2_choiceBehind_20 : decode cX2_choiceBehind 20 = .ok (.aload_n 0, 1) := by decide +kernel
theorem dX2_choiceBehind_21 : decode cX2_choiceBehind 21 = .ok (.getfield 34, 3) := by decide +kernel
theorem dX2_choiceBehind_24 : decode cX2_choiceBehind 24 = .ok (.aload_n 0, 1) := by decide +kernel
theorem dX2_choiceBehind_25 : decode cX2_choiceBehind 25 = .ok (.getfield 30, 3) := by decide +kernel
theorem dX2_choiceBehind_28 : decode cX2_choiceBehind 28 = .ok (.invokevirtual 57, 3) := by decide +kernel
theorem dX2_choiceBehind_31 : decode cX2_choiceBehind 31 = .ok (.iastore, 1) := by decide +kernel
theorem dX2_choiceBehind_32 : decode cX2_choiceBehind 32 = .ok (.aload_n 0, 1) := by decide +kernel
theorem dX2_choiceBehind_33 : decode cX2_choiceBehind 33 = .ok (.getfield 24, 3) := by decide +kernel
theorem dX2_choiceBehind_36 : decode cX2_choiceBehind 36 = .ok (.iload_n 1, 1) := by decide +kernel
theorem dX2_choiceBehind_37 : decode cX2_choiceBehind 37 = .ok (.iaload, 1) := by decide +kernel
theorem dX2_choiceBehind_38 : decode cX2_choiceBehind 38 = .ok (.ireturn, 1) := by decide +kernel
theorem dX2_countSayings_0 : decode cX2_countSayings 0 = .ok (.aload_n 0, 1) := by decide +kernel
theorem dX2_countSayings_1 : decode cX2_countSayings 1 = .ok (.getfield 30, 3) := by decide +kernel
theorem dX2_countSayings_4 : decode cX2_countSayings 4 = .ok (.invokevirtual 63, 3) := by decide +kernel
theorem dX2_countSayings_7 : decode cX2_countSayings 7 = .ok (.iload_n 1, 1) := by decide +kernel
theorem dX2_countSayings_8 : decode cX2_countSayings 8 = .ok (.istore_n 2, 1) := by decide +kernel
theorem dX2_countSayings_9 : decode cX2_countSayings 9 = .ok (.iconst 0, 1) := by decide +kernel
theorem dX2_countSayings_10 : decode cX2_countSayings 10 = .ok (.istore_n 3, 1) := by decide +kernel
theorem dX2_countSayings_11 : decode cX2_countSayings 11 = .ok (.iload_n 3, 1) := by decide +kernel
theorem dX2_countSayings_12 : decode cX2_countSayings 12 = .ok (.iconst 4, 1) := by decide +kernel
theorem dX2_countSayings_13 : decode cX2_countSayings 13 = .ok (.if_icmp .ge 33, 3) := by decide +kernel
theorem dX2_countSayings_16 : decode cX2_countSayings 16 = .ok (.iload_n 2, 1) := by decide +kernel
theorem dX2_countSayings_17 : decode cX2_countSayings 17 = .ok (.ifCond .le 29, 3) := by decide +kernel
theorem dX2_countSayings_20 : decode cX2_countSayings 20 = .ok (.aload_n 0, 1) := by decide +kernel
theorem dX2_countSayings_21 : decode cX2_countSayings 21 = .ok (.getfield 30, 3) := by decide +kernel
theorem dX2_countSayings_24 : decode cX2_countSayings 24 = .ok (.aload_n 0, 1) := by decide +kernel
theorem dX2_countSayings_25 : decode cX2_countSayings 25 = .ok (.getfield 15, 3) := by decide +kernel
theorem dX2_countSayings_28 : decode cX2_countSayings 28 = .ok (.iload_n 2, 1) := by decide +kernel
theorem dX2_countSayings_29 : decode cX2_countSayings 29 = .ok (.iaload, 1) := by decide +kernel
theorem dX2_countSayings_30 : decode cX2_countSayings 30 = .ok (.invokevirtual 66, 3) := by decide +kernel
theorem dX2_countSayings_33 : decode cX2_countSayings 33 = .ok (.aload_n 0, 1) := by decide +kernel
theorem dX2_countSayings_34 : decode cX2_countSayings 34 = .ok (.getfield 11, 3) := by decide +kernel
theorem dX2_countSayings_37 : decode cX2_countSayings 37 = .ok (.iload_n 2, 1) := by decide +kernel
theorem dX2_countSayings_38 : decode cX2_countSayings 38 = .ok (.iaload, 1) := by decide +kernel
theorem dX2_countSayings_39 : decode cX2_countSayings 39 = .ok (.istore_n 2, 1) := by decide +kernel
theorem dX2_countSayings_40 : decode cX2_countSayings 40 = .ok (.iinc 3 1, 3) := by decide +kernel
theorem dX2_countSayings_43 : decode cX2_countSayings 43 = .ok (.goto (-32), 3) := by decide +kernel
theorem dX2_countSayings_46 : decode cX2_countSayings 46 = .ok (.return_, 1) := by decide +kernel
theorem dX2_sizeOf_0 : decode cX2_sizeOf 0 = .ok (.iconst 0, 1) := by decide +kernel
theorem dX2_sizeOf_1 : decode cX2_sizeOf 1 = .ok (.istore_n 2, 1) := by decide +kernel
theorem dX2_sizeOf_2 : decode cX2_sizeOf 2 = .ok (.iload_n 2, 1) := by decide +kernel
theorem dX2_sizeOf_3 : decode cX2_sizeOf 3 = .ok (.iconst 4, 1) := by decide +kernel
theorem dX2_sizeOf_4 : decode cX2_sizeOf 4 = .ok (.if_icmp .ge 20, 3) := by decide +kernel
theorem dX2_sizeOf_7 : decode cX2_sizeOf 7 = .ok (.iload_n 1, 1) := by decide +kernel
theorem dX2_sizeOf_8 : decode cX2_sizeOf 8 = .ok (.getstatic 18, 3) := by decide +kernel
theorem dX2_sizeOf_11 : decode cX2_sizeOf 11 = .ok (.iload_n 2, 1) := by decide +kernel
theorem dX2_sizeOf_12 : decode cX2_sizeOf 12 = .ok (.iconst 1, 1) := by decide +kernel
theorem dX2_sizeOf_13 : decode cX2_sizeOf 13 = .ok (.iadd, 1) := by decide +kernel
theorem dX2_sizeOf_14 : decode cX2_sizeOf 14 = .ok (.iaload, 1) := by decide +kernel
theorem dX2_sizeOf_15 : decode cX2_sizeOf 15 = .ok (.if_icmp .lt 9, 3) := by decide +kernel
theorem dX2_sizeOf_18 : decode cX2_sizeOf 18 = .ok (.iinc 2 1, 3) := by decide +kernel
theorem dX2_sizeOf_21 : decode cX2_sizeOf 21 = .ok (.goto (-19), 3) := by decide +kernel
theorem dX2_sizeOf_24 : decode cX2_sizeOf 24 = .ok (.iload_n 2, 1) := by decide +kernel
theorem dX2_sizeOf_25 : decode cX2_sizeOf 25 = .ok (.ireturn, 1) := by decide +kernel
theorem dX2_sayingOf_0 : decode cX2_sayingOf 0 = .ok (.iload_n 1, 1) := by decide +kernel
theorem dX2_sayingOf_1 : decode cX2_sayingOf 1 = .ok (.istore_n 3, 1) := by decide +kernel
theorem dX2_sayingOf_2 : decode cX2_sayingOf 2 = .ok (.iconst 0, 1) := by decide +kernel
theorem dX2_sayingOf_3 : decode cX2_sayingOf 3 = .ok (.istore 4, 2) := by decide +kernel
theorem dX2_sayingOf_5 : decode cX2_sayingOf 5 = .ok (.iload 4, 2) := by decide +kernel
theorem dX2_sayingOf_7 : decode cX2_sayingOf 7 = .ok (.iload_n 2, 1) := by decide +kernel
theorem dX2_sayingOf_8 : decode cX2_sayingOf 8 = .ok (.if_icmp .ge 22, 3) := by decide +kernel
theorem dX2_sayingOf_11 : decode cX2_sayingOf 11 = .ok (.iload 4, 2) := by decide +kernel
theorem dX2_sayingOf_13 : decode cX2_sayingOf 13 = .ok (.iconst 4, 1) := by decide +kernel
theorem dX2_sayingOf_14 : decode cX2_sayingOf 14 = .ok (.if_icmp .ge 16, 3) := by decide +kernel
theorem dX2_sayingOf_17 : decode cX2_sayingOf 17 = .ok (.aload_n 0, 1) := by decide +kernel
theorem dX2_sayingOf_18 : decode cX2_sayingOf 18 = .ok (.getfield 11, 3) := by decide +kernel
theorem dX2_sayingOf_21 : decode cX2_sayingOf 21 = .ok (.iload_n 3, 1) := by decide +kernel
theorem dX2_sayingOf_22 : decode cX2_sayingOf 22 = .ok (.iaload, 1) := by decide +kernel
theorem dX2_sayingOf_23 : decode cX2_sayingOf 23 = .ok (.istore_n 3, 1) := by decide +kernel
theorem dX2_sayingOf_24 : decode cX2_sayingOf 24 = .ok (.iinc 4 1, 3) := by decide +kernel
theorem dX2_sayingOf_27 : decode cX2_sayingOf 27 = .ok (.goto (-22), 3) := by decide +kernel
theorem dX2_sayingOf_30 : decode cX2_sayingOf 30 = .ok (.aload_n 0, 1) := by decide +kernel
theorem dX2_sayingOf_31 : decode cX2_sayingOf 31 = .ok (.getfield 15, 3) := by decide +kernel
theorem dX2_sayingOf_34 : decode cX2_sayingOf 34 = .ok (.iload_n 3, 1) := by decide +kernel
theorem dX2_sayingOf_35 : decode cX2_sayingOf 35 = .ok (.iaload, 1) := by decide +kernel
theorem dX2_sayingOf_36 : decode cX2_sayingOf 36 = .ok (.ireturn, 1) := by decide +kernel
theorem dX2_firstThatTeaches_0 : decode cX2_firstThatTeaches 0 = .ok (.iconst 1, 1) := by decide +kernel
theorem dX2_firstThatTeaches_1 : decode cX2_firstThatTeaches 1 = .ok (.istore_n 2, 1) := by decide +kernel
theorem dX2_firstThatTeaches_2 : decode cX2_firstThatTeaches 2 = .ok (.iload_n 2, 1) := by decide +kernel
theorem dX2_firstThatTeaches_3 : decode cX2_firstThatTeaches 3 = .ok (.sipush 210, 3) := by decide +kernel
theorem dX2_firstThatTeaches_6 : decode cX2_firstThatTeaches 6 = .ok (.if_icmp .ge 43, 3) := by decide +kernel
theorem dX2_firstThatTeaches_9 : decode cX2_firstThatTeaches 9 = .ok (.aload_n 0, 1) := by decide +kernel
theorem dX2_firstThatTeaches_10 : decode cX2_firstThatTeaches 10 = .ok (.iload_n 2, 1) := by decide +kernel
theorem dX2_firstThatTeaches_11 : decode cX2_firstThatTeaches 11 = .ok (.invokevirtual 54, 3) := by decide +kernel
theorem dX2_firstThatTeaches_14 : decode cX2_firstThatTeaches 14 = .ok (.aload_n 0, 1) := by decide +kernel
theorem dX2_firstThatTeaches_15 : decode cX2_firstThatTeaches 15 = .ok (.getfield 30, 3) := by decide +kernel
theorem dX2_firstThatTeaches_18 : decode cX2_firstThatTeaches 18 = .ok (.iload_n 1, 1) := by decide +kernel
theorem dX2_firstThatTeaches_19 : decode cX2_firstThatTeaches 19 = .ok (.invokevirtual 69, 3) := by decide +kernel
theorem dX2_firstThatTeaches_22 : decode cX2_firstThatTeaches 22 = .ok (.aload_n 0, 1) := by decide +kernel
theorem dX2_firstThatTeaches_23 : decode cX2_firstThatTeaches 23 = .ok (.getfield 30, 3) := by decide +kernel
theorem dX2_firstThatTeaches_26 : decode cX2_firstThatTeaches 26 = .ok (.getfield 73, 3) := by decide +kernel
theorem dX2_firstThatTeaches_29 : decode cX2_firstThatTeaches 29 = .ok (.if_icmp .ne 14, 3) := by decide +kernel
theorem dX2_firstThatTeaches_32 : decode cX2_firstThatTeaches 32 = .ok (.aload_n 0, 1) := by decide +kernel
theorem dX2_firstThatTeaches_33 : decode cX2_firstThatTeaches 33 = .ok (.iload_n 2, 1) := by decide +kernel
theorem dX2_firstThatTeaches_34 : decode cX2_firstThatTeaches 34 = .ok (.invokevirtual 77, 3) := by decide +kernel
theorem dX2_firstThatTeaches_37 : decode cX2_firstThatTeaches 37 = .ok (.iload_n 1, 1) := by decide +kernel
theorem dX2_firstThatTeaches_38 : decode cX2_firstThatTeaches 38 = .ok (.if_icmp .ne 5, 3) := by decide +kernel
theorem dX2_firstThatTeaches_41 : decode cX2_firstThatTeaches 41 = .ok (.iload_n 2, 1) := by decide +kernel
theorem dX2_firstThatTeaches_42 : decode cX2_firstThatTeaches 42 = .ok (.ireturn, 1) := by decide +kernel
theorem dX2_firstThatTeaches_43 : decode cX2_firstThatTeaches 43 = .ok (.iinc 2 1, 3) := by decide +kernel
theorem dX2_firstThatTeaches_46 : decode cX2_firstThatTeaches 46 = .ok (.goto (-44), 3) := by decide +kernel
theorem dX2_firstThatTeaches_49 : decode cX2_firstThatTeaches 49 = .ok (.bipush (-6), 2) := by decide +kernel
theorem dX2_firstThatTeaches_51 : decode cX2_firstThatTeaches 51 = .ok (.ireturn, 1) := by decide +kernel
theorem dX3_init_0 : decode cX3_init 0 = .ok (.aload_n 0, 1) := by decide +kernel
theorem dX3_init_1 : decode cX3_init 1 = .ok (.invokespecial 3, 3) := by decide +kernel
theorem dX3_init_4 : decode cX3_init 4 = .ok (.aload_n 0, 1) := by decide +kernel
theorem dX3_init_5 : decode cX3_init 5 = .ok (.bipush 40, 2) := by decide +kernel
theorem dX3_init_7 : decode cX3_init 7 = .ok (.newarray .int, 2) := by decide +kernel
theorem dX3_init_9 : decode cX3_init 9 = .ok (.putfield 11, 3) := by decide +kernel
theorem dX3_init_12 : decode cX3_init 12 = .ok (.aload_n 0, 1) := by decide +kernel
theorem dX3_init_13 : decode cX3_init 13 = .ok (.iconst 0, 1) := by decide +kernel
theorem dX3_init_14 : decode cX3_init 14 = .ok (.putfield 15, 3) := by decide +kernel
theorem dX3_init_17 : decode cX3_init 17 = .ok (.return_, 1) := by decide +kernel
theorem dX3_add_0 : decode cX3_add 0 = .ok (.aload_n 0, 1) := by decide +kernel
theorem dX3_add_1 : decode cX3_add 1 = .ok (.getfield 15, 3) := by decide +kernel
theorem dX3_add_4 : decode cX3_add 4 = .ok (.bipush 40, 2) := by decide +kernel
theorem dX3_add_6 : decode cX3_add 6 = .ok (.if_icmp .lt 5, 3) := by decide +kernel
theorem dX3_add_9 : decode cX3_add 9 = .ok (.iconst 0, 1) := by decide +kernel
theorem dX3_add_10 : decode cX3_add 10 = .ok (.ireturn, 1) := by decide +kernel
theorem dX3_add_11 : decode cX3_add 11 = .ok (.aload_n 0, 1) := by decide +kernel
theorem dX3_add_12 : decode cX3_add 12 = .ok (.getfield 11, 3) := by decide +kernel
theorem dX3_add_15 : decode cX3_add 15 = .ok (.aload_n 0, 1) := by decide +kernel
theorem dX3_add_16 : decode cX3_add 16 = .ok (.getfield 15, 3) := by decide +kernel
theorem dX3_add_19 : decode cX3_add 19 = .ok (.iload_n 1, 1) := by decide +kernel
theorem dX3_add_20 : decode cX3_add 20 = .ok (.iastore, 1) := by decide +kernel
theorem dX3_add_21 : decode cX3_add 21 = .ok (.aload_n 0, 1) := by decide +kernel
theorem dX3_add_22 : decode cX3_add 22 = .ok (.dup, 1) := by decide +kernel
theorem dX3_add_23 : decode cX3_add 23 = .ok (.getfield 15, 3) := by decide +kernel
theorem dX3_add_26 : decode cX3_add 26 = .ok (.iconst 1, 1) := by decide +kernel
theorem dX3_add_27 : decode cX3_add 27 = .ok (.iadd, 1) := by decide +kernel
theorem dX3_add_28 : decode cX3_add 28 = .ok (.putfield 15, 3) := by decide +kernel
theorem dX3_add_31 : decode cX3_add 31 = .ok (.iconst 1, 1) := by decide +kernel
theorem dX3_add_32 : decode cX3_add 32 = .ok (.ireturn, 1) := by decide +kernel
theorem dX3_clear_0 : decode cX3_clear 0 = .ok (.aload_n 0, 1) := by decide +kernel
theorem dX3_clear_1 : decode cX3_clear 1 = .ok (.getfield 15, 3) := by decide +kernel
theorem dX3_clear_4 : decode cX3_clear 4 = .ok (.istore_n 1, 1) := by decide +kernel
theorem dX3_clear_5 : decode cX3_clear 5 = .ok (.aload_n 0, 1) := by decide +kernel
theorem dX3_clear_6 : decode cX3_clear 6 = .ok (.iconst 0, 1) := by decide +kernel
theorem dX3_clear_7 : decode cX3_clear 7 = .ok (.putfield 15, 3) := by decide +kernel
theorem dX3_clear_10 : decode cX3_clear 10 = .ok (.iload_n 1, 1) := by decide +kernel
theorem dX3_clear_11 : decode cX3_clear 11 = .ok (.ireturn, 1) := by decide +kernel
theorem dX3_firstFault_0 : decode cX3_firstFault 0 = .ok (.iconst 0, 1) := by decide +kernel
theorem dX3_firstFault_1 : decode cX3_firstFault 1 = .ok (.istore_n 1, 1) := by decide +kernel
theorem dX3_firstFault_2 : decode cX3_firstFault 2 = .ok (.iload_n 1, 1) := by decide +kernel
theorem dX3_firstFault_3 : decode cX3_firstFault 3 = .ok (.aload_n 0, 1) := by decide +kernel
theorem dX3_firstFault_4 : decode cX3_firstFault 4 = .ok (.getfield 15, 3) := by decide +kernel
theorem dX3_firstFault_7 : decode cX3_firstFault 7 = .ok (.if_icmp .ge 27, 3) := by decide +kernel
theorem dX3_firstFault_10 : decode cX3_firstFault 10 = .ok (.aload_n 0, 1) := by decide +kernel
theorem dX3_firstFault_11 : decode cX3_firstFault 11 = .ok (.getfield 11, 3) := by decide +kernel
theorem dX3_firstFault_14 : decode cX3_firstFault 14 = .ok (.iload_n 1, 1) := by decide +kernel
theorem dX3_firstFault_15 : decode cX3_firstFault 15 = .ok (.iaload, 1) := by decide +kernel
theorem dX3_firstFault_16 : decode cX3_firstFault 16 = .ok (.iload_n 1, 1) := by decide +kernel
theorem dX3_firstFault_17 : decode cX3_firstFault 17 = .ok (.bipush 6, 2) := by decide +kernel
theorem dX3_firstFault_19 : decode cX3_firstFault 19 = .ok (.irem, 1) := by decide +kernel
theorem dX3_firstFault_20 : decode cX3_firstFault 20 = .ok (.invokestatic 19, 3) := by decide +kernel
theorem dX3_firstFault_23 : decode cX3_firstFault 23 = .ok (.ifCond .ne 5, 3) := by decide +kernel
theorem dX3_firstFault_26 : decode cX3_firstFault 26 = .ok (.iload_n 1, 1) := by decide +kernel
theorem dX3_firstFault_27 : decode cX3_firstFault 27 = .ok (.ireturn, 1) := by decide +kernel
theorem dX3_firstFault_28 : decode cX3_firstFault 28 = .ok (.iinc 1 1, 3) := by decide +kernel
theorem dX3_firstFault_31 : decode cX3_firstFault 31 = .ok (.goto (-29), 3) := by decide +kernel
theorem dX3_firstFault_34 : decode cX3_firstFault 34 = .ok (.aload_n 0, 1) := by decide +kernel
theorem dX3_firstFault_35 : decode cX3_firstFault 35 = .ok (.getfield 15, 3) := by decide +kernel
theorem dX3_firstFault_38 : decode cX3_firstFault 38 = .ok (.bipush 6, 2) := by decide +kernel
theorem dX3_firstFault_40 : decode cX3_firstFault 40 = .ok (.irem, 1) := by decide +kernel
theorem dX3_firstFault_41 : decode cX3_firstFault 41 = .ok (.iconst 5, 1) := by decide +kernel
theorem dX3_firstFault_42 : decode cX3_firstFault 42 = .ok (.if_icmp .ne 8, 3) := by decide +kernel
theorem dX3_firstFault_45 : decode cX3_firstFault 45 = .ok (.bipush (-6), 2) := by decide +kernel
theorem dX3_firstFault_47 : decode cX3_firstFault 47 = .ok (.goto 7, 3) := by decide +kernel
theorem dX3_firstFault_50 : decode cX3_firstFault 50 = .ok (.aload_n 0, 1) := by decide +kernel
theorem dX3_firstFault_51 : decode cX3_firstFault 51 = .ok (.getfield 15, 3) := by decide +kernel
theorem dX3_firstFault_54 : decode cX3_firstFault 54 = .ok (.ireturn, 1) := by decide +kernel
theorem dX3_canStand_0 : decode cX3_canStand 0 = .ok (.iload_n 1, 1) := by decide +kernel
theorem dX3_canStand_1 : decode cX3_canStand 1 = .ok (.iconst 3, 1) := by decide +kernel
theorem dX3_canStand_2 : decode cX3_canStand 2 = .ok (.if_icmp .ge 27, 3) := by decide +kernel
theorem dX3_canStand_5 : decode cX3_canStand 5 = .ok (.iload_n 0, 1) := by decide +kernel
theorem dX3_canStand_6 : decode cX3_canStand 6 = .ok (.bipush 48, 2) := by decide +kernel
theorem dX3_canStand_8 : decode cX3_canStand 8 = .ok (.if_icmp .eq 15, 3) := by decide +kernel
theorem dX3_canStand_11 : decode cX3_canStand 11 = .ok (.iload_n 0, 1) := by decide +kernel
theorem dX3_canStand_12 : decode cX3_canStand 12 = .ok (.bipush 49, 2) := by decide +kernel
theorem dX3_canStand_14 : decode cX3_canStand 14 = .ok (.if_icmp .eq 9, 3) := by decide +kernel
theorem dX3_canStand_17 : decode cX3_canStand 17 = .ok (.iload_n 0, 1) := by decide +kernel
theorem dX3_canStand_18 : decode cX3_canStand 18 = .ok (.bipush 42, 2) := by decide +kernel
theorem dX3_canStand_20 : decode cX3_canStand 20 = .ok (.if_icmp .ne 7, 3) := by decide +kernel
theorem dX3_canStand_23 : decode cX3_canStand 23 = .ok (.iconst 1, 1) := by decide +kernel
theorem dX3_canStand_24 : decode cX3_canStand 24 = .ok (.goto 4, 3) := by decide +kernel
theorem dX3_canStand_27 : decode cX3_canStand 27 = .ok (.iconst 0, 1) := by decide +kernel
theorem dX3_canStand_28 : decode cX3_canStand 28 = .ok (.ireturn, 1) := by decide +kernel
theorem dX3_canStand_29 : decode cX3_canStand 29 = .ok (.iload_n 1, 1) := by decide +kernel
theorem dX3_canStand_30 : decode cX3_canStand 30 = .ok (.iconst 3, 1) := by decide +kernel
theorem dX3_canStand_31 : decode cX3_canStand 31 = .ok (.if_icmp .ne 15, 3) := by decide +kernel
theorem dX3_canStand_34 : decode cX3_canStand 34 = .ok (.iload_n 0, 1) := by decide +kernel
theorem dX3_canStand_35 : decode cX3_canStand 35 = .ok (.bipush 58, 2) := by decide +kernel
theorem dX3_canStand_37 : decode cX3_canStand 37 = .ok (.if_icmp .ne 7, 3) := by decide +kernel
theorem dX3_canStand_40 : decode cX3_canStand 40 = .ok (.iconst 1, 1) := by decide +kernel
theorem dX3_canStand_41 : decode cX3_canStand 41 = .ok (.goto 4, 3) := by decide +kernel
theorem dX3_canStand_44 : decode cX3_canStand 44 = .ok (.iconst 0, 1) := by decide +kernel
theorem dX3_canStand_45 : decode cX3_canStand 45 = .ok (.ireturn, 1) := by decide +kernel
theorem dX3_canStand_46 : decode cX3_canStand 46 = .ok (.iload_n 1, 1) := by decide +kernel
theorem dX3_canStand_47 : decode cX3_canStand 47 = .ok (.iconst 4, 1) := by decide +kernel
theorem dX3_canStand_48 : decode cX3_canStand 48 = .ok (.if_icmp .ne 21, 3) := by decide +kernel
theorem dX3_canStand_51 : decode cX3_canStand 51 = .ok (.iload_n 0, 1) := by decide +kernel
theorem dX3_canStand_52 : decode cX3_canStand 52 = .ok (.bipush 49, 2) := by decide +kernel
theorem dX3_canStand_54 : decode cX3_canStand 54 = .ok (.if_icmp .lt 13, 3) := by decide +kernel
theorem dX3_canStand_57 : decode cX3_canStand 57 = .ok (.iload_n 0, 1) := by decide +kernel
theorem dX3_canStand_58 : decode cX3_canStand 58 = .ok (.bipush 57, 2) := by decide +kernel
theorem dX3_canStand_60 : decode cX3_canStand 60 = .ok (.if_icmp .gt 7, 3) := by decide +kernel
theorem dX3_canStand_63 : decode cX3_canStand 63 = .ok (.iconst 1, 1) := by decide +kernel
theorem dX3_canStand_64 : decode cX3_canStand 64 = .ok (.goto 4, 3) := by decide +kernel
theorem dX3_canStand_67 : decode cX3_canStand 67 = .ok (.iconst 0, 1) := by decide +kernel
theorem dX3_canStand_68 : decode cX3_canStand 68 = .ok (.ireturn, 1) := by decide +kernel
theorem dX3_canStand_69 : decode cX3_canStand 69 = .ok (.iload_n 0, 1) := by decide +kernel
theorem dX3_canStand_70 : decode cX3_canStand 70 = .ok (.bipush 59, 2) := by decide +kernel
theorem dX3_canStand_72 : decode cX3_canStand 72 = .ok (.if_icmp .ne 7, 3) := by decide +kernel
theorem dX3_canStand_75 : decode cX3_canStand 75 = .ok (.iconst 1, 1) := by decide +kernel
theorem dX3_canStand_76 : decode cX3_canStand 76 = .ok (.goto 4, 3) := by decide +kernel
theorem dX3_canStand_79 : decode cX3_canStand 79 = .ok (.iconst 0, 1) := by decide +kernel
theorem dX3_canStand_80 : decode cX3_canStand 80 = .ok (.ireturn, 1) := by decide +kernel
theorem dX3_lines_0 : decode cX3_lines 0 = .ok (.aload_n 0, 1) := by decide +kernel
theorem dX3_lines_1 : decode cX3_lines 1 = .ok (.getfield 15, 3) := by decide +kernel
theorem dX3_lines_4 : decode cX3_lines 4 = .ok (.iconst 1, 1) := by decide +kernel
theorem dX3_lines_5 : decode cX3_lines 5 = .ok (.iadd, 1) := by decide +kernel
theorem dX3_lines_6 : decode cX3_lines 6 = .ok (.bipush 6, 2) := by decide +kernel
theorem dX3_lines_8 : decode cX3_lines 8 = .ok (.idiv, 1) := by decide +kernel
theorem dX3_lines_9 : decode cX3_lines 9 = .ok (.ireturn, 1) := by decide +kernel
theorem dX3_numberFor_0 : decode cX3_numberFor 0 = .ok (.iconst 0, 1) := by decide +kernel
theorem dX3_numberFor_1 : decode cX3_numberFor 1 = .ok (.istore_n 2, 1) := by decide +kernel
theorem dX3_numberFor_2 : decode cX3_numberFor 2 = .ok (.iload_n 2, 1) := by decide +kernel
theorem dX3_numberFor_3 : decode cX3_numberFor 3 = .ok (.iconst 4, 1) := by decide +kernel
theorem dX3_numberFor_4 : decode cX3_numberFor 4 = .ok (.iadd, 1) := by decide +kernel
theorem dX3_numberFor_5 : decode cX3_numberFor 5 = .ok (.aload_n 0, 1) := by decide +kernel
theorem dX3_numberFor_6 : decode cX3_numberFor 6 = .ok (.getfield 15, 3) := by decide +kernel
theorem dX3_numberFor_9 : decode cX3_numberFor 9 = .ok (.if_icmp .ge 30, 3) := by decide +kernel
theorem dX3_numberFor_12 : decode cX3_numberFor 12 = .ok (.aload_n 0, 1) := by decide +kernel
theorem dX3_numberFor_13 : decode cX3_numberFor 13 = .ok (.iload_n 2, 1) := by decide +kernel
theorem dX3_numberFor_14 : decode cX3_numberFor 14 = .ok (.iload_n 1, 1) := by decide +kernel
theorem dX3_numberFor_15 : decode cX3_numberFor 15 = .ok (.invokevirtual 23, 3) := by decide +kernel
theorem dX3_numberFor_18 : decode cX3_numberFor 18 = .ok (.ifCond .eq 15, 3) := by decide +kernel
theorem dX3_numberFor_21 : decode cX3_numberFor 21 = .ok (.aload_n 0, 1) := by decide +kernel
theorem dX3_numberFor_22 : decode cX3_numberFor 22 = .ok (.getfield 11, 3) := by decide +kernel
theorem dX3_numberFor_25 : decode cX3_numberFor 25 = .ok (.iload_n 2, 1) := by decide +kernel
theorem dX3_numberFor_26 : decode cX3_numberFor 26 = .ok (.iconst 4, 1) := by decide +kernel
theorem dX3_numberFor_27 : decode cX3_numberFor 27 = .ok (.iadd, 1) := by decide +kernel
theorem dX3_numberFor_28 : decode cX3_numberFor 28 = .ok (.iaload, 1) := by decide +kernel
theorem dX3_numberFor_29 : decode cX3_numberFor 29 = .ok (.bipush 48, 2) := by decide +kernel
theorem dX3_numberFor_31 : decode cX3_numberFor 31 = .ok (.isub, 1) := by decide +kernel
theorem dX3_numberFor_32 : decode cX3_numberFor 32 = .ok (.ireturn, 1) := by decide +kernel
theorem dX3_numberFor_33 : decode cX3_numberFor 33 = .ok (.iinc 2 6, 3) := by decide +kernel
theorem dX3_numberFor_36 : decode cX3_numberFor 36 = .ok (.goto (-34), 3) := by decide +kernel
theorem dX3_numberFor_39 : decode cX3_numberFor 39 = .ok (.iconst 1, 1) := by decide +kernel
theorem dX3_numberFor_40 : decode cX3_numberFor 40 = .ok (.ireturn, 1) := by decide +kernel
theorem dX3_lineFits_0 : decode cX3_lineFits 0 = .ok (.iconst 0, 1) := by decide +kernel
theorem dX3_lineFits_1 : decode cX3_lineFits 1 = .ok (.istore_n 3, 1) := by decide +kernel
theorem dX3_lineFits_2 : decode cX3_lineFits 2 = .ok (.iload_n 3, 1) := by decide +kernel
theorem dX3_lineFits_3 : decode cX3_lineFits 3 = .ok (.iconst 3, 1) := by decide +kernel
theorem dX3_lineFits_4 : decode cX3_lineFits 4 = .ok (.if_icmp .ge 41, 3) := by decide +kernel
theorem dX3_lineFits_7 : decode cX3_lineFits 7 = .ok (.aload_n 0, 1) := by decide +kernel
theorem dX3_lineFits_8 : decode cX3_lineFits 8 = .ok (.getfield 11, 3) := by decide +kernel
theorem dX3_lineFits_11 : decode cX3_lineFits 11 = .ok (.iload_n 1, 1) := by decide +kernel
theorem dX3_lineFits_12 : decode cX3_lineFits 12 = .ok (.iload_n 3, 1) := by decide +kernel
theorem dX3_lineFits_13 : decode cX3_lineFits 13 = .ok (.iadd, 1) := by decide +kernel
theorem dX3_lineFits_14 : decode cX3_lineFits 14 = .ok (.iaload, 1) := by decide +kernel
theorem dX3_lineFits_15 : decode cX3_lineFits 15 = .ok (.istore 4, 2) := by decide +kernel
theorem dX3_lineFits_17 : decode cX3_lineFits 17 = .ok (.iload 4, 2) := by decide +kernel
theorem dX3_lineFits_19 : decode cX3_lineFits 19 = .ok (.bipush 42, 2) := by decide +kernel
theorem dX3_lineFits_21 : decode cX3_lineFits 21 = .ok (.if_icmp .eq 18, 3) := by decide +kernel
theorem dX3_lineFits_24 : decode cX3_lineFits 24 = .ok (.iload 4, 2) := by decide +kernel
theorem dX3_lineFits_26 : decode cX3_lineFits 26 = .ok (.bipush 48, 2) := by decide +kernel
theorem dX3_lineFits_28 : decode cX3_lineFits 28 = .ok (.isub, 1) := by decide +kernel
theorem dX3_lineFits_29 : decode cX3_lineFits 29 = .ok (.iload_n 2, 1) := by decide +kernel
theorem dX3_lineFits_30 : decode cX3_lineFits 30 = .ok (.iload_n 3, 1) := by decide +kernel
theorem dX3_lineFits_31 : decode cX3_lineFits 31 = .ok (.invokestatic 26, 3) := by decide +kernel
theorem dX3_lineFits_34 : decode cX3_lineFits 34 = .ok (.if_icmp .eq 5, 3) := by decide +kernel
theorem dX3_lineFits_37 : decode cX3_lineFits 37 = .ok (.iconst 0, 1) := by decide +kernel
theorem dX3_lineFits_38 : decode cX3_lineFits 38 = .ok (.ireturn, 1) := by decide +kernel
theorem dX3_lineFits_39 : decode cX3_lineFits 39 = .ok (.iinc 3 1, 3) := by decide +kernel
theorem dX3_lineFits_42 : decode cX3_lineFits 42 = .ok (.goto (-40), 3) := by decide +kernel
theorem dX3_lineFits_45 : decode cX3_lineFits 45 = .ok (.iconst 1, 1) := by decide +kernel
theorem dX3_lineFits_46 : decode cX3_lineFits 46 = .ok (.ireturn, 1) := by decide +kernel
theorem dX4_init_0 : decode cX4_init 0 = .ok (.aload_n 0, 1) := by decide +kernel
theorem dX4_init_1 : decode cX4_init 1 = .ok (.invokespecial 3, 3) := by decide +kernel
theorem dX4_init_4 : decode cX4_init 4 = .ok (.aload_n 0, 1) := by decide +kernel
theorem dX4_init_5 : decode cX4_init 5 = .ok (.iconst 3, 1) := by decide +kernel
theorem dX4_init_6 : decode cX4_init 6 = .ok (.newarray .int, 2) := by decide +kernel
theorem dX4_init_8 : decode cX4_init 8 = .ok (.dup, 1) := by decide +kernel
theorem dX4_init_9 : decode cX4_init 9 = .ok (.iconst 0, 1) := by decide +kernel
theorem dX4_init_10 : decode cX4_init 10 = .ok (.iconst 1, 1) := by decide +kernel
theorem dX4_init_11 : decode cX4_init 11 = .ok (.iastore, 1) := by decide +kernel
theorem dX4_init_12 : decode cX4_init 12 = .ok (.dup, 1) := by decide +kernel
theorem dX4_init_13 : decode cX4_init 13 = .ok (.iconst 1, 1) := by decide +kernel
theorem dX4_init_14 : decode cX4_init 14 = .ok (.iconst 1, 1) := by decide +kernel
theorem dX4_init_15 : decode cX4_init 15 = .ok (.iastore, 1) := by decide +kernel
theorem dX4_init_16 : decode cX4_init 16 = .ok (.dup, 1) := by decide +kernel
theorem dX4_init_17 : decode cX4_init 17 = .ok (.iconst 2, 1) := by decide +kernel
theorem dX4_init_18 : decode cX4_init 18 = .ok (.iconst 1, 1) := by decide +kernel
theorem dX4_init_19 : decode cX4_init 19 = .ok (.iastore, 1) := by decide +kernel
theorem dX4_init_20 : decode cX4_init 20 = .ok (.putfield 9, 3) := by decide +kernel
theorem dX4_init_23 : decode cX4_init 23 = .ok (.aload_n 0, 1) := by decide +kernel
theorem dX4_init_24 : decode cX4_init 24 = .ok (.iconst 2, 1) := by decide +kernel
theorem dX4_init_25 : decode cX4_init 25 = .ok (.putfield 15, 3) := by decide +kernel
theorem dX4_init_28 : decode cX4_init 28 = .ok (.aload_n 0, 1) := by decide +kernel
theorem dX4_init_29 : decode cX4_init 29 = .ok (.bipush 6, 2) := by decide +kernel
theorem dX4_init_31 : decode cX4_init 31 = .ok (.newarray .long, 2) := by decide +kernel
theorem dX4_init_33 : decode cX4_init 33 = .ok (.putfield 19, 3) := by decide +kernel
theorem dX4_init_36 : decode cX4_init 36 = .ok (.aload_n 0, 1) := by decide +kernel
theorem dX4_init_37 : decode cX4_init 37 = .ok (.bipush 6, 2) := by decide +kernel
theorem dX4_init_39 : decode cX4_init 39 = .ok (.newarray .long, 2) := by decide +kernel
theorem dX4_init_41 : decode cX4_init 41 = .ok (.putfield 23, 3) := by decide +kernel
theorem dX4_init_44 : decode cX4_init 44 = .ok (.aload_n 0, 1) := by decide +kernel
theorem dX4_init_45 : decode cX4_init 45 = .ok (.sipush 210, 3) := by decide +kernel
theorem dX4_init_48 : decode cX4_init 48 = .ok (.newarray .long, 2) := by decide +kernel
theorem dX4_init_50 : decode cX4_init 50 = .ok (.putfield 28, 3) := by decide +kernel
theorem dX4_init_53 : decode cX4_init 53 = .ok (.aload_n 0, 1) := by decide +kernel
theorem dX4_init_54 : decode cX4_init 54 = .ok (.bipush 8, 2) := by decide +kernel
theorem dX4_init_56 : decode cX4_init 56 = .ok (.newarray .long, 2) := by decide +kernel
theorem dX4_init_58 : decode cX4_init 58 = .ok (.putfield 31, 3) := by decide +kernel
theorem dX4_init_61 : decode cX4_init 61 = .ok (.aload_n 0, 1) := by decide +kernel
theorem dX4_init_62 : decode cX4_init 62 = .ok (.bipush 64, 2) := by decide +kernel
theorem dX4_init_64 : decode cX4_init 64 = .ok (.newarray .long, 2) := by decide +kernel
theorem dX4_init_66 : decode cX4_init 66 = .ok (.putfield 34, 3) := by decide +kernel
theorem dX4_init_69 : decode cX4_init 69 = .ok (.aload_n 0, 1) := by decide +kernel
theorem dX4_init_70 : decode cX4_init 70 = .ok (.iconst 0, 1) := by decide +kernel
theorem dX4_init_71 : decode cX4_init 71 = .ok (.putfield 37, 3) := by decide +kernel
theorem dX4_init_74 : decode cX4_init 74 = .ok (.aload_n 0, 1) := by decide +kernel
theorem dX4_init_75 : decode cX4_init 75 = .ok (.bipush 8, 2) := by decide +kernel
theorem dX4_init_77 : decode cX4_init 77 = .ok (.newarray .long, 2) := by decide +kernel
theorem dX4_init_79 : decode cX4_init 79 = .ok (.putfield 41, 3) := by decide +kernel
theorem dX4_init_82 : decode cX4_init 82 = .ok (.aload_n 0, 1) := by decide +kernel
theorem dX4_init_83 : decode cX4_init 83 = .ok (.bipush 8, 2) := by decide +kernel
theorem dX4_init_85 : decode cX4_init 85 = .ok (.newarray .long, 2) := by decide +kernel
theorem dX4_init_87 : decode cX4_init 87 = .ok (.putfield 44, 3) := by decide +kernel
theorem dX4_init_90 : decode cX4_init 90 = .ok (.aload_n 0, 1) := by decide +kernel
theorem dX4_init_91 : decode cX4_init 91 = .ok (.aload_n 1, 1) := by decide +kernel
theorem dX4_init_92 : decode cX4_init 92 = .ok (.putfield 47, 3) := by decide +kernel
theorem dX4_init_95 : decode cX4_init 95 = .ok (.aload_n 0, 1) := by decide +kernel
theorem dX4_init_96 : decode cX4_init 96 = .ok (.aload_n 2, 1) := by decide +kernel
theorem dX4_init_97 : decode cX4_init 97 = .ok (.putfield 51, 3) := by decide +kernel
theorem dX4_init_100 : decode cX4_init 100 = .ok (.return_, 1) := by decide +kernel
theorem dX4_whole_0 : decode cX4_whole 0 = .ok (.bipush 12, 2) := by decide +kernel
theorem dX4_whole_2 : decode cX4_whole 2 = .ok (.aload_n 0, 1) := by decide +kernel
theorem dX4_whole_3 : decode cX4_whole 3 = .ok (.getfield 9, 3) := by decide +kernel
theorem dX4_whole_6 : decode cX4_whole 6 = .ok (.iconst 0, 1) := by decide +kernel
theorem dX4_whole_7 : decode cX4_whole 7 = .ok (.iaload, 1) := by decide +kernel
theorem dX4_whole_8 : decode cX4_whole 8 = .ok (.aload_n 0, 1) := by decide +kernel
theorem dX4_whole_9 : decode cX4_whole 9 = .ok (.getfield 9, 3) := by decide +kernel
theorem dX4_whole_12 : decode cX4_whole 12 = .ok (.iconst 1, 1) := by decide +kernel
theorem dX4_whole_13 : decode cX4_whole 13 = .ok (.iaload, 1) := by decide +kernel
theorem dX4_whole_14 : decode cX4_whole 14 = .ok (.iadd, 1) := by decide +kernel
theorem dX4_whole_15 : decode cX4_whole 15 = .ok (.aload_n 0, 1) := by decide +kernel
theorem dX4_whole_16 : decode cX4_whole 16 = .ok (.getfield 9, 3) := by decide +kernel
theorem dX4_whole_19 : decode cX4_whole 19 = .ok (.iconst 2, 1) := by decide +kernel
theorem dX4_whole_20 : decode cX4_whole 20 = .ok (.iaload, 1) := by decide +kernel
theorem dX4_whole_21 : decode cX4_whole 21 = .ok (.iadd, 1) := by decide +kernel
theorem dX4_whole_22 : decode cX4_whole 22 = .ok (.imul, 1) := by decide +kernel
theorem dX4_whole_23 : decode cX4_whole 23 = .ok (.i2l, 1) := by decide +kernel
theorem dX4_whole_24 : decode cX4_whole 24 = .ok (.aload_n 0, 1) := by decide +kernel
theorem dX4_whole_25 : decode cX4_whole 25 = .ok (.getfield 15, 3) := by decide +kernel
theorem dX4_whole_28 : decode cX4_whole 28 = .ok (.iload_n 1, 1) := by decide +kernel
theorem dX4_whole_29 : decode cX4_whole 29 = .ok (.imul, 1) := by decide +kernel
theorem dX4_whole_30 : decode cX4_whole 30 = .ok (.invokestatic 55, 3) := by decide +kernel
theorem dX4_whole_33 : decode cX4_whole 33 = .ok (.lreturn, 1) := by decide +kernel
theorem dX4_rowOf_0 : decode cX4_rowOf 0 = .ok (.aload_n 0, 1) := by decide +kernel
theorem dX4_rowOf_1 : decode cX4_rowOf 1 = .ok (.iload_n 2, 1) := by decide +kernel
theorem dX4_rowOf_2 : decode cX4_rowOf 2 = .ok (.aload_n 0, 1) := by decide +kernel
theorem dX4_rowOf_3 : decode cX4_rowOf 3 = .ok (.getfield 19, 3) := by decide +kernel
theorem dX4_rowOf_6 : decode cX4_rowOf 6 = .ok (.invokevirtual 59, 3) := by decide +kernel
theorem dX4_rowOf_9 : decode cX4_rowOf 9 = .ok (.aload_n 0, 1) := by decide +kernel
theorem dX4_rowOf_10 : decode cX4_rowOf 10 = .ok (.iload_n 1, 1) := by decide +kernel
theorem dX4_rowOf_11 : decode cX4_rowOf 11 = .ok (.aload_n 0, 1) := by decide +kernel
theorem dX4_rowOf_12 : decode cX4_rowOf 12 = .ok (.getfield 23, 3) := by decide +kernel
theorem dX4_rowOf_15 : decode cX4_rowOf 15 = .ok (.invokevirtual 59, 3) := by decide +kernel
theorem dX4_rowOf_18 : decode cX4_rowOf 18 = .ok (.aload_n 0, 1) := by decide +kernel
theorem dX4_rowOf_19 : decode cX4_rowOf 19 = .ok (.getfield 28, 3) := by decide +kernel
theorem dX4_rowOf_22 : decode cX4_rowOf 22 = .ok (.lconst 0, 1) := by decide +kernel
theorem dX4_rowOf_23 : decode cX4_rowOf 23 = .ok (.invokestatic 63, 3) := by decide +kernel
theorem dX4_rowOf_26 : decode cX4_rowOf 26 = .ok (.aload_n 0, 1) := by decide +kernel
theorem dX4_rowOf_27 : decode cX4_rowOf 27 = .ok (.getfield 28, 3) := by decide +kernel
theorem dX4_rowOf_30 : decode cX4_rowOf 30 = .ok (.iconst 0, 1) := by decide +kernel
theorem dX4_rowOf_31 : decode cX4_rowOf 31 = .ok (.lconst 1, 1) := by decide +kernel
theorem dX4_rowOf_32 : decode cX4_rowOf 32 = .ok (.lastore, 1) := by decide +kernel
theorem dX4_rowOf_33 : decode cX4_rowOf 33 = .ok (.iconst 0, 1) := by decide +kernel
theorem dX4_rowOf_34 : decode cX4_rowOf 34 = .ok (.istore 4, 2) := by decide +kernel
theorem dX4_rowOf_36 : decode cX4_rowOf 36 = .ok (.iload 4, 2) := by decide +kernel
theorem dX4_rowOf_38 : decode cX4_rowOf 38 = .ok (.aload_n 0, 1) := by decide +kernel
theorem dX4_rowOf_39 : decode cX4_rowOf 39 = .ok (.getfield 15, 3) := by decide +kernel
theorem dX4_rowOf_42 : decode cX4_rowOf 42 = .ok (.if_icmp .ge 38, 3) := by decide +kernel
theorem dX4_rowOf_45 : decode cX4_rowOf 45 = .ok (.iload 4, 2) := by decide +kernel
theorem dX4_rowOf_47 : decode cX4_rowOf 47 = .ok (.iconst 4, 1) := by decide +kernel
theorem dX4_rowOf_48 : decode cX4_rowOf 48 = .ok (.if_icmp .ge 32, 3) := by decide +kernel
theorem dX4_rowOf_51 : decode cX4_rowOf 51 = .ok (.aload_n 0, 1) := by decide +kernel
theorem dX4_rowOf_52 : decode cX4_rowOf 52 = .ok (.iload 4, 2) := by decide +kernel
theorem dX4_rowOf_54 : decode cX4_rowOf 54 = .ok (.iload 4, 2) := by decide +kernel
theorem dX4_rowOf_56 : decode cX4_rowOf 56 = .ok (.iload_n 3, 1) := by decide +kernel
theorem dX4_rowOf_57 : decode cX4_rowOf 57 = .ok (.if_icmp .ge 10, 3) := by decide +kernel
theorem dX4_rowOf_60 : decode cX4_rowOf 60 = .ok (.aload_n 0, 1) := by decide +kernel
theorem dX4_rowOf_61 : decode cX4_rowOf 61 = .ok (.getfield 19, 3) := by decide +kernel
theorem dX4_rowOf_64 : decode cX4_rowOf 64 = .ok (.goto 7, 3) := by decide +kernel
theorem dX4_rowOf_67 : decode cX4_rowOf 67 = .ok (.aload_n 0, 1) := by decide +kernel
theorem dX4_rowOf_68 : decode cX4_rowOf 68 = .ok (.getfield 23, 3) := by decide +kernel
theorem dX4_rowOf_71 : decode cX4_rowOf 71 = .ok (.invokevirtual 69, 3) := by decide +kernel
theorem dX4_rowOf_74 : decode cX4_rowOf 74 = .ok (.iinc 4 1, 3) := by decide +kernel
theorem dX4_rowOf_77 : decode cX4_rowOf 77 = .ok (.goto (-41), 3) := by decide +kernel
theorem dX4_rowOf_80 : decode cX4_rowOf 80 = .ok (.aload_n 0, 1) := by decide +kernel
theorem dX4_rowOf_81 : decode cX4_rowOf 81 = .ok (.getfield 31, 3) := by decide +kernel
theorem dX4_rowOf_84 : decode cX4_rowOf 84 = .ok (.lconst 0, 1) := by decide +kernel
theorem dX4_rowOf_85 : decode cX4_rowOf 85 = .ok (.invokestatic 63, 3) := by decide +kernel
theorem dX4_rowOf_88 : decode cX4_rowOf 88 = .ok (.getstatic 72, 3) := by decide +kernel
theorem dX4_rowOf_91 : decode cX4_rowOf 91 = .ok (.aload_n 0, 1) := by decide +kernel
theorem dX4_rowOf_92 : decode cX4_rowOf 92 = .ok (.getfield 15, 3) := by decide +kernel
theorem dX4_rowOf_95 : decode cX4_rowOf 95 = .ok (.iaload, 1) := by decide +kernel
theorem dX4_rowOf_96 : decode cX4_rowOf 96 = .ok (.istore 4, 2) := by decide +kernel
theorem dX4_rowOf_98 : decode cX4_rowOf 98 = .ok (.iload 4, 2) := by decide +kernel
theorem dX4_rowOf_100 : decode cX4_rowOf 100 = .ok (.getstatic 72, 3) := by decide +kernel
theorem dX4_rowOf_103 : decode cX4_rowOf 103 = .ok (.aload_n 0, 1) := by decide +kernel
theorem dX4_rowOf_104 : decode cX4_rowOf 104 = .ok (.getfield 15, 3) := by decide +kernel
theorem dX4_rowOf_107 : decode cX4_rowOf 107 = .ok (.iconst 1, 1) := by decide +kernel
theorem dX4_rowOf_108 : decode cX4_rowOf 108 = .ok (.iadd, 1) := by decide +kernel
theorem dX4_rowOf_109 : decode cX4_rowOf 109 = .ok (.iaload, 1) := by decide +kernel
theorem dX4_rowOf_110 : decode cX4_rowOf 110 = .ok (.if_icmp .ge 45, 3) := by decide +kernel
theorem dX4_rowOf_113 : decode cX4_rowOf 113 = .ok (.aload_n 0, 1) := by decide +kernel
theorem dX4_rowOf_114 : decode cX4_rowOf 114 = .ok (.getfield 28, 3) := by decide +kernel
theorem dX4_rowOf_117 : decode cX4_rowOf 117 = .ok (.iload 4, 2) := by decide +kernel
theorem dX4_rowOf_119 : decode cX4_rowOf 119 = .ok (.laload, 1) := by decide +kernel
theorem dX4_rowOf_120 : decode cX4_rowOf 120 = .ok (.lconst 0, 1) := by decide +kernel
theorem dX4_rowOf_121 : decode cX4_rowOf 121 = .ok (.lcmp, 1) := by decide +kernel
theorem dX4_rowOf_122 : decode cX4_rowOf 122 = .ok (.ifCond .eq 27, 3) := by decide +kernel
theorem dX4_rowOf_125 : decode cX4_rowOf 125 = .ok (.aload_n 0, 1) := by decide +kernel
theorem dX4_rowOf_126 : decode cX4_rowOf 126 = .ok (.getfield 31, 3) := by decide +kernel
theorem dX4_rowOf_129 : decode cX4_rowOf 129 = .ok (.aload_n 0, 1) := by decide +kernel
theorem dX4_rowOf_130 : decode cX4_rowOf 130 = .ok (.getfield 51, 3) := by decide +kernel
theorem dX4_rowOf_133 : decode cX4_rowOf 133 = .ok (.iload 4, 2) := by decide +kernel
theorem dX4_rowOf_135 : decode cX4_rowOf 135 = .ok (.invokevirtual 75, 3) := by decide +kernel
theorem dX4_rowOf_138 : decode cX4_rowOf 138 = .ok (.dup2, 1) := by decide +kernel
theorem dX4_rowOf_139 : decode cX4_rowOf 139 = .ok (.laload, 1) := by decide +kernel
theorem dX4_rowOf_140 : decode cX4_rowOf 140 = .ok (.aload_n 0, 1) := by decide +kernel
theorem dX4_rowOf_141 : decode cX4_rowOf 141 = .ok (.getfield 28, 3) := by decide +kernel
theorem dX4_rowOf_144 : decode cX4_rowOf 144 = .ok (.iload 4, 2) := by decide +kernel
theorem dX4_rowOf_146 : decode cX4_rowOf 146 = .ok (.laload, 1) := by decide +kernel
theorem dX4_rowOf_147 : decode cX4_rowOf 147 = .ok (.ladd, 1) := by decide +kernel
theorem dX4_rowOf_148 : decode cX4_rowOf 148 = .ok (.lastore, 1) := by decide +kernel
theorem dX4_rowOf_149 : decode cX4_rowOf 149 = .ok (.iinc 4 1, 3) := by decide +kernel
theorem dX4_rowOf_152 : decode cX4_rowOf 152 = .ok (.goto (-54), 3) := by decide +kernel
theorem dX4_rowOf_155 : decode cX4_rowOf 155 = .ok (.aload_n 0, 1) := by decide +kernel
theorem dX4_rowOf_156 : decode cX4_rowOf 156 = .ok (.getfield 31, 3) := by decide +kernel
theorem dX4_rowOf_159 : decode cX4_rowOf 159 = .ok (.areturn, 1) := by decide +kernel
theorem dX4_listSayings_0 : decode cX4_listSayings 0 = .ok (.iconst 0, 1) := by decide +kernel
theorem dX4_listSayings_1 : decode cX4_listSayings 1 = .ok (.istore_n 3, 1) := by decide +kernel
theorem dX4_listSayings_2 : decode cX4_listSayings 2 = .ok (.iload_n 3, 1) := by decide +kernel
theorem dX4_listSayings_3 : decode cX4_listSayings 3 = .ok (.bipush 6, 2) := by decide +kernel
theorem dX4_listSayings_5 : decode cX4_listSayings 5 = .ok (.if_icmp .ge 70, 3) := by decide +kernel
theorem dX4_listSayings_8 : decode cX4_listSayings 8 = .ok (.iload_n 3, 1) := by decide +kernel
theorem dX4_listSayings_9 : decode cX4_listSayings 9 = .ok (.iconst 2, 1) := by decide +kernel
theorem dX4_listSayings_10 : decode cX4_listSayings 10 = .ok (.idiv, 1) := by decide +kernel
theorem dX4_listSayings_11 : decode cX4_listSayings 11 = .ok (.istore 4, 2) := by decide +kernel
theorem dX4_listSayings_13 : decode cX4_listSayings 13 = .ok (.iload_n 1, 1) := by decide +kernel
theorem dX4_listSayings_14 : decode cX4_listSayings 14 = .ok (.iload 4, 2) := by decide +kernel
theorem dX4_listSayings_16 : decode cX4_listSayings 16 = .ok (.invokestatic 79, 3) := by decide +kernel
theorem dX4_listSayings_19 : decode cX4_listSayings 19 = .ok (.iload_n 3, 1) := by decide +kernel
theorem dX4_listSayings_20 : decode cX4_listSayings 20 = .ok (.iconst 2, 1) := by decide +kernel
theorem dX4_listSayings_21 : decode cX4_listSayings 21 = .ok (.irem, 1) := by decide +kernel
theorem dX4_listSayings_22 : decode cX4_listSayings 22 = .ok (.if_icmp .ne 7, 3) := by decide +kernel
theorem dX4_listSayings_25 : decode cX4_listSayings 25 = .ok (.iconst 1, 1) := by decide +kernel
theorem dX4_listSayings_26 : decode cX4_listSayings 26 = .ok (.goto 4, 3) := by decide +kernel
theorem dX4_listSayings_29 : decode cX4_listSayings 29 = .ok (.iconst 0, 1) := by decide +kernel
theorem dX4_listSayings_30 : decode cX4_listSayings 30 = .ok (.istore 5, 2) := by decide +kernel
theorem dX4_listSayings_32 : decode cX4_listSayings 32 = .ok (.aload_n 2, 1) := by decide +kernel
theorem dX4_listSayings_33 : decode cX4_listSayings 33 = .ok (.iload_n 3, 1) := by decide +kernel
theorem dX4_listSayings_34 : decode cX4_listSayings 34 = .ok (.aload_n 0, 1) := by decide +kernel
theorem dX4_listSayings_35 : decode cX4_listSayings 35 = .ok (.getfield 9, 3) := by decide +kernel
theorem dX4_listSayings_38 : decode cX4_listSayings 38 = .ok (.iload 4, 2) := by decide +kernel
theorem dX4_listSayings_40 : decode cX4_listSayings 40 = .ok (.iaload, 1) := by decide +kernel
theorem dX4_listSayings_41 : decode cX4_listSayings 41 = .ok (.iload 5, 2) := by decide +kernel
theorem dX4_listSayings_43 : decode cX4_listSayings 43 = .ok (.ifCond .eq 16, 3) := by decide +kernel
theorem dX4_listSayings_46 : decode cX4_listSayings 46 = .ok (.bipush 12, 2) := by decide +kernel
theorem dX4_listSayings_48 : decode cX4_listSayings 48 = .ok (.aload_n 0, 1) := by decide +kernel
theorem dX4_listSayings_49 : decode cX4_listSayings 49 = .ok (.getfield 47, 3) := by decide +kernel
theorem dX4_listSayings_52 : decode cX4_listSayings 52 = .ok (.getfield 83, 3) := by decide +kernel
theorem dX4_listSayings_55 : decode cX4_listSayings 55 = .ok (.isub, 1) := by decide +kernel
theorem dX4_listSayings_56 : decode cX4_listSayings 56 = .ok (.goto 10, 3) := by decide +kernel
theorem dX4_listSayings_59 : decode cX4_listSayings 59 = .ok (.aload_n 0, 1) := by decide +kernel
theorem dX4_listSayings_60 : decode cX4_listSayings 60 = .ok (.getfield 47, 3) := by decide +kernel
theorem dX4_listSayings_63 : decode cX4_listSayings 63 = .ok (.getfield 83, 3) := by decide +kernel
theorem dX4_listSayings_66 : decode cX4_listSayings 66 = .ok (.imul, 1) := by decide +kernel
theorem dX4_listSayings_67 : decode cX4_listSayings 67 = .ok (.i2l, 1) := by decide +kernel
theorem dX4_listSayings_68 : decode cX4_listSayings 68 = .ok (.lastore, 1) := by decide +kernel
theorem dX4_listSayings_69 : decode cX4_listSayings 69 = .ok (.iinc 3 1, 3) := by decide +kernel
theorem dX4_listSayings_72 : decode cX4_listSayings 72 = .ok (.goto (-70), 3) := by decide +kernel
theorem dX4_listSayings_75 : decode cX4_listSayings 75 = .ok (.return_, 1) := by decide +kernel
theorem dX4_hearOneMore_0 : decode cX4_hearOneMore 0 = .ok (.getstatic 72, 3) := by decide +kernel
theorem dX4_hearOneMore_3 : decode cX4_hearOneMore 3 = .ok (.iload_n 1, 1) := by decide +kernel
theorem dX4_hearOneMore_4 : decode cX4_hearOneMore 4 = .ok (.iaload, 1) := by decide +kernel
theorem dX4_hearOneMore_5 : decode cX4_hearOneMore 5 = .ok (.istore_n 3, 1) := by decide +kernel
theorem dX4_hearOneMore_6 : decode cX4_hearOneMore 6 = .ok (.iload_n 3, 1) := by decide +kernel
theorem dX4_hearOneMore_7 : decode cX4_hearOneMore 7 = .ok (.getstatic 72, 3) := by decide +kernel
theorem dX4_hearOneMore_10 : decode cX4_hearOneMore 10 = .ok (.iload_n 1, 1) := by decide +kernel
theorem dX4_hearOneMore_11 : decode cX4_hearOneMore 11 = .ok (.iconst 1, 1) := by decide +kernel
theorem dX4_hearOneMore_12 : decode cX4_hearOneMore 12 = .ok (.iadd, 1) := by decide +kernel
theorem dX4_hearOneMore_13 : decode cX4_hearOneMore 13 = .ok (.iaload, 1) := by decide +kernel
theorem dX4_hearOneMore_14 : decode cX4_hearOneMore 14 = .ok (.if_icmp .ge 73, 3) := by decide +kernel
theorem dX4_hearOneMore_17 : decode cX4_hearOneMore 17 = .ok (.aload_n 0, 1) := by decide +kernel
theorem dX4_hearOneMore_18 : decode cX4_hearOneMore 18 = .ok (.getfield 28, 3) := by decide +kernel
theorem dX4_hearOneMore_21 : decode cX4_hearOneMore 21 = .ok (.iload_n 3, 1) := by decide +kernel
theorem dX4_hearOneMore_22 : decode cX4_hearOneMore 22 = .ok (.laload, 1) := by decide +kernel
theorem dX4_hearOneMore_23 : decode cX4_hearOneMore 23 = .ok (.lconst 0, 1) := by decide +kernel
theorem dX4_hearOneMore_24 : decode cX4_hearOneMore 24 = .ok (.lcmp, 1) := by decide +kernel
theorem dX4_hearOneMore_25 : decode cX4_hearOneMore 25 = .ok (.ifCond .ne 6, 3) := by decide +kernel
theorem dX4_hearOneMore_28 : decode cX4_hearOneMore 28 = .ok (.goto 53, 3) := by decide +kernel
theorem dX4_hearOneMore_31 : decode cX4_hearOneMore 31 = .ok (.iconst 0, 1) := by decide +kernel
theorem dX4_hearOneMore_32 : decode cX4_hearOneMore 32 = .ok (.istore 4, 2) := by decide +kernel
theorem dX4_hearOneMore_34 : decode cX4_hearOneMore 34 = .ok (.iload 4, 2) := by decide +kernel
theorem dX4_hearOneMore_36 : decode cX4_hearOneMore 36 = .ok (.bipush 6, 2) := by decide +kernel
theorem dX4_hearOneMore_38 : decode cX4_hearOneMore 38 = .ok (.if_icmp .ge 43, 3) := by decide +kernel
theorem dX4_hearOneMore_41 : decode cX4_hearOneMore 41 = .ok (.aload_n 0, 1) := by decide +kernel
theorem dX4_hearOneMore_42 : decode cX4_hearOneMore 42 = .ok (.getfield 28, 3) := by decide +kernel
theorem dX4_hearOneMore_45 : decode cX4_hearOneMore 45 = .ok (.aload_n 0, 1) := by decide +kernel
theorem dX4_hearOneMore_46 : decode cX4_hearOneMore 46 = .ok (.getfield 51, 3) := by decide +kernel
theorem dX4_hearOneMore_49 : decode cX4_hearOneMore 49 = .ok (.getfield 88, 3) := by decide +kernel
theorem dX4_hearOneMore_52 : decode cX4_hearOneMore 52 = .ok (.iload_n 3, 1) := by decide +kernel
theorem dX4_hearOneMore_53 : decode cX4_hearOneMore 53 = .ok (.bipush 6, 2) := by decide +kernel
theorem dX4_hearOneMore_55 : decode cX4_hearOneMore 55 = .ok (.imul, 1) := by decide +kernel
theorem dX4_hearOneMore_56 : decode cX4_hearOneMore 56 = .ok (.iload 4, 2) := by decide +kernel
theorem dX4_hearOneMore_58 : decode cX4_hearOneMore 58 = .ok (.iadd, 1) := by decide +kernel
theorem dX4_hearOneMore_59 : decode cX4_hearOneMore 59 = .ok (.iaload, 1) := by decide +kernel
theorem dX4_hearOneMore_60 : decode cX4_hearOneMore 60 = .ok (.dup2, 1) := by decide +kernel
theorem dX4_hearOneMore_61 : decode cX4_hearOneMore 61 = .ok (.laload, 1) := by decide +kernel
theorem dX4_hearOneMore_62 : decode cX4_hearOneMore 62 = .ok (.aload_n 0, 1) := by decide +kernel
theorem dX4_hearOneMore_63 : decode cX4_hearOneMore 63 = .ok (.getfield 28, 3) := by decide +kernel
theorem dX4_hearOneMore_66 : decode cX4_hearOneMore 66 = .ok (.iload_n 3, 1) := by decide +kernel
theorem dX4_hearOneMore_67 : decode cX4_hearOneMore 67 = .ok (.laload, 1) := by decide +kernel
theorem dX4_hearOneMore_68 : decode cX4_hearOneMore 68 = .ok (.aload_n 2, 1) := by decide +kernel
theorem dX4_hearOneMore_69 : decode cX4_hearOneMore 69 = .ok (.iload 4, 2) := by decide +kernel
theorem dX4_hearOneMore_71 : decode cX4_hearOneMore 71 = .ok (.laload, 1) := by decide +kernel
end
section
theorem dX4_hearOneMore_72 : decode cX4_hearOneMore 72 = .ok (.lmul, 1) := by decide +kernel
theorem dX4_hearOneMore_73 : decode cX4_hearOneMore 73 = .ok (.ladd, 1) := by decide +kernel
theorem dX4_hearOneMore_74 : decode cX4_hearOneMore 74 = .ok (.lastore, 1) := by decide +kernel
theorem dX4_hearOneMore_75 : decode cX4_hearOneMore 75 = .ok (.iinc 4 1, 3) := by decide +kernel
theorem dX4_hearOneMore_78 : decode cX4_hearOneMore 78 = .ok (.goto (-44), 3) := by decide +kernel
theorem dX4_hearOneMore_81 : decode cX4_hearOneMore 81 = .ok (.iinc 3 1, 3) := by decide +kernel
theorem dX4_hearOneMore_84 : decode cX4_hearOneMore 84 = .ok (.goto (-78), 3) := by decide +kernel
theorem dX4_hearOneMore_87 : decode cX4_hearOneMore 87 = .ok (.return_, 1) := by decide +kernel
theorem dX4_know_0 : decode cX4_know 0 = .ok (.aload_n 0, 1) := by decide +kernel
theorem dX4_know_1 : decode cX4_know 1 = .ok (.getfield 37, 3) := by decide +kernel
theorem dX4_know_4 : decode cX4_know 4 = .ok (.ifCond .eq 4, 3) := by decide +kernel
theorem dX4_know_7 : decode cX4_know 7 = .ok (.return_, 1) := by decide +kernel
theorem dX4_know_8 : decode cX4_know 8 = .ok (.iconst 0, 1) := by decide +kernel
theorem dX4_know_9 : decode cX4_know 9 = .ok (.istore_n 1, 1) := by decide +kernel
theorem dX4_know_10 : decode cX4_know 10 = .ok (.iload_n 1, 1) := by decide +kernel
theorem dX4_know_11 : decode cX4_know 11 = .ok (.bipush 8, 2) := by decide +kernel
theorem dX4_know_13 : decode cX4_know 13 = .ok (.if_icmp .ge 30, 3) := by decide +kernel
theorem dX4_know_16 : decode cX4_know 16 = .ok (.aload_n 0, 1) := by decide +kernel
theorem dX4_know_17 : decode cX4_know 17 = .ok (.iload_n 1, 1) := by decide +kernel
theorem dX4_know_18 : decode cX4_know 18 = .ok (.iload_n 1, 1) := by decide +kernel
theorem dX4_know_19 : decode cX4_know 19 = .ok (.iconst 0, 1) := by decide +kernel
theorem dX4_know_20 : decode cX4_know 20 = .ok (.invokevirtual 91, 3) := by decide +kernel
theorem dX4_know_23 : decode cX4_know 23 = .ok (.iconst 0, 1) := by decide +kernel
theorem dX4_know_24 : decode cX4_know 24 = .ok (.aload_n 0, 1) := by decide +kernel
theorem dX4_know_25 : decode cX4_know 25 = .ok (.getfield 34, 3) := by decide +kernel
theorem dX4_know_28 : decode cX4_know 28 = .ok (.iload_n 1, 1) := by decide +kernel
theorem dX4_know_29 : decode cX4_know 29 = .ok (.bipush 8, 2) := by decide +kernel
theorem dX4_know_31 : decode cX4_know 31 = .ok (.imul, 1) := by decide +kernel
theorem dX4_know_32 : decode cX4_know 32 = .ok (.bipush 8, 2) := by decide +kernel
theorem dX4_know_34 : decode cX4_know 34 = .ok (.invokestatic 95, 3) := by decide +kernel
theorem dX4_know_37 : decode cX4_know 37 = .ok (.iinc 1 1, 3) := by decide +kernel
theorem dX4_know_40 : decode cX4_know 40 = .ok (.goto (-30), 3) := by decide +kernel
theorem dX4_know_43 : decode cX4_know 43 = .ok (.aload_n 0, 1) := by decide +kernel
theorem dX4_know_44 : decode cX4_know 44 = .ok (.iconst 1, 1) := by decide +kernel
theorem dX4_know_45 : decode cX4_know 45 = .ok (.putfield 37, 3) := by decide +kernel
theorem dX4_know_48 : decode cX4_know 48 = .ok (.return_, 1) := by decide +kernel
theorem dX4_forward_0 : decode cX4_forward 0 = .ok (.aload_n 0, 1) := by decide +kernel
theorem dX4_forward_1 : decode cX4_forward 1 = .ok (.iload_n 1, 1) := by decide +kernel
theorem dX4_forward_2 : decode cX4_forward 2 = .ok (.invokevirtual 101, 3) := by decide +kernel
theorem dX4_forward_5 : decode cX4_forward 5 = .ok (.iconst 0, 1) := by decide +kernel
theorem dX4_forward_6 : decode cX4_forward 6 = .ok (.istore_n 3, 1) := by decide +kernel
theorem dX4_forward_7 : decode cX4_forward 7 = .ok (.iload_n 3, 1) := by decide +kernel
theorem dX4_forward_8 : decode cX4_forward 8 = .ok (.iload_n 2, 1) := by decide +kernel
theorem dX4_forward_9 : decode cX4_forward 9 = .ok (.if_icmp .ge 79, 3) := by decide +kernel
theorem dX4_forward_12 : decode cX4_forward 12 = .ok (.aload_n 0, 1) := by decide +kernel
theorem dX4_forward_13 : decode cX4_forward 13 = .ok (.getfield 44, 3) := by decide +kernel
theorem dX4_forward_16 : decode cX4_forward 16 = .ok (.lconst 0, 1) := by decide +kernel
theorem dX4_forward_17 : decode cX4_forward 17 = .ok (.invokestatic 63, 3) := by decide +kernel
theorem dX4_forward_20 : decode cX4_forward 20 = .ok (.iconst 0, 1) := by decide +kernel
theorem dX4_forward_21 : decode cX4_forward 21 = .ok (.istore 4, 2) := by decide +kernel
theorem dX4_forward_23 : decode cX4_forward 23 = .ok (.iload 4, 2) := by decide +kernel
theorem dX4_forward_25 : decode cX4_forward 25 = .ok (.bipush 64, 2) := by decide +kernel
theorem dX4_forward_27 : decode cX4_forward 27 = .ok (.if_icmp .ge 40, 3) := by decide +kernel
theorem dX4_forward_30 : decode cX4_forward 30 = .ok (.aload_n 0, 1) := by decide +kernel
theorem dX4_forward_31 : decode cX4_forward 31 = .ok (.getfield 44, 3) := by decide +kernel
theorem dX4_forward_34 : decode cX4_forward 34 = .ok (.iload 4, 2) := by decide +kernel
theorem dX4_forward_36 : decode cX4_forward 36 = .ok (.bipush 8, 2) := by decide +kernel
theorem dX4_forward_38 : decode cX4_forward 38 = .ok (.irem, 1) := by decide +kernel
theorem dX4_forward_39 : decode cX4_forward 39 = .ok (.dup2, 1) := by decide +kernel
theorem dX4_forward_40 : decode cX4_forward 40 = .ok (.laload, 1) := by decide +kernel
theorem dX4_forward_41 : decode cX4_forward 41 = .ok (.aload_n 0, 1) := by decide +kernel
theorem dX4_forward_42 : decode cX4_forward 42 = .ok (.getfield 41, 3) := by decide +kernel
theorem dX4_forward_45 : decode cX4_forward 45 = .ok (.iload 4, 2) := by decide +kernel
theorem dX4_forward_47 : decode cX4_forward 47 = .ok (.bipush 8, 2) := by decide +kernel
theorem dX4_forward_49 : decode cX4_forward 49 = .ok (.idiv, 1) := by decide +kernel
theorem dX4_forward_50 : decode cX4_forward 50 = .ok (.laload, 1) := by decide +kernel
theorem dX4_forward_51 : decode cX4_forward 51 = .ok (.aload_n 0, 1) := by decide +kernel
theorem dX4_forward_52 : decode cX4_forward 52 = .ok (.getfield 34, 3) := by decide +kernel
theorem dX4_forward_55 : decode cX4_forward 55 = .ok (.iload 4, 2) := by decide +kernel
theorem dX4_forward_57 : decode cX4_forward 57 = .ok (.laload, 1) := by decide +kernel
theorem dX4_forward_58 : decode cX4_forward 58 = .ok (.lmul, 1) := by decide +kernel
theorem dX4_forward_59 : decode cX4_forward 59 = .ok (.ladd, 1) := by decide +kernel
theorem dX4_forward_60 : decode cX4_forward 60 = .ok (.lastore, 1) := by decide +kernel
theorem dX4_forward_61 : decode cX4_forward 61 = .ok (.iinc 4 1, 3) := by decide +kernel
theorem dX4_forward_64 : decode cX4_forward 64 = .ok (.goto (-41), 3) := by decide +kernel
theorem dX4_forward_67 : decode cX4_forward 67 = .ok (.aload_n 0, 1) := by decide +kernel
theorem dX4_forward_68 : decode cX4_forward 68 = .ok (.getfield 44, 3) := by decide +kernel
theorem dX4_forward_71 : decode cX4_forward 71 = .ok (.iconst 0, 1) := by decide +kernel
theorem dX4_forward_72 : decode cX4_forward 72 = .ok (.aload_n 0, 1) := by decide +kernel
theorem dX4_forward_73 : decode cX4_forward 73 = .ok (.getfield 41, 3) := by decide +kernel
theorem dX4_forward_76 : decode cX4_forward 76 = .ok (.iconst 0, 1) := by decide +kernel
theorem dX4_forward_77 : decode cX4_forward 77 = .ok (.bipush 8, 2) := by decide +kernel
theorem dX4_forward_79 : decode cX4_forward 79 = .ok (.invokestatic 95, 3) := by decide +kernel
theorem dX4_forward_82 : decode cX4_forward 82 = .ok (.iinc 3 1, 3) := by decide +kernel
theorem dX4_forward_85 : decode cX4_forward 85 = .ok (.goto (-78), 3) := by decide +kernel
theorem dX4_forward_88 : decode cX4_forward 88 = .ok (.aload_n 0, 1) := by decide +kernel
theorem dX4_forward_89 : decode cX4_forward 89 = .ok (.getfield 41, 3) := by decide +kernel
theorem dX4_forward_92 : decode cX4_forward 92 = .ok (.areturn, 1) := by decide +kernel
theorem dX4_backward_0 : decode cX4_backward 0 = .ok (.aload_n 0, 1) := by decide +kernel
theorem dX4_backward_1 : decode cX4_backward 1 = .ok (.iload_n 1, 1) := by decide +kernel
theorem dX4_backward_2 : decode cX4_backward 2 = .ok (.invokevirtual 101, 3) := by decide +kernel
theorem dX4_backward_5 : decode cX4_backward 5 = .ok (.iconst 0, 1) := by decide +kernel
theorem dX4_backward_6 : decode cX4_backward 6 = .ok (.istore_n 3, 1) := by decide +kernel
theorem dX4_backward_7 : decode cX4_backward 7 = .ok (.iload_n 3, 1) := by decide +kernel
theorem dX4_backward_8 : decode cX4_backward 8 = .ok (.iload_n 2, 1) := by decide +kernel
theorem dX4_backward_9 : decode cX4_backward 9 = .ok (.if_icmp .ge 79, 3) := by decide +kernel
theorem dX4_backward_12 : decode cX4_backward 12 = .ok (.aload_n 0, 1) := by decide +kernel
theorem dX4_backward_13 : decode cX4_backward 13 = .ok (.getfield 44, 3) := by decide +kernel
theorem dX4_backward_16 : decode cX4_backward 16 = .ok (.lconst 0, 1) := by decide +kernel
theorem dX4_backward_17 : decode cX4_backward 17 = .ok (.invokestatic 63, 3) := by decide +kernel
theorem dX4_backward_20 : decode cX4_backward 20 = .ok (.iconst 0, 1) := by decide +kernel
theorem dX4_backward_21 : decode cX4_backward 21 = .ok (.istore 4, 2) := by decide +kernel
theorem dX4_backward_23 : decode cX4_backward 23 = .ok (.iload 4, 2) := by decide +kernel
theorem dX4_backward_25 : decode cX4_backward 25 = .ok (.bipush 64, 2) := by decide +kernel
theorem dX4_backward_27 : decode cX4_backward 27 = .ok (.if_icmp .ge 40, 3) := by decide +kernel
theorem dX4_backward_30 : decode cX4_backward 30 = .ok (.aload_n 0, 1) := by decide +kernel
theorem dX4_backward_31 : decode cX4_backward 31 = .ok (.getfield 44, 3) := by decide +kernel
theorem dX4_backward_34 : decode cX4_backward 34 = .ok (.iload 4, 2) := by decide +kernel
theorem dX4_backward_36 : decode cX4_backward 36 = .ok (.bipush 8, 2) := by decide +kernel
theorem dX4_backward_38 : decode cX4_backward 38 = .ok (.idiv, 1) := by decide +kernel
theorem dX4_backward_39 : decode cX4_backward 39 = .ok (.dup2, 1) := by decide +kernel
theorem dX4_backward_40 : decode cX4_backward 40 = .ok (.laload, 1) := by decide +kernel
theorem dX4_backward_41 : decode cX4_backward 41 = .ok (.aload_n 0, 1) := by decide +kernel
theorem dX4_backward_42 : decode cX4_backward 42 = .ok (.getfield 34, 3) := by decide +kernel
theorem dX4_backward_45 : decode cX4_backward 45 = .ok (.iload 4, 2) := by decide +kernel
theorem dX4_backward_47 : decode cX4_backward 47 = .ok (.laload, 1) := by decide +kernel
theorem dX4_backward_48 : decode cX4_backward 48 = .ok (.aload_n 0, 1) := by decide +kernel
theorem dX4_backward_49 : decode cX4_backward 49 = .ok (.getfield 41, 3) := by decide +kernel
theorem dX4_backward_52 : decode cX4_backward 52 = .ok (.iload 4, 2) := by decide +kernel
theorem dX4_backward_54 : decode cX4_backward 54 = .ok (.bipush 8, 2) := by decide +kernel
theorem dX4_backward_56 : decode cX4_backward 56 = .ok (.irem, 1) := by decide +kernel
theorem dX4_backward_57 : decode cX4_backward 57 = .ok (.laload, 1) := by decide +kernel
theorem dX4_backward_58 : decode cX4_backward 58 = .ok (.lmul, 1) := by decide +kernel
theorem dX4_backward_59 : decode cX4_backward 59 = .ok (.ladd, 1) := by decide +kernel
theorem dX4_backward_60 : decode cX4_backward 60 = .ok (.lastore, 1) := by decide +kernel
theorem dX4_backward_61 : decode cX4_backward 61 = .ok (.iinc 4 1, 3) := by decide +kernel
theorem dX4_backward_64 : decode cX4_backward 64 = .ok (.goto (-41), 3) := by decide +kernel
theorem dX4_backward_67 : decode cX4_backward 67 = .ok (.aload_n 0, 1) := by decide +kernel
theorem dX4_backward_68 : decode cX4_backward 68 = .ok (.getfield 44, 3) := by decide +kernel
theorem dX4_backward_71 : decode cX4_backward 71 = .ok (.iconst 0, 1) := by decide +kernel
theorem dX4_backward_72 : decode cX4_backward 72 = .ok (.aload_n 0, 1) := by decide +kernel
theorem dX4_backward_73 : decode cX4_backward 73 = .ok (.getfield 41, 3) := by decide +kernel
theorem dX4_backward_76 : decode cX4_backward 76 = .ok (.iconst 0, 1) := by decide +kernel
theorem dX4_backward_77 : decode cX4_backward 77 = .ok (.bipush 8, 2) := by decide +kernel
theorem dX4_backward_79 : decode cX4_backward 79 = .ok (.invokestatic 95, 3) := by decide +kernel
theorem dX4_backward_82 : decode cX4_backward 82 = .ok (.iinc 3 1, 3) := by decide +kernel
theorem dX4_backward_85 : decode cX4_backward 85 = .ok (.goto (-78), 3) := by decide +kernel
theorem dX4_backward_88 : decode cX4_backward 88 = .ok (.aload_n 0, 1) := by decide +kernel
theorem dX4_backward_89 : decode cX4_backward 89 = .ok (.getfield 41, 3) := by decide +kernel
theorem dX4_backward_92 : decode cX4_backward 92 = .ok (.areturn, 1) := by decide +kernel
theorem dX4_startAt_0 : decode cX4_startAt 0 = .ok (.aload_n 0, 1) := by decide +kernel
theorem dX4_startAt_1 : decode cX4_startAt 1 = .ok (.getfield 41, 3) := by decide +kernel
theorem dX4_startAt_4 : decode cX4_startAt 4 = .ok (.lconst 0, 1) := by decide +kernel
theorem dX4_startAt_5 : decode cX4_startAt 5 = .ok (.invokestatic 63, 3) := by decide +kernel
theorem dX4_startAt_8 : decode cX4_startAt 8 = .ok (.aload_n 0, 1) := by decide +kernel
theorem dX4_startAt_9 : decode cX4_startAt 9 = .ok (.getfield 41, 3) := by decide +kernel
theorem dX4_startAt_12 : decode cX4_startAt 12 = .ok (.iload_n 1, 1) := by decide +kernel
theorem dX4_startAt_13 : decode cX4_startAt 13 = .ok (.lconst 1, 1) := by decide +kernel
theorem dX4_startAt_14 : decode cX4_startAt 14 = .ok (.lastore, 1) := by decide +kernel
theorem dX4_startAt_15 : decode cX4_startAt 15 = .ok (.return_, 1) := by decide +kernel
theorem dX4_nextOnes_0 : decode cX4_nextOnes 0 = .ok (.iconst 0, 1) := by decide +kernel
theorem dX4_nextOnes_1 : decode cX4_nextOnes 1 = .ok (.istore_n 2, 1) := by decide +kernel
theorem dX4_nextOnes_2 : decode cX4_nextOnes 2 = .ok (.iconst 0, 1) := by decide +kernel
theorem dX4_nextOnes_3 : decode cX4_nextOnes 3 = .ok (.istore_n 3, 1) := by decide +kernel
theorem dX4_nextOnes_4 : decode cX4_nextOnes 4 = .ok (.iload_n 3, 1) := by decide +kernel
theorem dX4_nextOnes_5 : decode cX4_nextOnes 5 = .ok (.bipush 8, 2) := by decide +kernel
theorem dX4_nextOnes_7 : decode cX4_nextOnes 7 = .ok (.if_icmp .ge 31, 3) := by decide +kernel
theorem dX4_nextOnes_10 : decode cX4_nextOnes 10 = .ok (.aload_n 0, 1) := by decide +kernel
theorem dX4_nextOnes_11 : decode cX4_nextOnes 11 = .ok (.getfield 34, 3) := by decide +kernel
theorem dX4_nextOnes_14 : decode cX4_nextOnes 14 = .ok (.iload_n 1, 1) := by decide +kernel
theorem dX4_nextOnes_15 : decode cX4_nextOnes 15 = .ok (.bipush 8, 2) := by decide +kernel
theorem dX4_nextOnes_17 : decode cX4_nextOnes 17 = .ok (.imul, 1) := by decide +kernel
theorem dX4_nextOnes_18 : decode cX4_nextOnes 18 = .ok (.iload_n 3, 1) := by decide +kernel
theorem dX4_nextOnes_19 : decode cX4_nextOnes 19 = .ok (.iadd, 1) := by decide +kernel
theorem dX4_nextOnes_20 : decode cX4_nextOnes 20 = .ok (.laload, 1) := by decide +kernel
theorem dX4_nextOnes_21 : decode cX4_nextOnes 21 = .ok (.lconst 0, 1) := by decide +kernel
theorem dX4_nextOnes_22 : decode cX4_nextOnes 22 = .ok (.lcmp, 1) := by decide +kernel
theorem dX4_nextOnes_23 : decode cX4_nextOnes 23 = .ok (.ifCond .le 9, 3) := by decide +kernel
theorem dX4_nextOnes_26 : decode cX4_nextOnes 26 = .ok (.iload_n 2, 1) := by decide +kernel
theorem dX4_nextOnes_27 : decode cX4_nextOnes 27 = .ok (.iconst 1, 1) := by decide +kernel
theorem dX4_nextOnes_28 : decode cX4_nextOnes 28 = .ok (.iload_n 3, 1) := by decide +kernel
theorem dX4_nextOnes_29 : decode cX4_nextOnes 29 = .ok (.ishl, 1) := by decide +kernel
theorem dX4_nextOnes_30 : decode cX4_nextOnes 30 = .ok (.ior, 1) := by decide +kernel
theorem dX4_nextOnes_31 : decode cX4_nextOnes 31 = .ok (.istore_n 2, 1) := by decide +kernel
theorem dX4_nextOnes_32 : decode cX4_nextOnes 32 = .ok (.iinc 3 1, 3) := by decide +kernel
theorem dX4_nextOnes_35 : decode cX4_nextOnes 35 = .ok (.goto (-31), 3) := by decide +kernel
theorem dX4_nextOnes_38 : decode cX4_nextOnes 38 = .ok (.iload_n 2, 1) := by decide +kernel
theorem dX4_nextOnes_39 : decode cX4_nextOnes 39 = .ok (.ireturn, 1) := by decide +kernel
theorem dX4_keptOnes_0 : decode cX4_keptOnes 0 = .ok (.iconst 0, 1) := by decide +kernel
theorem dX4_keptOnes_1 : decode cX4_keptOnes 1 = .ok (.istore_n 1, 1) := by decide +kernel
theorem dX4_keptOnes_2 : decode cX4_keptOnes 2 = .ok (.iconst 0, 1) := by decide +kernel
theorem dX4_keptOnes_3 : decode cX4_keptOnes 3 = .ok (.istore_n 2, 1) := by decide +kernel
theorem dX4_keptOnes_4 : decode cX4_keptOnes 4 = .ok (.iload_n 2, 1) := by decide +kernel
theorem dX4_keptOnes_5 : decode cX4_keptOnes 5 = .ok (.bipush 8, 2) := by decide +kernel
theorem dX4_keptOnes_7 : decode cX4_keptOnes 7 = .ok (.if_icmp .ge 35, 3) := by decide +kernel
theorem dX4_keptOnes_10 : decode cX4_keptOnes 10 = .ok (.aload_n 0, 1) := by decide +kernel
theorem dX4_keptOnes_11 : decode cX4_keptOnes 11 = .ok (.getfield 34, 3) := by decide +kernel
theorem dX4_keptOnes_14 : decode cX4_keptOnes 14 = .ok (.iload_n 2, 1) := by decide +kernel
theorem dX4_keptOnes_15 : decode cX4_keptOnes 15 = .ok (.bipush 8, 2) := by decide +kernel
theorem dX4_keptOnes_17 : decode cX4_keptOnes 17 = .ok (.imul, 1) := by decide +kernel
theorem dX4_keptOnes_18 : decode cX4_keptOnes 18 = .ok (.iload_n 2, 1) := by decide +kernel
theorem dX4_keptOnes_19 : decode cX4_keptOnes 19 = .ok (.iadd, 1) := by decide +kernel
theorem dX4_keptOnes_20 : decode cX4_keptOnes 20 = .ok (.laload, 1) := by decide +kernel
theorem dX4_keptOnes_21 : decode cX4_keptOnes 21 = .ok (.aload_n 0, 1) := by decide +kernel
theorem dX4_keptOnes_22 : decode cX4_keptOnes 22 = .ok (.iconst 1, 1) := by decide +kernel
theorem dX4_keptOnes_23 : decode cX4_keptOnes 23 = .ok (.invokevirtual 105, 3) := by decide +kernel
theorem dX4_keptOnes_26 : decode cX4_keptOnes 26 = .ok (.lcmp, 1) := by decide +kernel
theorem dX4_keptOnes_27 : decode cX4_keptOnes 27 = .ok (.ifCond .ne 9, 3) := by decide +kernel
theorem dX4_keptOnes_30 : decode cX4_keptOnes 30 = .ok (.iload_n 1, 1) := by decide +kernel
theorem dX4_keptOnes_31 : decode cX4_keptOnes 31 = .ok (.iconst 1, 1) := by decide +kernel
theorem dX4_keptOnes_32 : decode cX4_keptOnes 32 = .ok (.iload_n 2, 1) := by decide +kernel
theorem dX4_keptOnes_33 : decode cX4_keptOnes 33 = .ok (.ishl, 1) := by decide +kernel
theorem dX4_keptOnes_34 : decode cX4_keptOnes 34 = .ok (.ior, 1) := by decide +kernel
theorem dX4_keptOnes_35 : decode cX4_keptOnes 35 = .ok (.istore_n 1, 1) := by decide +kernel
theorem dX4_keptOnes_36 : decode cX4_keptOnes 36 = .ok (.iinc 2 1, 3) := by decide +kernel
theorem dX4_keptOnes_39 : decode cX4_keptOnes 39 = .ok (.goto (-35), 3) := by decide +kernel
theorem dX4_keptOnes_42 : decode cX4_keptOnes 42 = .ok (.iload_n 1, 1) := by decide +kernel
theorem dX4_keptOnes_43 : decode cX4_keptOnes 43 = .ok (.ireturn, 1) := by decide +kernel
theorem dX5_init_0 : decode cX5_init 0 = .ok (.aload_n 0, 1) := by decide +kernel
theorem dX5_init_1 : decode cX5_init 1 = .ok (.invokespecial 1, 3) := by decide +kernel
theorem dX5_init_4 : decode cX5_init 4 = .ok (.aload_n 0, 1) := by decide +kernel
theorem dX5_init_5 : decode cX5_init 5 = .ok (.new 7, 3) := by decide +kernel
theorem dX5_init_8 : decode cX5_init 8 = .ok (.dup, 1) := by decide +kernel
theorem dX5_init_9 : decode cX5_init 9 = .ok (.invokespecial 9, 3) := by decide +kernel
theorem dX5_init_12 : decode cX5_init 12 = .ok (.putfield 10, 3) := by decide +kernel
theorem dX5_init_15 : decode cX5_init 15 = .ok (.aload_n 0, 1) := by decide +kernel
theorem dX5_init_16 : decode cX5_init 16 = .ok (.new 16, 3) := by decide +kernel
theorem dX5_init_19 : decode cX5_init 19 = .ok (.dup, 1) := by decide +kernel
theorem dX5_init_20 : decode cX5_init 20 = .ok (.invokespecial 18, 3) := by decide +kernel
theorem dX5_init_23 : decode cX5_init 23 = .ok (.putfield 19, 3) := by decide +kernel
theorem dX5_init_26 : decode cX5_init 26 = .ok (.aload_n 0, 1) := by decide +kernel
theorem dX5_init_27 : decode cX5_init 27 = .ok (.new 23, 3) := by decide +kernel
theorem dX5_init_30 : decode cX5_init 30 = .ok (.dup, 1) := by decide +kernel
theorem dX5_init_31 : decode cX5_init 31 = .ok (.invokespecial 25, 3) := by decide +kernel
theorem dX5_init_34 : decode cX5_init 34 = .ok (.putfield 26, 3) := by decide +kernel
theorem dX5_init_37 : decode cX5_init 37 = .ok (.aload_n 0, 1) := by decide +kernel
theorem dX5_init_38 : decode cX5_init 38 = .ok (.new 30, 3) := by decide +kernel
theorem dX5_init_41 : decode cX5_init 41 = .ok (.dup, 1) := by decide +kernel
theorem dX5_init_42 : decode cX5_init 42 = .ok (.aload_n 0, 1) := by decide +kernel
theorem dX5_init_43 : decode cX5_init 43 = .ok (.getfield 26, 3) := by decide +kernel
theorem dX5_init_46 : decode cX5_init 46 = .ok (.invokespecial 32, 3) := by decide +kernel
theorem dX5_init_49 : decode cX5_init 49 = .ok (.putfield 35, 3) := by decide +kernel
theorem dX5_init_52 : decode cX5_init 52 = .ok (.aload_n 0, 1) := by decide +kernel
theorem dX5_init_53 : decode cX5_init 53 = .ok (.new 39, 3) := by decide +kernel
theorem dX5_init_56 : decode cX5_init 56 = .ok (.dup, 1) := by decide +kernel
theorem dX5_init_57 : decode cX5_init 57 = .ok (.aload_n 0, 1) := by decide +kernel
theorem dX5_init_58 : decode cX5_init 58 = .ok (.getfield 26, 3) := by decide +kernel
theorem dX5_init_61 : decode cX5_init 61 = .ok (.aload_n 0, 1) := by decide +kernel
theorem dX5_init_62 : decode cX5_init 62 = .ok (.getfield 35, 3) := by decide +kernel
theorem dX5_init_65 : decode cX5_init 65 = .ok (.invokespecial 41, 3) := by decide +kernel
theorem dX5_init_68 : decode cX5_init 68 = .ok (.putfield 44, 3) := by decide +kernel
theorem dX5_init_71 : decode cX5_init 71 = .ok (.aload_n 0, 1) := by decide +kernel
theorem dX5_init_72 : decode cX5_init 72 = .ok (.bipush 8, 2) := by decide +kernel
theorem dX5_init_74 : decode cX5_init 74 = .ok (.newarray .int, 2) := by decide +kernel
theorem dX5_init_76 : decode cX5_init 76 = .ok (.putfield 48, 3) := by decide +kernel
theorem dX5_init_79 : decode cX5_init 79 = .ok (.return_, 1) := by decide +kernel
theorem dX5_weight_0 : decode cX5_weight 0 = .ok (.iload_n 1, 1) := by decide +kernel
theorem dX5_weight_1 : decode cX5_weight 1 = .ok (.invokestatic 52, 3) := by decide +kernel
theorem dX5_weight_4 : decode cX5_weight 4 = .ok (.ifCond .ne 5, 3) := by decide +kernel
theorem dX5_weight_7 : decode cX5_weight 7 = .ok (.iconst (-1), 1) := by decide +kernel
theorem dX5_weight_8 : decode cX5_weight 8 = .ok (.ireturn, 1) := by decide +kernel
theorem dX5_weight_9 : decode cX5_weight 9 = .ok (.iload_n 2, 1) := by decide +kernel
theorem dX5_weight_10 : decode cX5_weight 10 = .ok (.iconst 1, 1) := by decide +kernel
theorem dX5_weight_11 : decode cX5_weight 11 = .ok (.iconst 4, 1) := by decide +kernel
theorem dX5_weight_12 : decode cX5_weight 12 = .ok (.invokestatic 56, 3) := by decide +kernel
theorem dX5_weight_15 : decode cX5_weight 15 = .ok (.ifCond .ne 6, 3) := by decide +kernel
theorem dX5_weight_18 : decode cX5_weight 18 = .ok (.bipush (-2), 2) := by decide +kernel
theorem dX5_weight_20 : decode cX5_weight 20 = .ok (.ireturn, 1) := by decide +kernel
theorem dX5_weight_21 : decode cX5_weight 21 = .ok (.aload_n 0, 1) := by decide +kernel
theorem dX5_weight_22 : decode cX5_weight 22 = .ok (.getfield 44, 3) := by decide +kernel
theorem dX5_weight_25 : decode cX5_weight 25 = .ok (.getfield 60, 3) := by decide +kernel
theorem dX5_weight_28 : decode cX5_weight 28 = .ok (.iload_n 1, 1) := by decide +kernel
theorem dX5_weight_29 : decode cX5_weight 29 = .ok (.iaload, 1) := by decide +kernel
theorem dX5_weight_30 : decode cX5_weight 30 = .ok (.istore_n 3, 1) := by decide +kernel
theorem dX5_weight_31 : decode cX5_weight 31 = .ok (.aload_n 0, 1) := by decide +kernel
theorem dX5_weight_32 : decode cX5_weight 32 = .ok (.getfield 44, 3) := by decide +kernel
theorem dX5_weight_35 : decode cX5_weight 35 = .ok (.getfield 60, 3) := by decide +kernel
theorem dX5_weight_38 : decode cX5_weight 38 = .ok (.iload_n 1, 1) := by decide +kernel
theorem dX5_weight_39 : decode cX5_weight 39 = .ok (.iload_n 2, 1) := by decide +kernel
theorem dX5_weight_40 : decode cX5_weight 40 = .ok (.iastore, 1) := by decide +kernel
theorem dX5_weight_41 : decode cX5_weight 41 = .ok (.aload_n 0, 1) := by decide +kernel
theorem dX5_weight_42 : decode cX5_weight 42 = .ok (.getfield 44, 3) := by decide +kernel
theorem dX5_weight_45 : decode cX5_weight 45 = .ok (.iconst 0, 1) := by decide +kernel
theorem dX5_weight_46 : decode cX5_weight 46 = .ok (.putfield 63, 3) := by decide +kernel
theorem dX5_weight_49 : decode cX5_weight 49 = .ok (.iload_n 3, 1) := by decide +kernel
theorem dX5_weight_50 : decode cX5_weight 50 = .ok (.ireturn, 1) := by decide +kernel
theorem dX5_set_0 : decode cX5_set 0 = .ok (.iload_n 1, 1) := by decide +kernel
theorem dX5_set_1 : decode cX5_set 1 = .ok (.tableswitch 87 0 2 #[27, 47, 67], 27) := by decide +kernel
theorem dX5_set_28 : decode cX5_set 28 = .ok (.iload_n 2, 1) := by decide +kernel
theorem dX5_set_29 : decode cX5_set 29 = .ok (.iconst 0, 1) := by decide +kernel
theorem dX5_set_30 : decode cX5_set 30 = .ok (.iconst 5, 1) := by decide +kernel
theorem dX5_set_31 : decode cX5_set 31 = .ok (.invokestatic 56, 3) := by decide +kernel
theorem dX5_set_34 : decode cX5_set 34 = .ok (.ifCond .eq 11, 3) := by decide +kernel
theorem dX5_set_37 : decode cX5_set 37 = .ok (.aload_n 0, 1) := by decide +kernel
theorem dX5_set_38 : decode cX5_set 38 = .ok (.iload_n 2, 1) := by decide +kernel
theorem dX5_set_39 : decode cX5_set 39 = .ok (.invokevirtual 67, 3) := by decide +kernel
theorem dX5_set_42 : decode cX5_set 42 = .ok (.goto 5, 3) := by decide +kernel
theorem dX5_set_45 : decode cX5_set 45 = .ok (.bipush (-2), 2) := by decide +kernel
theorem dX5_set_47 : decode cX5_set 47 = .ok (.ireturn, 1) := by decide +kernel
theorem dX5_set_48 : decode cX5_set 48 = .ok (.iload_n 2, 1) := by decide +kernel
theorem dX5_set_49 : decode cX5_set 49 = .ok (.iconst 1, 1) := by decide +kernel
theorem dX5_set_50 : decode cX5_set 50 = .ok (.iconst 4, 1) := by decide +kernel
theorem dX5_set_51 : decode cX5_set 51 = .ok (.invokestatic 56, 3) := by decide +kernel
theorem dX5_set_54 : decode cX5_set 54 = .ok (.ifCond .eq 11, 3) := by decide +kernel
theorem dX5_set_57 : decode cX5_set 57 = .ok (.aload_n 0, 1) := by decide +kernel
theorem dX5_set_58 : decode cX5_set 58 = .ok (.iload_n 2, 1) := by decide +kernel
theorem dX5_set_59 : decode cX5_set 59 = .ok (.invokevirtual 71, 3) := by decide +kernel
theorem dX5_set_62 : decode cX5_set 62 = .ok (.goto 5, 3) := by decide +kernel
theorem dX5_set_65 : decode cX5_set 65 = .ok (.bipush (-2), 2) := by decide +kernel
theorem dX5_set_67 : decode cX5_set 67 = .ok (.ireturn, 1) := by decide +kernel
theorem dX5_set_68 : decode cX5_set 68 = .ok (.iload_n 2, 1) := by decide +kernel
theorem dX5_set_69 : decode cX5_set 69 = .ok (.iconst 0, 1) := by decide +kernel
theorem dX5_set_70 : decode cX5_set 70 = .ok (.iconst 2, 1) := by decide +kernel
theorem dX5_set_71 : decode cX5_set 71 = .ok (.invokestatic 56, 3) := by decide +kernel
theorem dX5_set_74 : decode cX5_set 74 = .ok (.ifCond .eq 11, 3) := by decide +kernel
theorem dX5_set_77 : decode cX5_set 77 = .ok (.aload_n 0, 1) := by decide +kernel
theorem dX5_set_78 : decode cX5_set 78 = .ok (.iload_n 2, 1) := by decide +kernel
theorem dX5_set_79 : decode cX5_set 79 = .ok (.invokevirtual 74, 3) := by decide +kernel
theorem dX5_set_82 : decode cX5_set 82 = .ok (.goto 5, 3) := by decide +kernel
theorem dX5_set_85 : decode cX5_set 85 = .ok (.bipush (-2), 2) := by decide +kernel
theorem dX5_set_87 : decode cX5_set 87 = .ok (.ireturn, 1) := by decide +kernel
theorem dX5_set_88 : decode cX5_set 88 = .ok (.bipush (-2), 2) := by decide +kernel
theorem dX5_set_90 : decode cX5_set 90 = .ok (.ireturn, 1) := by decide +kernel
theorem dX5_say_0 : decode cX5_say 0 = .ok (.iload_n 1, 1) := by decide +kernel
theorem dX5_say_1 : decode cX5_say 1 = .ok (.bipush 33, 2) := by decide +kernel
theorem dX5_say_3 : decode cX5_say 3 = .ok (.bipush 126, 2) := by decide +kernel
theorem dX5_say_5 : decode cX5_say 5 = .ok (.invokestatic 56, 3) := by decide +kernel
theorem dX5_say_8 : decode cX5_say 8 = .ok (.ifCond .ne 6, 3) := by decide +kernel
theorem dX5_say_11 : decode cX5_say 11 = .ok (.bipush (-2), 2) := by decide +kernel
theorem dX5_say_13 : decode cX5_say 13 = .ok (.ireturn, 1) := by decide +kernel
theorem dX5_say_14 : decode cX5_say 14 = .ok (.aload_n 0, 1) := by decide +kernel
theorem dX5_say_15 : decode cX5_say 15 = .ok (.getfield 10, 3) := by decide +kernel
theorem dX5_say_18 : decode cX5_say 18 = .ok (.iload_n 1, 1) := by decide +kernel
theorem dX5_say_19 : decode cX5_say 19 = .ok (.invokevirtual 77, 3) := by decide +kernel
theorem dX5_say_22 : decode cX5_say 22 = .ok (.ifCond .eq 13, 3) := by decide +kernel
theorem dX5_say_25 : decode cX5_say 25 = .ok (.aload_n 0, 1) := by decide +kernel
theorem dX5_say_26 : decode cX5_say 26 = .ok (.getfield 10, 3) := by decide +kernel
theorem dX5_say_29 : decode cX5_say 29 = .ok (.getfield 80, 3) := by decide +kernel
theorem dX5_say_32 : decode cX5_say 32 = .ok (.goto 5, 3) := by decide +kernel
theorem dX5_say_35 : decode cX5_say 35 = .ok (.bipush (-4), 2) := by decide +kernel
theorem dX5_say_37 : decode cX5_say 37 = .ok (.ireturn, 1) := by decide +kernel
theorem dX5_wipe_0 : decode cX5_wipe 0 = .ok (.aload_n 0, 1) := by decide +kernel
theorem dX5_wipe_1 : decode cX5_wipe 1 = .ok (.getfield 10, 3) := by decide +kernel
theorem dX5_wipe_4 : decode cX5_wipe 4 = .ok (.invokevirtual 84, 3) := by decide +kernel
theorem dX5_wipe_7 : decode cX5_wipe 7 = .ok (.ireturn, 1) := by decide +kernel
theorem dX5_fault_0 : decode cX5_fault 0 = .ok (.aload_n 0, 1) := by decide +kernel
theorem dX5_fault_1 : decode cX5_fault 1 = .ok (.getfield 10, 3) := by decide +kernel
theorem dX5_fault_4 : decode cX5_fault 4 = .ok (.invokevirtual 88, 3) := by decide +kernel
theorem dX5_fault_7 : decode cX5_fault 7 = .ok (.ireturn, 1) := by decide +kernel
theorem dX5_before_0 : decode cX5_before 0 = .ok (.aload_n 0, 1) := by decide +kernel
theorem dX5_before_1 : decode cX5_before 1 = .ok (.getfield 10, 3) := by decide +kernel
theorem dX5_before_4 : decode cX5_before 4 = .ok (.invokevirtual 88, 3) := by decide +kernel
theorem dX5_before_7 : decode cX5_before 7 = .ok (.bipush (-6), 2) := by decide +kernel
theorem dX5_before_9 : decode cX5_before 9 = .ok (.if_icmp .eq 6, 3) := by decide +kernel
theorem dX5_before_12 : decode cX5_before 12 = .ok (.bipush (-5), 2) := by decide +kernel
theorem dX5_before_14 : decode cX5_before 14 = .ok (.ireturn, 1) := by decide +kernel
theorem dX5_before_15 : decode cX5_before 15 = .ok (.aload_n 0, 1) := by decide +kernel
theorem dX5_before_16 : decode cX5_before 16 = .ok (.getfield 10, 3) := by decide +kernel
theorem dX5_before_19 : decode cX5_before 19 = .ok (.invokevirtual 91, 3) := by decide +kernel
theorem dX5_before_22 : decode cX5_before 22 = .ok (.istore_n 1, 1) := by decide +kernel
theorem dX5_before_23 : decode cX5_before 23 = .ok (.iconst 0, 1) := by decide +kernel
theorem dX5_before_24 : decode cX5_before 24 = .ok (.istore_n 2, 1) := by decide +kernel
theorem dX5_before_25 : decode cX5_before 25 = .ok (.iload_n 2, 1) := by decide +kernel
theorem dX5_before_26 : decode cX5_before 26 = .ok (.bipush 8, 2) := by decide +kernel
theorem dX5_before_28 : decode cX5_before 28 = .ok (.if_icmp .ge 26, 3) := by decide +kernel
theorem dX5_before_31 : decode cX5_before 31 = .ok (.aload_n 0, 1) := by decide +kernel
theorem dX5_before_32 : decode cX5_before 32 = .ok (.getfield 26, 3) := by decide +kernel
theorem dX5_before_35 : decode cX5_before 35 = .ok (.getfield 94, 3) := by decide +kernel
theorem dX5_before_38 : decode cX5_before 38 = .ok (.iload_n 2, 1) := by decide +kernel
theorem dX5_before_39 : decode cX5_before 39 = .ok (.aload_n 0, 1) := by decide +kernel
theorem dX5_before_40 : decode cX5_before 40 = .ok (.getfield 10, 3) := by decide +kernel
theorem dX5_before_43 : decode cX5_before 43 = .ok (.iload_n 2, 1) := by decide +kernel
theorem dX5_before_44 : decode cX5_before 44 = .ok (.invokevirtual 97, 3) := by decide +kernel
theorem dX5_before_47 : decode cX5_before 47 = .ok (.iastore, 1) := by decide +kernel
theorem dX5_before_48 : decode cX5_before 48 = .ok (.iinc 2 1, 3) := by decide +kernel
theorem dX5_before_51 : decode cX5_before 51 = .ok (.goto (-26), 3) := by decide +kernel
theorem dX5_before_54 : decode cX5_before 54 = .ok (.aload_n 0, 1) := by decide +kernel
theorem dX5_before_55 : decode cX5_before 55 = .ok (.getfield 10, 3) := by decide +kernel
theorem dX5_before_58 : decode cX5_before 58 = .ok (.invokevirtual 84, 3) := by decide +kernel
theorem dX5_before_61 : decode cX5_before 61 = .ok (.pop, 1) := by decide +kernel
theorem dX5_before_62 : decode cX5_before 62 = .ok (.aload_n 0, 1) := by decide +kernel
theorem dX5_before_63 : decode cX5_before 63 = .ok (.invokevirtual 100, 3) := by decide +kernel
theorem dX5_before_66 : decode cX5_before 66 = .ok (.iload_n 1, 1) := by decide +kernel
theorem dX5_before_67 : decode cX5_before 67 = .ok (.ireturn, 1) := by decide +kernel
theorem dX5_number_0 : decode cX5_number 0 = .ok (.iload_n 1, 1) := by decide +kernel
theorem dX5_number_1 : decode cX5_number 1 = .ok (.invokestatic 103, 3) := by decide +kernel
theorem dX5_number_4 : decode cX5_number 4 = .ok (.ifCond .eq 15, 3) := by decide +kernel
theorem dX5_number_7 : decode cX5_number 7 = .ok (.aload_n 0, 1) := by decide +kernel
theorem dX5_number_8 : decode cX5_number 8 = .ok (.getfield 26, 3) := by decide +kernel
theorem dX5_number_11 : decode cX5_number 11 = .ok (.getfield 94, 3) := by decide +kernel
theorem dX5_number_14 : decode cX5_number 14 = .ok (.iload_n 1, 1) := by decide +kernel
theorem dX5_number_15 : decode cX5_number 15 = .ok (.iaload, 1) := by decide +kernel
theorem dX5_number_16 : decode cX5_number 16 = .ok (.goto 4, 3) := by decide +kernel
theorem dX5_number_19 : decode cX5_number 19 = .ok (.iconst (-1), 1) := by decide +kernel
theorem dX5_number_20 : decode cX5_number 20 = .ok (.ireturn, 1) := by decide +kernel
theorem dX5_hear_0 : decode cX5_hear 0 = .ok (.iload_n 1, 1) := by decide +kernel
theorem dX5_hear_1 : decode cX5_hear 1 = .ok (.invokestatic 52, 3) := by decide +kernel
theorem dX5_hear_4 : decode cX5_hear 4 = .ok (.ifCond .ne 5, 3) := by decide +kernel
theorem dX5_hear_7 : decode cX5_hear 7 = .ok (.iconst (-1), 1) := by decide +kernel
theorem dX5_hear_8 : decode cX5_hear 8 = .ok (.ireturn, 1) := by decide +kernel
theorem dX5_hear_9 : decode cX5_hear 9 = .ok (.iload_n 2, 1) := by decide +kernel
theorem dX5_hear_10 : decode cX5_hear 10 = .ok (.invokestatic 106, 3) := by decide +kernel
theorem dX5_hear_13 : decode cX5_hear 13 = .ok (.ifCond .ne 6, 3) := by decide +kernel
theorem dX5_hear_16 : decode cX5_hear 16 = .ok (.bipush (-2), 2) := by decide +kernel
theorem dX5_hear_18 : decode cX5_hear 18 = .ok (.ireturn, 1) := by decide +kernel
theorem dX5_hear_19 : decode cX5_hear 19 = .ok (.aload_n 0, 1) := by decide +kernel
theorem dX5_hear_20 : decode cX5_hear 20 = .ok (.getfield 19, 3) := by decide +kernel
theorem dX5_hear_23 : decode cX5_hear 23 = .ok (.getfield 109, 3) := by decide +kernel
theorem dX5_hear_26 : decode cX5_hear 26 = .ok (.bipush 6, 2) := by decide +kernel
theorem dX5_hear_28 : decode cX5_hear 28 = .ok (.if_icmp .lt 6, 3) := by decide +kernel
theorem dX5_hear_31 : decode cX5_hear 31 = .ok (.bipush (-4), 2) := by decide +kernel
theorem dX5_hear_33 : decode cX5_hear 33 = .ok (.ireturn, 1) := by decide +kernel
theorem dX5_hear_34 : decode cX5_hear 34 = .ok (.aload_n 0, 1) := by decide +kernel
theorem dX5_hear_35 : decode cX5_hear 35 = .ok (.getfield 19, 3) := by decide +kernel
theorem dX5_hear_38 : decode cX5_hear 38 = .ok (.iconst 2, 1) := by decide +kernel
theorem dX5_hear_39 : decode cX5_hear 39 = .ok (.iload_n 1, 1) := by decide +kernel
theorem dX5_hear_40 : decode cX5_hear 40 = .ok (.imul, 1) := by decide +kernel
theorem dX5_hear_41 : decode cX5_hear 41 = .ok (.iload_n 2, 1) := by decide +kernel
theorem dX5_hear_42 : decode cX5_hear 42 = .ok (.iadd, 1) := by decide +kernel
theorem dX5_hear_43 : decode cX5_hear 43 = .ok (.invokevirtual 112, 3) := by decide +kernel
theorem dX5_hear_46 : decode cX5_hear 46 = .ok (.aload_n 0, 1) := by decide +kernel
theorem dX5_hear_47 : decode cX5_hear 47 = .ok (.getfield 19, 3) := by decide +kernel
theorem dX5_hear_50 : decode cX5_hear 50 = .ok (.getfield 109, 3) := by decide +kernel
theorem dX5_hear_53 : decode cX5_hear 53 = .ok (.ireturn, 1) := by decide +kernel
theorem dX5_forget_0 : decode cX5_forget 0 = .ok (.aload_n 0, 1) := by decide +kernel
theorem dX5_forget_1 : decode cX5_forget 1 = .ok (.getfield 19, 3) := by decide +kernel
theorem dX5_forget_4 : decode cX5_forget 4 = .ok (.getfield 109, 3) := by decide +kernel
theorem dX5_forget_7 : decode cX5_forget 7 = .ok (.istore_n 1, 1) := by decide +kernel
theorem dX5_forget_8 : decode cX5_forget 8 = .ok (.aload_n 0, 1) := by decide +kernel
theorem dX5_forget_9 : decode cX5_forget 9 = .ok (.getfield 19, 3) := by decide +kernel
theorem dX5_forget_12 : decode cX5_forget 12 = .ok (.invokevirtual 115, 3) := by decide +kernel
theorem dX5_forget_15 : decode cX5_forget 15 = .ok (.iload_n 1, 1) := by decide +kernel
theorem dX5_forget_16 : decode cX5_forget 16 = .ok (.ireturn, 1) := by decide +kernel
theorem dX5_likeness_0 : decode cX5_likeness 0 = .ok (.iload_n 1, 1) := by decide +kernel
theorem dX5_likeness_1 : decode cX5_likeness 1 = .ok (.invokestatic 103, 3) := by decide +kernel
theorem dX5_likeness_4 : decode cX5_likeness 4 = .ok (.ifCond .eq 18, 3) := by decide +kernel
theorem dX5_likeness_7 : decode cX5_likeness 7 = .ok (.aload_n 0, 1) := by decide +kernel
theorem dX5_likeness_8 : decode cX5_likeness 8 = .ok (.getfield 26, 3) := by decide +kernel
theorem dX5_likeness_11 : decode cX5_likeness 11 = .ok (.iload_n 1, 1) := by decide +kernel
theorem dX5_likeness_12 : decode cX5_likeness 12 = .ok (.aload_n 0, 1) := by decide +kernel
theorem dX5_likeness_13 : decode cX5_likeness 13 = .ok (.getfield 19, 3) := by decide +kernel
theorem dX5_likeness_16 : decode cX5_likeness 16 = .ok (.invokevirtual 117, 3) := by decide +kernel
theorem dX5_likeness_19 : decode cX5_likeness 19 = .ok (.goto 6, 3) := by decide +kernel
theorem dX5_likeness_22 : decode cX5_likeness 22 = .ok (.ldc2_w 121, 3) := by decide +kernel
theorem dX5_likeness_25 : decode cX5_likeness 25 = .ok (.lreturn, 1) := by decide +kernel
theorem dX5_thinks_0 : decode cX5_thinks 0 = .ok (.iload_n 1, 1) := by decide +kernel
theorem dX5_thinks_1 : decode cX5_thinks 1 = .ok (.invokestatic 103, 3) := by decide +kernel
theorem dX5_thinks_4 : decode cX5_thinks 4 = .ok (.iload_n 2, 1) := by decide +kernel
theorem dX5_thinks_5 : decode cX5_thinks 5 = .ok (.invokestatic 123, 3) := by decide +kernel
theorem dX5_thinks_8 : decode cX5_thinks 8 = .ok (.invokestatic 126, 3) := by decide +kernel
theorem dX5_thinks_11 : decode cX5_thinks 11 = .ok (.istore_n 3, 1) := by decide +kernel
theorem dX5_thinks_12 : decode cX5_thinks 12 = .ok (.iload_n 3, 1) := by decide +kernel
theorem dX5_thinks_13 : decode cX5_thinks 13 = .ok (.ifCond .eq 10, 3) := by decide +kernel
theorem dX5_thinks_16 : decode cX5_thinks 16 = .ok (.ldc2_w 130, 3) := by decide +kernel
theorem dX5_thinks_19 : decode cX5_thinks 19 = .ok (.iload_n 3, 1) := by decide +kernel
theorem dX5_thinks_20 : decode cX5_thinks 20 = .ok (.i2l, 1) := by decide +kernel
theorem dX5_thinks_21 : decode cX5_thinks 21 = .ok (.ladd, 1) := by decide +kernel
theorem dX5_thinks_22 : decode cX5_thinks 22 = .ok (.lreturn, 1) := by decide +kernel
theorem dX5_thinks_23 : decode cX5_thinks 23 = .ok (.lconst 0, 1) := by decide +kernel
theorem dX5_thinks_24 : decode cX5_thinks 24 = .ok (.lstore 4, 2) := by decide +kernel
theorem dX5_thinks_26 : decode cX5_thinks 26 = .ok (.iconst 0, 1) := by decide +kernel
theorem dX5_thinks_27 : decode cX5_thinks 27 = .ok (.istore 6, 2) := by decide +kernel
theorem dX5_thinks_29 : decode cX5_thinks 29 = .ok (.iload 6, 2) := by decide +kernel
theorem dX5_thinks_31 : decode cX5_thinks 31 = .ok (.bipush 8, 2) := by decide +kernel
theorem dX5_thinks_33 : decode cX5_thinks 33 = .ok (.if_icmp .ge 27, 3) := by decide +kernel
theorem dX5_thinks_36 : decode cX5_thinks 36 = .ok (.lload 4, 2) := by decide +kernel
theorem dX5_thinks_38 : decode cX5_thinks 38 = .ok (.aload_n 0, 1) := by decide +kernel
theorem dX5_thinks_39 : decode cX5_thinks 39 = .ok (.getfield 26, 3) := by decide +kernel
theorem dX5_thinks_42 : decode cX5_thinks 42 = .ok (.iload 6, 2) := by decide +kernel
theorem dX5_thinks_44 : decode cX5_thinks 44 = .ok (.aload_n 0, 1) := by decide +kernel
theorem dX5_thinks_45 : decode cX5_thinks 45 = .ok (.getfield 19, 3) := by decide +kernel
theorem dX5_thinks_48 : decode cX5_thinks 48 = .ok (.invokevirtual 117, 3) := by decide +kernel
theorem dX5_thinks_51 : decode cX5_thinks 51 = .ok (.ladd, 1) := by decide +kernel
theorem dX5_thinks_52 : decode cX5_thinks 52 = .ok (.lstore 4, 2) := by decide +kernel
theorem dX5_thinks_54 : decode cX5_thinks 54 = .ok (.iinc 6 1, 3) := by decide +kernel
theorem dX5_thinks_57 : decode cX5_thinks 57 = .ok (.goto (-28), 3) := by decide +kernel
theorem dX5_thinks_60 : decode cX5_thinks 60 = .ok (.aload_n 0, 1) := by decide +kernel
theorem dX5_thinks_61 : decode cX5_thinks 61 = .ok (.getfield 26, 3) := by decide +kernel
theorem dX5_thinks_64 : decode cX5_thinks 64 = .ok (.iload_n 1, 1) := by decide +kernel
theorem dX5_thinks_65 : decode cX5_thinks 65 = .ok (.aload_n 0, 1) := by decide +kernel
theorem dX5_thinks_66 : decode cX5_thinks 66 = .ok (.getfield 19, 3) := by decide +kernel
theorem dX5_thinks_69 : decode cX5_thinks 69 = .ok (.invokevirtual 117, 3) := by decide +kernel
theorem dX5_thinks_72 : decode cX5_thinks 72 = .ok (.lload 4, 2) := by decide +kernel
theorem dX5_thinks_74 : decode cX5_thinks 74 = .ok (.iload_n 2, 1) := by decide +kernel
theorem dX5_thinks_75 : decode cX5_thinks 75 = .ok (.invokestatic 132, 3) := by decide +kernel
theorem dX5_thinks_78 : decode cX5_thinks 78 = .ok (.lreturn, 1) := by decide +kernel
theorem dX5_takes_0 : decode cX5_takes 0 = .ok (.aload_n 0, 1) := by decide +kernel
theorem dX5_takes_1 : decode cX5_takes 1 = .ok (.getfield 26, 3) := by decide +kernel
theorem dX5_takes_4 : decode cX5_takes 4 = .ok (.aload_n 0, 1) := by decide +kernel
theorem dX5_takes_5 : decode cX5_takes 5 = .ok (.getfield 19, 3) := by decide +kernel
theorem dX5_takes_8 : decode cX5_takes 8 = .ok (.invokevirtual 136, 3) := by decide +kernel
theorem dX5_takes_11 : decode cX5_takes 11 = .ok (.ireturn, 1) := by decide +kernel
theorem dX5_step_0 : decode cX5_step 0 = .ok (.iload_n 1, 1) := by decide +kernel
theorem dX5_step_1 : decode cX5_step 1 = .ok (.invokestatic 103, 3) := by decide +kernel
theorem dX5_step_4 : decode cX5_step 4 = .ok (.ifCond .eq 14, 3) := by decide +kernel
theorem dX5_step_7 : decode cX5_step 7 = .ok (.iload_n 2, 1) := by decide +kernel
theorem dX5_step_8 : decode cX5_step 8 = .ok (.invokestatic 103, 3) := by decide +kernel
theorem dX5_step_11 : decode cX5_step 11 = .ok (.ifCond .eq 7, 3) := by decide +kernel
theorem dX5_step_14 : decode cX5_step 14 = .ok (.iconst 1, 1) := by decide +kernel
theorem dX5_step_15 : decode cX5_step 15 = .ok (.goto 4, 3) := by decide +kernel
theorem dX5_step_18 : decode cX5_step 18 = .ok (.iconst 0, 1) := by decide +kernel
theorem dX5_step_19 : decode cX5_step 19 = .ok (.iload_n 3, 1) := by decide +kernel
theorem dX5_step_20 : decode cX5_step 20 = .ok (.invokestatic 123, 3) := by decide +kernel
theorem dX5_step_23 : decode cX5_step 23 = .ok (.invokestatic 126, 3) := by decide +kernel
theorem dX5_step_26 : decode cX5_step 26 = .ok (.istore 4, 2) := by decide +kernel
theorem dX5_step_28 : decode cX5_step 28 = .ok (.iload 4, 2) := by decide +kernel
theorem dX5_step_30 : decode cX5_step 30 = .ok (.ifCond .eq 11, 3) := by decide +kernel
theorem dX5_step_33 : decode cX5_step 33 = .ok (.ldc2_w 130, 3) := by decide +kernel
theorem dX5_step_36 : decode cX5_step 36 = .ok (.iload 4, 2) := by decide +kernel
theorem dX5_step_38 : decode cX5_step 38 = .ok (.i2l, 1) := by decide +kernel
theorem dX5_step_39 : decode cX5_step 39 = .ok (.ladd, 1) := by decide +kernel
theorem dX5_step_40 : decode cX5_step 40 = .ok (.lreturn, 1) := by decide +kernel
theorem dX5_step_41 : decode cX5_step 41 = .ok (.aload_n 0, 1) := by decide +kernel
theorem dX5_step_42 : decode cX5_step 42 = .ok (.getfield 44, 3) := by decide +kernel
theorem dX5_step_45 : decode cX5_step 45 = .ok (.iload_n 1, 1) := by decide +kernel
theorem dX5_step_46 : decode cX5_step 46 = .ok (.iload_n 1, 1) := by decide +kernel
theorem dX5_step_47 : decode cX5_step 47 = .ok (.iconst 0, 1) := by decide +kernel
theorem dX5_step_48 : decode cX5_step 48 = .ok (.invokevirtual 140, 3) := by decide +kernel
theorem dX5_step_51 : decode cX5_step 51 = .ok (.iload_n 2, 1) := by decide +kernel
theorem dX5_step_52 : decode cX5_step 52 = .ok (.laload, 1) := by decide +kernel
theorem dX5_step_53 : decode cX5_step 53 = .ok (.aload_n 0, 1) := by decide +kernel
theorem dX5_step_54 : decode cX5_step 54 = .ok (.getfield 44, 3) := by decide +kernel
theorem dX5_step_57 : decode cX5_step 57 = .ok (.iconst 1, 1) := by decide +kernel
theorem dX5_step_58 : decode cX5_step 58 = .ok (.invokevirtual 144, 3) := by decide +kernel
theorem dX5_step_61 : decode cX5_step 61 = .ok (.iload_n 3, 1) := by decide +kernel
theorem dX5_step_62 : decode cX5_step 62 = .ok (.invokestatic 132, 3) := by decide +kernel
theorem dX5_step_65 : decode cX5_step 65 = .ok (.lreturn, 1) := by decide +kernel
theorem dX5_book_0 : decode cX5_book 0 = .ok (.iload_n 1, 1) := by decide +kernel
theorem dX5_book_1 : decode cX5_book 1 = .ok (.invokestatic 103, 3) := by decide +kernel
theorem dX5_book_4 : decode cX5_book 4 = .ok (.ifCond .eq 22, 3) := by decide +kernel
theorem dX5_book_7 : decode cX5_book 7 = .ok (.iload_n 3, 1) := by decide +kernel
theorem dX5_book_8 : decode cX5_book 8 = .ok (.invokestatic 103, 3) := by decide +kernel
theorem dX5_book_11 : decode cX5_book 11 = .ok (.ifCond .eq 15, 3) := by decide +kernel
theorem dX5_book_14 : decode cX5_book 14 = .ok (.iload 4, 2) := by decide +kernel
theorem dX5_book_16 : decode cX5_book 16 = .ok (.invokestatic 103, 3) := by decide +kernel
theorem dX5_book_19 : decode cX5_book 19 = .ok (.ifCond .eq 7, 3) := by decide +kernel
theorem dX5_book_22 : decode cX5_book 22 = .ok (.iconst 1, 1) := by decide +kernel
theorem dX5_book_23 : decode cX5_book 23 = .ok (.goto 4, 3) := by decide +kernel
theorem dX5_book_26 : decode cX5_book 26 = .ok (.iconst 0, 1) := by decide +kernel
theorem dX5_book_27 : decode cX5_book 27 = .ok (.istore 6, 2) := by decide +kernel
theorem dX5_book_29 : decode cX5_book 29 = .ok (.iload 6, 2) := by decide +kernel
theorem dX5_book_31 : decode cX5_book 31 = .ok (.iload_n 2, 1) := by decide +kernel
theorem dX5_book_32 : decode cX5_book 32 = .ok (.iconst 0, 1) := by decide +kernel
theorem dX5_book_33 : decode cX5_book 33 = .ok (.aload_n 0, 1) := by decide +kernel
theorem dX5_book_34 : decode cX5_book 34 = .ok (.getfield 44, 3) := by decide +kernel
theorem dX5_book_37 : decode cX5_book 37 = .ok (.getfield 148, 3) := by decide +kernel
theorem dX5_book_40 : decode cX5_book 40 = .ok (.invokestatic 56, 3) := by decide +kernel
theorem dX5_book_43 : decode cX5_book 43 = .ok (.ifCond .eq 15, 3) := by decide +kernel
theorem dX5_book_46 : decode cX5_book 46 = .ok (.iload 5, 2) := by decide +kernel
theorem dX5_book_48 : decode cX5_book 48 = .ok (.invokestatic 123, 3) := by decide +kernel
theorem dX5_book_51 : decode cX5_book 51 = .ok (.ifCond .eq 7, 3) := by decide +kernel
theorem dX5_book_54 : decode cX5_book 54 = .ok (.iconst 1, 1) := by decide +kernel
theorem dX5_book_55 : decode cX5_book 55 = .ok (.goto 4, 3) := by decide +kernel
theorem dX5_book_58 : decode cX5_book 58 = .ok (.iconst 0, 1) := by decide +kernel
theorem dX5_book_59 : decode cX5_book 59 = .ok (.invokestatic 126, 3) := by decide +kernel
theorem dX5_book_62 : decode cX5_book 62 = .ok (.istore 7, 2) := by decide +kernel
theorem dX5_book_64 : decode cX5_book 64 = .ok (.iload 7, 2) := by decide +kernel
theorem dX5_book_66 : decode cX5_book 66 = .ok (.ifCond .eq 11, 3) := by decide +kernel
theorem dX5_book_69 : decode cX5_book 69 = .ok (.ldc2_w 130, 3) := by decide +kernel
theorem dX5_book_72 : decode cX5_book 72 = .ok (.iload 7, 2) := by decide +kernel
theorem dX5_book_74 : decode cX5_book 74 = .ok (.i2l, 1) := by decide +kernel
theorem dX5_book_75 : decode cX5_book 75 = .ok (.ladd, 1) := by decide +kernel
theorem dX5_book_76 : decode cX5_book 76 = .ok (.lreturn, 1) := by decide +kernel
theorem dX5_book_77 : decode cX5_book 77 = .ok (.aload_n 0, 1) := by decide +kernel
theorem dX5_book_78 : decode cX5_book 78 = .ok (.getfield 44, 3) := by decide +kernel
theorem dX5_book_81 : decode cX5_book 81 = .ok (.iload_n 3, 1) := by decide +kernel
theorem dX5_book_82 : decode cX5_book 82 = .ok (.iload_n 1, 1) := by decide +kernel
theorem dX5_book_83 : decode cX5_book 83 = .ok (.iload_n 2, 1) := by decide +kernel
theorem dX5_book_84 : decode cX5_book 84 = .ok (.invokevirtual 140, 3) := by decide +kernel
theorem dX5_book_87 : decode cX5_book 87 = .ok (.iload 4, 2) := by decide +kernel
theorem dX5_book_89 : decode cX5_book 89 = .ok (.laload, 1) := by decide +kernel
theorem dX5_book_90 : decode cX5_book 90 = .ok (.aload_n 0, 1) := by decide +kernel
theorem dX5_book_91 : decode cX5_book 91 = .ok (.getfield 44, 3) := by decide +kernel
theorem dX5_book_94 : decode cX5_book 94 = .ok (.iconst 1, 1) := by decide +kernel
theorem dX5_book_95 : decode cX5_book 95 = .ok (.invokevirtual 144, 3) := by decide +kernel
theorem dX5_book_98 : decode cX5_book 98 = .ok (.iload 5, 2) := by decide +kernel
theorem dX5_book_100 : decode cX5_book 100 = .ok (.invokestatic 132, 3) := by decide +kernel
theorem dX5_book_103 : decode cX5_book 103 = .ok (.lreturn, 1) := by decide +kernel
theorem dX5_after_0 : decode cX5_after 0 = .ok (.aload_n 0, 1) := by decide +kernel
theorem dX5_after_1 : decode cX5_after 1 = .ok (.iload_n 1, 1) := by decide +kernel
theorem dX5_after_2 : decode cX5_after 2 = .ok (.invokestatic 103, 3) := by decide +kernel
theorem dX5_after_5 : decode cX5_after 5 = .ok (.ifCond .eq 14, 3) := by decide +kernel
theorem dX5_after_8 : decode cX5_after 8 = .ok (.iload_n 3, 1) := by decide +kernel
theorem dX5_after_9 : decode cX5_after 9 = .ok (.invokestatic 103, 3) := by decide +kernel
theorem dX5_after_12 : decode cX5_after 12 = .ok (.ifCond .eq 7, 3) := by decide +kernel
theorem dX5_after_15 : decode cX5_after 15 = .ok (.iconst 1, 1) := by decide +kernel
theorem dX5_after_16 : decode cX5_after 16 = .ok (.goto 4, 3) := by decide +kernel
theorem dX5_after_19 : decode cX5_after 19 = .ok (.iconst 0, 1) := by decide +kernel
theorem dX5_after_20 : decode cX5_after 20 = .ok (.iload 4, 2) := by decide +kernel
theorem dX5_after_22 : decode cX5_after 22 = .ok (.invokestatic 123, 3) := by decide +kernel
theorem dX5_after_25 : decode cX5_after 25 = .ok (.iload_n 2, 1) := by decide +kernel
theorem dX5_after_26 : decode cX5_after 26 = .ok (.invokevirtual 151, 3) := by decide +kernel
theorem dX5_after_29 : decode cX5_after 29 = .ok (.istore 5, 2) := by decide +kernel
theorem dX5_after_31 : decode cX5_after 31 = .ok (.iload 5, 2) := by decide +kernel
theorem dX5_after_33 : decode cX5_after 33 = .ok (.ifCond .eq 11, 3) := by decide +kernel
theorem dX5_after_36 : decode cX5_after 36 = .ok (.ldc2_w 130, 3) := by decide +kernel
theorem dX5_after_39 : decode cX5_after 39 = .ok (.iload 5, 2) := by decide +kernel
theorem dX5_after_41 : decode cX5_after 41 = .ok (.i2l, 1) := by decide +kernel
theorem dX5_after_42 : decode cX5_after 42 = .ok (.ladd, 1) := by decide +kernel
theorem dX5_after_43 : decode cX5_after 43 = .ok (.lreturn, 1) := by decide +kernel
theorem dX5_after_44 : decode cX5_after 44 = .ok (.aload_n 0, 1) := by decide +kernel
theorem dX5_after_45 : decode cX5_after 45 = .ok (.getfield 44, 3) := by decide +kernel
theorem dX5_after_48 : decode cX5_after 48 = .ok (.invokevirtual 155, 3) := by decide +kernel
theorem dX5_after_51 : decode cX5_after 51 = .ok (.aload_n 0, 1) := by decide +kernel
theorem dX5_after_52 : decode cX5_after 52 = .ok (.getfield 44, 3) := by decide +kernel
theorem dX5_after_55 : decode cX5_after 55 = .ok (.iload_n 1, 1) := by decide +kernel
theorem dX5_after_56 : decode cX5_after 56 = .ok (.iload_n 2, 1) := by decide +kernel
theorem dX5_after_57 : decode cX5_after 57 = .ok (.invokevirtual 158, 3) := by decide +kernel
theorem dX5_after_60 : decode cX5_after 60 = .ok (.iload_n 3, 1) := by decide +kernel
theorem dX5_after_61 : decode cX5_after 61 = .ok (.laload, 1) := by decide +kernel
theorem dX5_after_62 : decode cX5_after 62 = .ok (.aload_n 0, 1) := by decide +kernel
theorem dX5_after_63 : decode cX5_after 63 = .ok (.getfield 44, 3) := by decide +kernel
theorem dX5_after_66 : decode cX5_after 66 = .ok (.iload_n 2, 1) := by decide +kernel
theorem dX5_after_67 : decode cX5_after 67 = .ok (.invokevirtual 144, 3) := by decide +kernel
theorem dX5_after_70 : decode cX5_after 70 = .ok (.iload 4, 2) := by decide +kernel
theorem dX5_after_72 : decode cX5_after 72 = .ok (.invokestatic 132, 3) := by decide +kernel
theorem dX5_after_75 : decode cX5_after 75 = .ok (.lreturn, 1) := by decide +kernel
theorem dX5_leads_0 : decode cX5_leads 0 = .ok (.iload_n 1, 1) := by decide +kernel
theorem dX5_leads_1 : decode cX5_leads 1 = .ok (.invokestatic 103, 3) := by decide +kernel
theorem dX5_leads_4 : decode cX5_leads 4 = .ok (.ifCond .ne 5, 3) := by decide +kernel
theorem dX5_leads_7 : decode cX5_leads 7 = .ok (.iconst (-1), 1) := by decide +kernel
theorem dX5_leads_8 : decode cX5_leads 8 = .ok (.ireturn, 1) := by decide +kernel
theorem dX5_leads_9 : decode cX5_leads 9 = .ok (.aload_n 0, 1) := by decide +kernel
theorem dX5_leads_10 : decode cX5_leads 10 = .ok (.getfield 44, 3) := by decide +kernel
theorem dX5_leads_13 : decode cX5_leads 13 = .ok (.invokevirtual 155, 3) := by decide +kernel
theorem dX5_leads_16 : decode cX5_leads 16 = .ok (.aload_n 0, 1) := by decide +kernel
theorem dX5_leads_17 : decode cX5_leads 17 = .ok (.invokevirtual 162, 3) := by decide +kernel
theorem dX5_leads_20 : decode cX5_leads 20 = .ok (.aload_n 0, 1) := by decide +kernel
theorem dX5_leads_21 : decode cX5_leads 21 = .ok (.getfield 48, 3) := by decide +kernel
theorem dX5_leads_24 : decode cX5_leads 24 = .ok (.iload_n 1, 1) := by decide +kernel
theorem dX5_leads_25 : decode cX5_leads 25 = .ok (.iaload, 1) := by decide +kernel
theorem dX5_leads_26 : decode cX5_leads 26 = .ok (.ireturn, 1) := by decide +kernel
theorem dX5_lasts_0 : decode cX5_lasts 0 = .ok (.iload_n 1, 1) := by decide +kernel
theorem dX5_lasts_1 : decode cX5_lasts 1 = .ok (.iconst 0, 1) := by decide +kernel
theorem dX5_lasts_2 : decode cX5_lasts 2 = .ok (.iconst 2, 1) := by decide +kernel
theorem dX5_lasts_3 : decode cX5_lasts 3 = .ok (.invokestatic 56, 3) := by decide +kernel
theorem dX5_lasts_6 : decode cX5_lasts 6 = .ok (.ifCond .ne 6, 3) := by decide +kernel
theorem dX5_lasts_9 : decode cX5_lasts 9 = .ok (.bipush (-2), 2) := by decide +kernel
theorem dX5_lasts_11 : decode cX5_lasts 11 = .ok (.ireturn, 1) := by decide +kernel
theorem dX5_lasts_12 : decode cX5_lasts 12 = .ok (.aload_n 0, 1) := by decide +kernel
theorem dX5_lasts_13 : decode cX5_lasts 13 = .ok (.getfield 44, 3) := by decide +kernel
theorem dX5_lasts_16 : decode cX5_lasts 16 = .ok (.invokevirtual 155, 3) := by decide +kernel
theorem dX5_lasts_19 : decode cX5_lasts 19 = .ok (.iload_n 1, 1) := by decide +kernel
theorem dX5_lasts_20 : decode cX5_lasts 20 = .ok (.iconst 2, 1) := by decide +kernel
theorem dX5_lasts_21 : decode cX5_lasts 21 = .ok (.if_icmp .ne 11, 3) := by decide +kernel
theorem dX5_lasts_24 : decode cX5_lasts 24 = .ok (.aload_n 0, 1) := by decide +kernel
theorem dX5_lasts_25 : decode cX5_lasts 25 = .ok (.getfield 44, 3) := by decide +kernel
theorem dX5_lasts_28 : decode cX5_lasts 28 = .ok (.invokevirtual 165, 3) := by decide +kernel
theorem dX5_lasts_31 : decode cX5_lasts 31 = .ok (.ireturn, 1) := by decide +kernel
theorem dX5_lasts_32 : decode cX5_lasts 32 = .ok (.aload_n 0, 1) := by decide +kernel
theorem dX5_lasts_33 : decode cX5_lasts 33 = .ok (.invokevirtual 162, 3) := by decide +kernel
theorem dX5_lasts_36 : decode cX5_lasts 36 = .ok (.iload_n 1, 1) := by decide +kernel
theorem dX5_lasts_37 : decode cX5_lasts 37 = .ok (.ifCond .ne 10, 3) := by decide +kernel
theorem dX5_lasts_40 : decode cX5_lasts 40 = .ok (.aload_n 0, 1) := by decide +kernel
theorem dX5_lasts_41 : decode cX5_lasts 41 = .ok (.invokevirtual 168, 3) := by decide +kernel
theorem dX5_lasts_44 : decode cX5_lasts 44 = .ok (.goto 11, 3) := by decide +kernel
theorem dX5_lasts_47 : decode cX5_lasts 47 = .ok (.aload_n 0, 1) := by decide +kernel
theorem dX5_lasts_48 : decode cX5_lasts 48 = .ok (.aload_n 0, 1) := by decide +kernel
theorem dX5_lasts_49 : decode cX5_lasts 49 = .ok (.invokevirtual 168, 3) := by decide +kernel
theorem dX5_lasts_52 : decode cX5_lasts 52 = .ok (.invokevirtual 171, 3) := by decide +kernel
theorem dX5_lasts_55 : decode cX5_lasts 55 = .ok (.ireturn, 1) := by decide +kernel
theorem dX5_lives_0 : decode cX5_lives 0 = .ok (.iload_n 2, 1) := by decide +kernel
theorem dX5_lives_1 : decode cX5_lives 1 = .ok (.invokestatic 52, 3) := by decide +kernel
theorem dX5_lives_4 : decode cX5_lives 4 = .ok (.ifCond .eq 14, 3) := by decide +kernel
theorem dX5_lives_7 : decode cX5_lives 7 = .ok (.iload_n 1, 1) := by decide +kernel
theorem dX5_lives_8 : decode cX5_lives 8 = .ok (.invokestatic 103, 3) := by decide +kernel
theorem dX5_lives_11 : decode cX5_lives 11 = .ok (.ifCond .eq 7, 3) := by decide +kernel
theorem dX5_lives_14 : decode cX5_lives 14 = .ok (.iconst 1, 1) := by decide +kernel
theorem dX5_lives_15 : decode cX5_lives 15 = .ok (.goto 4, 3) := by decide +kernel
theorem dX5_lives_18 : decode cX5_lives 18 = .ok (.iconst 0, 1) := by decide +kernel
theorem dX5_lives_19 : decode cX5_lives 19 = .ok (.istore 6, 2) := by decide +kernel
theorem dX5_lives_21 : decode cX5_lives 21 = .ok (.aload_n 0, 1) := by decide +kernel
theorem dX5_lives_22 : decode cX5_lives 22 = .ok (.iload 6, 2) := by decide +kernel
theorem dX5_lives_24 : decode cX5_lives 24 = .ok (.iload_n 3, 1) := by decide +kernel
theorem dX5_lives_25 : decode cX5_lives 25 = .ok (.invokestatic 106, 3) := by decide +kernel
theorem dX5_lives_28 : decode cX5_lives 28 = .ok (.ifCond .eq 15, 3) := by decide +kernel
theorem dX5_lives_31 : decode cX5_lives 31 = .ok (.iload 5, 2) := by decide +kernel
theorem dX5_lives_33 : decode cX5_lives 33 = .ok (.invokestatic 123, 3) := by decide +kernel
theorem dX5_lives_36 : decode cX5_lives 36 = .ok (.ifCond .eq 7, 3) := by decide +kernel
theorem dX5_lives_39 : decode cX5_lives 39 = .ok (.iconst 1, 1) := by decide +kernel
theorem dX5_lives_40 : decode cX5_lives 40 = .ok (.goto 4, 3) := by decide +kernel
theorem dX5_lives_43 : decode cX5_lives 43 = .ok (.iconst 0, 1) := by decide +kernel
theorem dX5_lives_44 : decode cX5_lives 44 = .ok (.iload 4, 2) := by decide +kernel
theorem dX5_lives_46 : decode cX5_lives 46 = .ok (.invokevirtual 151, 3) := by decide +kernel
theorem dX5_lives_49 : decode cX5_lives 49 = .ok (.istore 7, 2) := by decide +kernel
theorem dX5_lives_51 : decode cX5_lives 51 = .ok (.iload 7, 2) := by decide +kernel
theorem dX5_lives_53 : decode cX5_lives 53 = .ok (.ifCond .eq 11, 3) := by decide +kernel
theorem dX5_lives_56 : decode cX5_lives 56 = .ok (.ldc2_w 130, 3) := by decide +kernel
theorem dX5_lives_59 : decode cX5_lives 59 = .ok (.iload 7, 2) := by decide +kernel
theorem dX5_lives_61 : decode cX5_lives 61 = .ok (.i2l, 1) := by decide +kernel
theorem dX5_lives_62 : decode cX5_lives 62 = .ok (.ladd, 1) := by decide +kernel
theorem dX5_lives_63 : decode cX5_lives 63 = .ok (.lreturn, 1) := by decide +kernel
theorem dX5_lives_64 : decode cX5_lives 64 = .ok (.aload_n 0, 1) := by decide +kernel
theorem dX5_lives_65 : decode cX5_lives 65 = .ok (.getfield 44, 3) := by decide +kernel
theorem dX5_lives_68 : decode cX5_lives 68 = .ok (.invokevirtual 155, 3) := by decide +kernel
theorem dX5_lives_71 : decode cX5_lives 71 = .ok (.aload_n 0, 1) := by decide +kernel
theorem dX5_lives_72 : decode cX5_lives 72 = .ok (.getfield 44, 3) := by decide +kernel
theorem dX5_lives_75 : decode cX5_lives 75 = .ok (.iload_n 1, 1) := by decide +kernel
theorem dX5_lives_76 : decode cX5_lives 76 = .ok (.iload 4, 2) := by decide +kernel
theorem dX5_lives_78 : decode cX5_lives 78 = .ok (.invokevirtual 158, 3) := by decide +kernel
theorem dX5_lives_81 : decode cX5_lives 81 = .ok (.iload_n 2, 1) := by decide +kernel
theorem dX5_lives_82 : decode cX5_lives 82 = .ok (.iload_n 3, 1) := by decide +kernel
theorem dX5_lives_83 : decode cX5_lives 83 = .ok (.invokestatic 174, 3) := by decide +kernel
theorem dX5_lives_86 : decode cX5_lives 86 = .ok (.lstore 8, 2) := by decide +kernel
theorem dX5_lives_88 : decode cX5_lives 88 = .ok (.lload 8, 2) := by decide +kernel
theorem dX5_lives_90 : decode cX5_lives 90 = .ok (.aload_n 0, 1) := by decide +kernel
theorem dX5_lives_91 : decode cX5_lives 91 = .ok (.getfield 44, 3) := by decide +kernel
theorem dX5_lives_94 : decode cX5_lives 94 = .ok (.iload 4, 2) := by decide +kernel
theorem dX5_lives_96 : decode cX5_lives 96 = .ok (.invokevirtual 144, 3) := by decide +kernel
theorem dX5_lives_99 : decode cX5_lives 99 = .ok (.iload 5, 2) := by decide +kernel
theorem dX5_lives_101 : decode cX5_lives 101 = .ok (.invokestatic 132, 3) := by decide +kernel
theorem dX5_lives_104 : decode cX5_lives 104 = .ok (.lreturn, 1) := by decide +kernel
theorem dX5_often_0 : decode cX5_often 0 = .ok (.iload_n 1, 1) := by decide +kernel
theorem dX5_often_1 : decode cX5_often 1 = .ok (.invokestatic 103, 3) := by decide +kernel
theorem dX5_often_4 : decode cX5_often 4 = .ok (.ifCond .eq 14, 3) := by decide +kernel
theorem dX5_often_7 : decode cX5_often 7 = .ok (.iload_n 2, 1) := by decide +kernel
theorem dX5_often_8 : decode cX5_often 8 = .ok (.invokestatic 52, 3) := by decide +kernel
theorem dX5_often_11 : decode cX5_often 11 = .ok (.ifCond .eq 7, 3) := by decide +kernel
theorem dX5_often_14 : decode cX5_often 14 = .ok (.iconst 1, 1) := by decide +kernel
theorem dX5_often_15 : decode cX5_often 15 = .ok (.goto 4, 3) := by decide +kernel
theorem dX5_often_18 : decode cX5_often 18 = .ok (.iconst 0, 1) := by decide +kernel
theorem dX5_often_19 : decode cX5_often 19 = .ok (.iload_n 3, 1) := by decide +kernel
theorem dX5_often_20 : decode cX5_often 20 = .ok (.iconst 0, 1) := by decide +kernel
theorem dX5_often_21 : decode cX5_often 21 = .ok (.bipush 12, 2) := by decide +kernel
theorem dX5_often_23 : decode cX5_often 23 = .ok (.invokestatic 56, 3) := by decide +kernel
theorem dX5_often_26 : decode cX5_often 26 = .ok (.invokestatic 126, 3) := by decide +kernel
theorem dX5_often_29 : decode cX5_often 29 = .ok (.istore 4, 2) := by decide +kernel
theorem dX5_often_31 : decode cX5_often 31 = .ok (.iload 4, 2) := by decide +kernel
theorem dX5_often_33 : decode cX5_often 33 = .ok (.ifCond .eq 6, 3) := by decide +kernel
theorem dX5_often_36 : decode cX5_often 36 = .ok (.iload 4, 2) := by decide +kernel
theorem dX5_often_38 : decode cX5_often 38 = .ok (.ireturn, 1) := by decide +kernel
theorem dX5_often_39 : decode cX5_often 39 = .ok (.aload_n 0, 1) := by decide +kernel
theorem dX5_often_40 : decode cX5_often 40 = .ok (.getfield 44, 3) := by decide +kernel
theorem dX5_often_43 : decode cX5_often 43 = .ok (.getfield 60, 3) := by decide +kernel
theorem dX5_often_46 : decode cX5_often 46 = .ok (.iload_n 2, 1) := by decide +kernel
theorem dX5_often_47 : decode cX5_often 47 = .ok (.iaload, 1) := by decide +kernel
theorem dX5_often_48 : decode cX5_often 48 = .ok (.istore 5, 2) := by decide +kernel
theorem dX5_often_50 : decode cX5_often 50 = .ok (.bipush (-6), 2) := by decide +kernel
theorem dX5_often_52 : decode cX5_often 52 = .ok (.istore 6, 2) := by decide +kernel
theorem dX5_often_54 : decode cX5_often 54 = .ok (.iconst 1, 1) := by decide +kernel
theorem dX5_often_55 : decode cX5_often 55 = .ok (.istore 7, 2) := by decide +kernel
theorem dX5_often_57 : decode cX5_often 57 = .ok (.iload 7, 2) := by decide +kernel
theorem dX5_often_59 : decode cX5_often 59 = .ok (.iconst 4, 1) := by decide +kernel
theorem dX5_often_60 : decode cX5_often 60 = .ok (.if_icmp .gt 77, 3) := by decide +kernel
theorem dX5_often_63 : decode cX5_often 63 = .ok (.iload 6, 2) := by decide +kernel
theorem dX5_often_65 : decode cX5_often 65 = .ok (.bipush (-6), 2) := by decide +kernel
theorem dX5_often_67 : decode cX5_often 67 = .ok (.if_icmp .ne 70, 3) := by decide +kernel
theorem dX5_often_70 : decode cX5_often 70 = .ok (.aload_n 0, 1) := by decide +kernel
theorem dX5_often_71 : decode cX5_often 71 = .ok (.getfield 44, 3) := by decide +kernel
theorem dX5_often_74 : decode cX5_often 74 = .ok (.getfield 60, 3) := by decide +kernel
theorem dX5_often_77 : decode cX5_often 77 = .ok (.iload_n 2, 1) := by decide +kernel
theorem dX5_often_78 : decode cX5_often 78 = .ok (.iload 7, 2) := by decide +kernel
theorem dX5_often_80 : decode cX5_often 80 = .ok (.iastore, 1) := by decide +kernel
theorem dX5_often_81 : decode cX5_often 81 = .ok (.aload_n 0, 1) := by decide +kernel
theorem dX5_often_82 : decode cX5_often 82 = .ok (.getfield 44, 3) := by decide +kernel
theorem dX5_often_85 : decode cX5_often 85 = .ok (.iload_n 1, 1) := by decide +kernel
theorem dX5_often_86 : decode cX5_often 86 = .ok (.iload_n 1, 1) := by decide +kernel
theorem dX5_often_87 : decode cX5_often 87 = .ok (.iconst 0, 1) := by decide +kernel
theorem dX5_often_88 : decode cX5_often 88 = .ok (.invokevirtual 140, 3) := by decide +kernel
theorem dX5_often_91 : decode cX5_often 91 = .ok (.astore 8, 2) := by decide +kernel
theorem dX5_often_93 : decode cX5_often 93 = .ok (.aload 8, 2) := by decide +kernel
theorem dX5_often_95 : decode cX5_often 95 = .ok (.iload_n 2, 1) := by decide +kernel
theorem dX5_often_96 : decode cX5_often 96 = .ok (.iload_n 1, 1) := by decide +kernel
theorem dX5_often_97 : decode cX5_often 97 = .ok (.iload_n 2, 1) := by decide +kernel
theorem dX5_often_98 : decode cX5_often 98 = .ok (.invokestatic 178, 3) := by decide +kernel
theorem dX5_often_101 : decode cX5_often 101 = .ok (.invokestatic 174, 3) := by decide +kernel
theorem dX5_often_104 : decode cX5_often 104 = .ok (.lstore 9, 2) := by decide +kernel
theorem dX5_often_106 : decode cX5_often 106 = .ok (.lload 9, 2) := by decide +kernel
theorem dX5_often_108 : decode cX5_often 108 = .ok (.ldc2_w 182, 3) := by decide +kernel
theorem dX5_often_111 : decode cX5_often 111 = .ok (.lmul, 1) := by decide +kernel
theorem dX5_often_112 : decode cX5_often 112 = .ok (.iload_n 3, 1) := by decide +kernel
theorem dX5_often_113 : decode cX5_often 113 = .ok (.i2l, 1) := by decide +kernel
theorem dX5_often_114 : decode cX5_often 114 = .ok (.aload_n 0, 1) := by decide +kernel
theorem dX5_often_115 : decode cX5_often 115 = .ok (.getfield 44, 3) := by decide +kernel
theorem dX5_often_118 : decode cX5_often 118 = .ok (.iconst 1, 1) := by decide +kernel
theorem dX5_often_119 : decode cX5_often 119 = .ok (.invokevirtual 144, 3) := by decide +kernel
theorem dX5_often_122 : decode cX5_often 122 = .ok (.lmul, 1) := by decide +kernel
theorem dX5_often_123 : decode cX5_often 123 = .ok (.lcmp, 1) := by decide +kernel
theorem dX5_often_124 : decode cX5_often 124 = .ok (.ifCond .lt 7, 3) := by decide +kernel
theorem dX5_often_127 : decode cX5_often 127 = .ok (.iload 7, 2) := by decide +kernel
theorem dX5_often_129 : decode cX5_often 129 = .ok (.istore 6, 2) := by decide +kernel
theorem dX5_often_131 : decode cX5_often 131 = .ok (.iinc 7 1, 3) := by decide +kernel
theorem dX5_often_134 : decode cX5_often 134 = .ok (.goto (-77), 3) := by decide +kernel
theorem dX5_often_137 : decode cX5_often 137 = .ok (.aload_n 0, 1) := by decide +kernel
theorem dX5_often_138 : decode cX5_often 138 = .ok (.getfield 44, 3) := by decide +kernel
theorem dX5_often_141 : decode cX5_often 141 = .ok (.getfield 60, 3) := by decide +kernel
theorem dX5_often_144 : decode cX5_often 144 = .ok (.iload_n 2, 1) := by decide +kernel
theorem dX5_often_145 : decode cX5_often 145 = .ok (.iload 5, 2) := by decide +kernel
theorem dX5_often_147 : decode cX5_often 147 = .ok (.iastore, 1) := by decide +kernel
theorem dX5_often_148 : decode cX5_often 148 = .ok (.iload 6, 2) := by decide +kernel
theorem dX5_often_150 : decode cX5_often 150 = .ok (.ireturn, 1) := by decide +kernel
theorem dX5_chosen_0 : decode cX5_chosen 0 = .ok (.iload_n 1, 1) := by decide +kernel
theorem dX5_chosen_1 : decode cX5_chosen 1 = .ok (.invokestatic 103, 3) := by decide +kernel
theorem dX5_chosen_4 : decode cX5_chosen 4 = .ok (.ifCond .ne 5, 3) := by decide +kernel
theorem dX5_chosen_7 : decode cX5_chosen 7 = .ok (.iconst (-1), 1) := by decide +kernel
theorem dX5_chosen_8 : decode cX5_chosen 8 = .ok (.ireturn, 1) := by decide +kernel
theorem dX5_chosen_9 : decode cX5_chosen 9 = .ok (.aload_n 0, 1) := by decide +kernel
theorem dX5_chosen_10 : decode cX5_chosen 10 = .ok (.getfield 35, 3) := by decide +kernel
theorem dX5_chosen_13 : decode cX5_chosen 13 = .ok (.iload_n 1, 1) := by decide +kernel
theorem dX5_chosen_14 : decode cX5_chosen 14 = .ok (.invokevirtual 184, 3) := by decide +kernel
theorem dX5_chosen_17 : decode cX5_chosen 17 = .ok (.istore_n 3, 1) := by decide +kernel
theorem dX5_chosen_18 : decode cX5_chosen 18 = .ok (.iload_n 3, 1) := by decide +kernel
theorem dX5_chosen_19 : decode cX5_chosen 19 = .ok (.bipush (-6), 2) := by decide +kernel
theorem dX5_chosen_21 : decode cX5_chosen 21 = .ok (.if_icmp .ne 6, 3) := by decide +kernel
theorem dX5_chosen_24 : decode cX5_chosen 24 = .ok (.bipush (-6), 2) := by decide +kernel
theorem dX5_chosen_26 : decode cX5_chosen 26 = .ok (.ireturn, 1) := by decide +kernel
theorem dX5_chosen_27 : decode cX5_chosen 27 = .ok (.aload_n 0, 1) := by decide +kernel
theorem dX5_chosen_28 : decode cX5_chosen 28 = .ok (.getfield 35, 3) := by decide +kernel
theorem dX5_chosen_31 : decode cX5_chosen 31 = .ok (.iload_n 3, 1) := by decide +kernel
theorem dX5_chosen_32 : decode cX5_chosen 32 = .ok (.invokevirtual 187, 3) := by decide +kernel
theorem dX5_chosen_35 : decode cX5_chosen 35 = .ok (.istore 4, 2) := by decide +kernel
theorem dX5_chosen_37 : decode cX5_chosen 37 = .ok (.iload_n 2, 1) := by decide +kernel
theorem dX5_chosen_38 : decode cX5_chosen 38 = .ok (.iconst (-1), 1) := by decide +kernel
theorem dX5_chosen_39 : decode cX5_chosen 39 = .ok (.if_icmp .ne 6, 3) := by decide +kernel
theorem dX5_chosen_42 : decode cX5_chosen 42 = .ok (.iload 4, 2) := by decide +kernel
theorem dX5_chosen_44 : decode cX5_chosen 44 = .ok (.ireturn, 1) := by decide +kernel
theorem dX5_chosen_45 : decode cX5_chosen 45 = .ok (.iload_n 2, 1) := by decide +kernel
theorem dX5_chosen_46 : decode cX5_chosen 46 = .ok (.iconst 0, 1) := by decide +kernel
theorem dX5_chosen_47 : decode cX5_chosen 47 = .ok (.iload 4, 2) := by decide +kernel
theorem dX5_chosen_49 : decode cX5_chosen 49 = .ok (.iconst 1, 1) := by decide +kernel
theorem dX5_chosen_50 : decode cX5_chosen 50 = .ok (.isub, 1) := by decide +kernel
theorem dX5_chosen_51 : decode cX5_chosen 51 = .ok (.invokestatic 56, 3) := by decide +kernel
theorem dX5_chosen_54 : decode cX5_chosen 54 = .ok (.ifCond .eq 22, 3) := by decide +kernel
theorem dX5_chosen_57 : decode cX5_chosen 57 = .ok (.aload_n 0, 1) := by decide +kernel
theorem dX5_chosen_58 : decode cX5_chosen 58 = .ok (.getfield 35, 3) := by decide +kernel
theorem dX5_chosen_61 : decode cX5_chosen 61 = .ok (.iload_n 3, 1) := by decide +kernel
theorem dX5_chosen_62 : decode cX5_chosen 62 = .ok (.iload 4, 2) := by decide +kernel
theorem dX5_chosen_64 : decode cX5_chosen 64 = .ok (.iconst 1, 1) := by decide +kernel
theorem dX5_chosen_65 : decode cX5_chosen 65 = .ok (.isub, 1) := by decide +kernel
theorem dX5_chosen_66 : decode cX5_chosen 66 = .ok (.iload_n 2, 1) := by decide +kernel
theorem dX5_chosen_67 : decode cX5_chosen 67 = .ok (.isub, 1) := by decide +kernel
theorem dX5_chosen_68 : decode cX5_chosen 68 = .ok (.invokevirtual 190, 3) := by decide +kernel
theorem dX5_chosen_71 : decode cX5_chosen 71 = .ok (.iconst 2, 1) := by decide +kernel
theorem dX5_chosen_72 : decode cX5_chosen 72 = .ok (.idiv, 1) := by decide +kernel
theorem dX5_chosen_73 : decode cX5_chosen 73 = .ok (.goto 5, 3) := by decide +kernel
theorem dX5_chosen_76 : decode cX5_chosen 76 = .ok (.bipush (-6), 2) := by decide +kernel
theorem dX5_chosen_78 : decode cX5_chosen 78 = .ok (.ireturn, 1) := by decide +kernel
theorem dX5_back_0 : decode cX5_back 0 = .ok (.aload_n 0, 1) := by decide +kernel
theorem dX5_back_1 : decode cX5_back 1 = .ok (.iload_n 1, 1) := by decide +kernel
theorem dX5_back_2 : decode cX5_back 2 = .ok (.invokestatic 103, 3) := by decide +kernel
theorem dX5_back_5 : decode cX5_back 5 = .ok (.ifCond .eq 14, 3) := by decide +kernel
theorem dX5_back_8 : decode cX5_back 8 = .ok (.iload_n 3, 1) := by decide +kernel
theorem dX5_back_9 : decode cX5_back 9 = .ok (.invokestatic 103, 3) := by decide +kernel
theorem dX5_back_12 : decode cX5_back 12 = .ok (.ifCond .eq 7, 3) := by decide +kernel
theorem dX5_back_15 : decode cX5_back 15 = .ok (.iconst 1, 1) := by decide +kernel
theorem dX5_back_16 : decode cX5_back 16 = .ok (.goto 4, 3) := by decide +kernel
theorem dX5_back_19 : decode cX5_back 19 = .ok (.iconst 0, 1) := by decide +kernel
theorem dX5_back_20 : decode cX5_back 20 = .ok (.iload 4, 2) := by decide +kernel
theorem dX5_back_22 : decode cX5_back 22 = .ok (.invokestatic 123, 3) := by decide +kernel
theorem dX5_back_25 : decode cX5_back 25 = .ok (.iload_n 2, 1) := by decide +kernel
theorem dX5_back_26 : decode cX5_back 26 = .ok (.invokevirtual 151, 3) := by decide +kernel
theorem dX5_back_29 : decode cX5_back 29 = .ok (.istore 5, 2) := by decide +kernel
theorem dX5_back_31 : decode cX5_back 31 = .ok (.iload 5, 2) := by decide +kernel
theorem dX5_back_33 : decode cX5_back 33 = .ok (.ifCond .eq 11, 3) := by decide +kernel
theorem dX5_back_36 : decode cX5_back 36 = .ok (.ldc2_w 130, 3) := by decide +kernel
theorem dX5_back_39 : decode cX5_back 39 = .ok (.iload 5, 2) := by decide +kernel
theorem dX5_back_41 : decode cX5_back 41 = .ok (.i2l, 1) := by decide +kernel
theorem dX5_back_42 : decode cX5_back 42 = .ok (.ladd, 1) := by decide +kernel
theorem dX5_back_43 : decode cX5_back 43 = .ok (.lreturn, 1) := by decide +kernel
theorem dX5_back_44 : decode cX5_back 44 = .ok (.aload_n 0, 1) := by decide +kernel
theorem dX5_back_45 : decode cX5_back 45 = .ok (.getfield 44, 3) := by decide +kernel
theorem dX5_back_48 : decode cX5_back 48 = .ok (.invokevirtual 155, 3) := by decide +kernel
theorem dX5_back_51 : decode cX5_back 51 = .ok (.aload_n 0, 1) := by decide +kernel
theorem dX5_back_52 : decode cX5_back 52 = .ok (.getfield 44, 3) := by decide +kernel
theorem dX5_back_55 : decode cX5_back 55 = .ok (.iload_n 1, 1) := by decide +kernel
theorem dX5_back_56 : decode cX5_back 56 = .ok (.iload_n 2, 1) := by decide +kernel
theorem dX5_back_57 : decode cX5_back 57 = .ok (.invokevirtual 193, 3) := by decide +kernel
theorem dX5_back_60 : decode cX5_back 60 = .ok (.astore 6, 2) := by decide +kernel
theorem dX5_back_62 : decode cX5_back 62 = .ok (.lconst 0, 1) := by decide +kernel
theorem dX5_back_63 : decode cX5_back 63 = .ok (.lstore 7, 2) := by decide +kernel
theorem dX5_back_65 : decode cX5_back 65 = .ok (.iconst 0, 1) := by decide +kernel
theorem dX5_back_66 : decode cX5_back 66 = .ok (.istore 9, 2) := by decide +kernel
theorem dX5_back_68 : decode cX5_back 68 = .ok (.iload 9, 2) := by decide +kernel
theorem dX5_back_70 : decode cX5_back 70 = .ok (.bipush 8, 2) := by decide +kernel
theorem dX5_back_72 : decode cX5_back 72 = .ok (.if_icmp .ge 19, 3) := by decide +kernel
theorem dX5_back_75 : decode cX5_back 75 = .ok (.lload 7, 2) := by decide +kernel
theorem dX5_back_77 : decode cX5_back 77 = .ok (.aload 6, 2) := by decide +kernel
theorem dX5_back_79 : decode cX5_back 79 = .ok (.iload 9, 2) := by decide +kernel
theorem dX5_back_81 : decode cX5_back 81 = .ok (.laload, 1) := by decide +kernel
theorem dX5_back_82 : decode cX5_back 82 = .ok (.ladd, 1) := by decide +kernel
theorem dX5_back_83 : decode cX5_back 83 = .ok (.lstore 7, 2) := by decide +kernel
theorem dX5_back_85 : decode cX5_back 85 = .ok (.iinc 9 1, 3) := by decide +kernel
theorem dX5_back_88 : decode cX5_back 88 = .ok (.goto (-20), 3) := by decide +kernel
theorem dX5_back_91 : decode cX5_back 91 = .ok (.aload 6, 2) := by decide +kernel
theorem dX5_back_93 : decode cX5_back 93 = .ok (.iload_n 3, 1) := by decide +kernel
theorem dX5_back_94 : decode cX5_back 94 = .ok (.laload, 1) := by decide +kernel
theorem dX5_back_95 : decode cX5_back 95 = .ok (.lload 7, 2) := by decide +kernel
theorem dX5_back_97 : decode cX5_back 97 = .ok (.iload 4, 2) := by decide +kernel
theorem dX5_back_99 : decode cX5_back 99 = .ok (.invokestatic 132, 3) := by decide +kernel
theorem dX5_back_102 : decode cX5_back 102 = .ok (.lreturn, 1) := by decide +kernel
theorem dX5_guess_0 : decode cX5_guess 0 = .ok (.aload_n 0, 1) := by decide +kernel
theorem dX5_guess_1 : decode cX5_guess 1 = .ok (.iload_n 1, 1) := by decide +kernel
theorem dX5_guess_2 : decode cX5_guess 2 = .ok (.invokestatic 103, 3) := by decide +kernel
theorem dX5_guess_5 : decode cX5_guess 5 = .ok (.iload_n 3, 1) := by decide +kernel
theorem dX5_guess_6 : decode cX5_guess 6 = .ok (.iconst 0, 1) := by decide +kernel
theorem dX5_guess_7 : decode cX5_guess 7 = .ok (.iconst 1, 1) := by decide +kernel
theorem dX5_guess_8 : decode cX5_guess 8 = .ok (.invokestatic 56, 3) := by decide +kernel
theorem dX5_guess_11 : decode cX5_guess 11 = .ok (.iload_n 2, 1) := by decide +kernel
theorem dX5_guess_12 : decode cX5_guess 12 = .ok (.invokevirtual 151, 3) := by decide +kernel
theorem dX5_guess_15 : decode cX5_guess 15 = .ok (.istore 4, 2) := by decide +kernel
theorem dX5_guess_17 : decode cX5_guess 17 = .ok (.iload 4, 2) := by decide +kernel
theorem dX5_guess_19 : decode cX5_guess 19 = .ok (.ifCond .eq 6, 3) := by decide +kernel
theorem dX5_guess_22 : decode cX5_guess 22 = .ok (.iload 4, 2) := by decide +kernel
theorem dX5_guess_24 : decode cX5_guess 24 = .ok (.ireturn, 1) := by decide +kernel
theorem dX5_guess_25 : decode cX5_guess 25 = .ok (.aload_n 0, 1) := by decide +kernel
theorem dX5_guess_26 : decode cX5_guess 26 = .ok (.getfield 44, 3) := by decide +kernel
theorem dX5_guess_29 : decode cX5_guess 29 = .ok (.invokevirtual 155, 3) := by decide +kernel
theorem dX5_guess_32 : decode cX5_guess 32 = .ok (.aload_n 0, 1) := by decide +kernel
theorem dX5_guess_33 : decode cX5_guess 33 = .ok (.getfield 44, 3) := by decide +kernel
theorem dX5_guess_36 : decode cX5_guess 36 = .ok (.iload_n 1, 1) := by decide +kernel
end
section
theorem dX5_guess_37 : decode cX5_guess 37 = .ok (.iload_n 2, 1) := by decide +kernel
theorem dX5_guess_38 : decode cX5_guess 38 = .ok (.invokevirtual 193, 3) := by decide +kernel
theorem dX5_guess_41 : decode cX5_guess 41 = .ok (.astore 5, 2) := by decide +kernel
theorem dX5_guess_43 : decode cX5_guess 43 = .ok (.iconst 0, 1) := by decide +kernel
theorem dX5_guess_44 : decode cX5_guess 44 = .ok (.istore 6, 2) := by decide +kernel
theorem dX5_guess_46 : decode cX5_guess 46 = .ok (.iconst 1, 1) := by decide +kernel
theorem dX5_guess_47 : decode cX5_guess 47 = .ok (.istore 7, 2) := by decide +kernel
theorem dX5_guess_49 : decode cX5_guess 49 = .ok (.iconst 1, 1) := by decide +kernel
theorem dX5_guess_50 : decode cX5_guess 50 = .ok (.istore 8, 2) := by decide +kernel
theorem dX5_guess_52 : decode cX5_guess 52 = .ok (.iload 8, 2) := by decide +kernel
theorem dX5_guess_54 : decode cX5_guess 54 = .ok (.bipush 8, 2) := by decide +kernel
theorem dX5_guess_56 : decode cX5_guess 56 = .ok (.if_icmp .ge 52, 3) := by decide +kernel
theorem dX5_guess_59 : decode cX5_guess 59 = .ok (.iload 7, 2) := by decide +kernel
theorem dX5_guess_61 : decode cX5_guess 61 = .ok (.ifCond .eq 20, 3) := by decide +kernel
theorem dX5_guess_64 : decode cX5_guess 64 = .ok (.aload 5, 2) := by decide +kernel
theorem dX5_guess_66 : decode cX5_guess 66 = .ok (.iload 8, 2) := by decide +kernel
theorem dX5_guess_68 : decode cX5_guess 68 = .ok (.laload, 1) := by decide +kernel
theorem dX5_guess_69 : decode cX5_guess 69 = .ok (.aload 5, 2) := by decide +kernel
theorem dX5_guess_71 : decode cX5_guess 71 = .ok (.iconst 0, 1) := by decide +kernel
theorem dX5_guess_72 : decode cX5_guess 72 = .ok (.laload, 1) := by decide +kernel
theorem dX5_guess_73 : decode cX5_guess 73 = .ok (.lcmp, 1) := by decide +kernel
theorem dX5_guess_74 : decode cX5_guess 74 = .ok (.ifCond .ne 7, 3) := by decide +kernel
theorem dX5_guess_77 : decode cX5_guess 77 = .ok (.iconst 1, 1) := by decide +kernel
theorem dX5_guess_78 : decode cX5_guess 78 = .ok (.goto 4, 3) := by decide +kernel
theorem dX5_guess_81 : decode cX5_guess 81 = .ok (.iconst 0, 1) := by decide +kernel
theorem dX5_guess_82 : decode cX5_guess 82 = .ok (.istore 7, 2) := by decide +kernel
theorem dX5_guess_84 : decode cX5_guess 84 = .ok (.aload 5, 2) := by decide +kernel
theorem dX5_guess_86 : decode cX5_guess 86 = .ok (.iload 8, 2) := by decide +kernel
theorem dX5_guess_88 : decode cX5_guess 88 = .ok (.laload, 1) := by decide +kernel
theorem dX5_guess_89 : decode cX5_guess 89 = .ok (.aload 5, 2) := by decide +kernel
theorem dX5_guess_91 : decode cX5_guess 91 = .ok (.iload 6, 2) := by decide +kernel
theorem dX5_guess_93 : decode cX5_guess 93 = .ok (.laload, 1) := by decide +kernel
theorem dX5_guess_94 : decode cX5_guess 94 = .ok (.lcmp, 1) := by decide +kernel
theorem dX5_guess_95 : decode cX5_guess 95 = .ok (.ifCond .le 7, 3) := by decide +kernel
theorem dX5_guess_98 : decode cX5_guess 98 = .ok (.iload 8, 2) := by decide +kernel
theorem dX5_guess_100 : decode cX5_guess 100 = .ok (.istore 6, 2) := by decide +kernel
theorem dX5_guess_102 : decode cX5_guess 102 = .ok (.iinc 8 1, 3) := by decide +kernel
theorem dX5_guess_105 : decode cX5_guess 105 = .ok (.goto (-53), 3) := by decide +kernel
theorem dX5_guess_108 : decode cX5_guess 108 = .ok (.iload_n 3, 1) := by decide +kernel
theorem dX5_guess_109 : decode cX5_guess 109 = .ok (.iconst 1, 1) := by decide +kernel
theorem dX5_guess_110 : decode cX5_guess 110 = .ok (.if_icmp .ne 14, 3) := by decide +kernel
theorem dX5_guess_113 : decode cX5_guess 113 = .ok (.iload 7, 2) := by decide +kernel
theorem dX5_guess_115 : decode cX5_guess 115 = .ok (.ifCond .eq 7, 3) := by decide +kernel
theorem dX5_guess_118 : decode cX5_guess 118 = .ok (.iconst 1, 1) := by decide +kernel
theorem dX5_guess_119 : decode cX5_guess 119 = .ok (.goto 4, 3) := by decide +kernel
theorem dX5_guess_122 : decode cX5_guess 122 = .ok (.iconst 0, 1) := by decide +kernel
theorem dX5_guess_123 : decode cX5_guess 123 = .ok (.ireturn, 1) := by decide +kernel
theorem dX5_guess_124 : decode cX5_guess 124 = .ok (.aload 5, 2) := by decide +kernel
theorem dX5_guess_126 : decode cX5_guess 126 = .ok (.iload 6, 2) := by decide +kernel
theorem dX5_guess_128 : decode cX5_guess 128 = .ok (.laload, 1) := by decide +kernel
theorem dX5_guess_129 : decode cX5_guess 129 = .ok (.lconst 0, 1) := by decide +kernel
theorem dX5_guess_130 : decode cX5_guess 130 = .ok (.lcmp, 1) := by decide +kernel
theorem dX5_guess_131 : decode cX5_guess 131 = .ok (.ifCond .ne 8, 3) := by decide +kernel
theorem dX5_guess_134 : decode cX5_guess 134 = .ok (.bipush (-6), 2) := by decide +kernel
theorem dX5_guess_136 : decode cX5_guess 136 = .ok (.goto 5, 3) := by decide +kernel
theorem dX5_guess_139 : decode cX5_guess 139 = .ok (.iload 6, 2) := by decide +kernel
theorem dX5_guess_141 : decode cX5_guess 141 = .ok (.ireturn, 1) := by decide +kernel
theorem dX5_told_0 : decode cX5_told 0 = .ok (.iload_n 1, 1) := by decide +kernel
theorem dX5_told_1 : decode cX5_told 1 = .ok (.tableswitch 120 0 12 #[67, 75, 83, 91, 99, 120, 120, 120, 120, 120, 107, 107, 107], 67) := by decide +kernel
theorem dX5_told_68 : decode cX5_told 68 = .ok (.aload_n 0, 1) := by decide +kernel
theorem dX5_told_69 : decode cX5_told 69 = .ok (.getfield 26, 3) := by decide +kernel
theorem dX5_told_72 : decode cX5_told 72 = .ok (.getfield 196, 3) := by decide +kernel
theorem dX5_told_75 : decode cX5_told 75 = .ok (.ireturn, 1) := by decide +kernel
theorem dX5_told_76 : decode cX5_told 76 = .ok (.aload_n 0, 1) := by decide +kernel
theorem dX5_told_77 : decode cX5_told 77 = .ok (.getfield 44, 3) := by decide +kernel
theorem dX5_told_80 : decode cX5_told 80 = .ok (.getfield 148, 3) := by decide +kernel
theorem dX5_told_83 : decode cX5_told 83 = .ok (.ireturn, 1) := by decide +kernel
theorem dX5_told_84 : decode cX5_told 84 = .ok (.aload_n 0, 1) := by decide +kernel
theorem dX5_told_85 : decode cX5_told 85 = .ok (.getfield 26, 3) := by decide +kernel
theorem dX5_told_88 : decode cX5_told 88 = .ok (.getfield 199, 3) := by decide +kernel
theorem dX5_told_91 : decode cX5_told 91 = .ok (.ireturn, 1) := by decide +kernel
theorem dX5_told_92 : decode cX5_told 92 = .ok (.aload_n 0, 1) := by decide +kernel
theorem dX5_told_93 : decode cX5_told 93 = .ok (.getfield 10, 3) := by decide +kernel
theorem dX5_told_96 : decode cX5_told 96 = .ok (.getfield 80, 3) := by decide +kernel
theorem dX5_told_99 : decode cX5_told 99 = .ok (.ireturn, 1) := by decide +kernel
theorem dX5_told_100 : decode cX5_told 100 = .ok (.aload_n 0, 1) := by decide +kernel
theorem dX5_told_101 : decode cX5_told 101 = .ok (.getfield 19, 3) := by decide +kernel
theorem dX5_told_104 : decode cX5_told 104 = .ok (.getfield 109, 3) := by decide +kernel
theorem dX5_told_107 : decode cX5_told 107 = .ok (.ireturn, 1) := by decide +kernel
theorem dX5_told_108 : decode cX5_told 108 = .ok (.aload_n 0, 1) := by decide +kernel
theorem dX5_told_109 : decode cX5_told 109 = .ok (.getfield 44, 3) := by decide +kernel
theorem dX5_told_112 : decode cX5_told 112 = .ok (.getfield 60, 3) := by decide +kernel
theorem dX5_told_115 : decode cX5_told 115 = .ok (.iload_n 1, 1) := by decide +kernel
theorem dX5_told_116 : decode cX5_told 116 = .ok (.bipush 10, 2) := by decide +kernel
theorem dX5_told_118 : decode cX5_told 118 = .ok (.isub, 1) := by decide +kernel
theorem dX5_told_119 : decode cX5_told 119 = .ok (.iaload, 1) := by decide +kernel
theorem dX5_told_120 : decode cX5_told 120 = .ok (.ireturn, 1) := by decide +kernel
theorem dX5_told_121 : decode cX5_told 121 = .ok (.bipush (-2), 2) := by decide +kernel
theorem dX5_told_123 : decode cX5_told 123 = .ok (.ireturn, 1) := by decide +kernel
theorem dX5_changeSlip_0 : decode cX5_changeSlip 0 = .ok (.aload_n 0, 1) := by decide +kernel
theorem dX5_changeSlip_1 : decode cX5_changeSlip 1 = .ok (.getfield 26, 3) := by decide +kernel
theorem dX5_changeSlip_4 : decode cX5_changeSlip 4 = .ok (.getfield 196, 3) := by decide +kernel
theorem dX5_changeSlip_7 : decode cX5_changeSlip 7 = .ok (.istore_n 2, 1) := by decide +kernel
theorem dX5_changeSlip_8 : decode cX5_changeSlip 8 = .ok (.aload_n 0, 1) := by decide +kernel
theorem dX5_changeSlip_9 : decode cX5_changeSlip 9 = .ok (.getfield 26, 3) := by decide +kernel
theorem dX5_changeSlip_12 : decode cX5_changeSlip 12 = .ok (.iload_n 1, 1) := by decide +kernel
theorem dX5_changeSlip_13 : decode cX5_changeSlip 13 = .ok (.putfield 196, 3) := by decide +kernel
theorem dX5_changeSlip_16 : decode cX5_changeSlip 16 = .ok (.aload_n 0, 1) := by decide +kernel
theorem dX5_changeSlip_17 : decode cX5_changeSlip 17 = .ok (.invokevirtual 100, 3) := by decide +kernel
theorem dX5_changeSlip_20 : decode cX5_changeSlip 20 = .ok (.iload_n 2, 1) := by decide +kernel
theorem dX5_changeSlip_21 : decode cX5_changeSlip 21 = .ok (.ireturn, 1) := by decide +kernel
theorem dX5_changeHears_0 : decode cX5_changeHears 0 = .ok (.aload_n 0, 1) := by decide +kernel
theorem dX5_changeHears_1 : decode cX5_changeHears 1 = .ok (.getfield 44, 3) := by decide +kernel
theorem dX5_changeHears_4 : decode cX5_changeHears 4 = .ok (.getfield 148, 3) := by decide +kernel
theorem dX5_changeHears_7 : decode cX5_changeHears 7 = .ok (.istore_n 2, 1) := by decide +kernel
theorem dX5_changeHears_8 : decode cX5_changeHears 8 = .ok (.aload_n 0, 1) := by decide +kernel
theorem dX5_changeHears_9 : decode cX5_changeHears 9 = .ok (.getfield 44, 3) := by decide +kernel
theorem dX5_changeHears_12 : decode cX5_changeHears 12 = .ok (.iload_n 1, 1) := by decide +kernel
theorem dX5_changeHears_13 : decode cX5_changeHears 13 = .ok (.putfield 148, 3) := by decide +kernel
theorem dX5_changeHears_16 : decode cX5_changeHears 16 = .ok (.aload_n 0, 1) := by decide +kernel
theorem dX5_changeHears_17 : decode cX5_changeHears 17 = .ok (.getfield 44, 3) := by decide +kernel
theorem dX5_changeHears_20 : decode cX5_changeHears 20 = .ok (.iconst 0, 1) := by decide +kernel
theorem dX5_changeHears_21 : decode cX5_changeHears 21 = .ok (.putfield 63, 3) := by decide +kernel
theorem dX5_changeHears_24 : decode cX5_changeHears 24 = .ok (.iload_n 2, 1) := by decide +kernel
theorem dX5_changeHears_25 : decode cX5_changeHears 25 = .ok (.ireturn, 1) := by decide +kernel
theorem dX5_changeLearner_0 : decode cX5_changeLearner 0 = .ok (.aload_n 0, 1) := by decide +kernel
theorem dX5_changeLearner_1 : decode cX5_changeLearner 1 = .ok (.getfield 26, 3) := by decide +kernel
theorem dX5_changeLearner_4 : decode cX5_changeLearner 4 = .ok (.getfield 199, 3) := by decide +kernel
theorem dX5_changeLearner_7 : decode cX5_changeLearner 7 = .ok (.istore_n 2, 1) := by decide +kernel
theorem dX5_changeLearner_8 : decode cX5_changeLearner 8 = .ok (.aload_n 0, 1) := by decide +kernel
theorem dX5_changeLearner_9 : decode cX5_changeLearner 9 = .ok (.getfield 26, 3) := by decide +kernel
theorem dX5_changeLearner_12 : decode cX5_changeLearner 12 = .ok (.iload_n 1, 1) := by decide +kernel
theorem dX5_changeLearner_13 : decode cX5_changeLearner 13 = .ok (.putfield 199, 3) := by decide +kernel
theorem dX5_changeLearner_16 : decode cX5_changeLearner 16 = .ok (.aload_n 0, 1) := by decide +kernel
theorem dX5_changeLearner_17 : decode cX5_changeLearner 17 = .ok (.invokevirtual 100, 3) := by decide +kernel
theorem dX5_changeLearner_20 : decode cX5_changeLearner 20 = .ok (.iload_n 2, 1) := by decide +kernel
theorem dX5_changeLearner_21 : decode cX5_changeLearner 21 = .ok (.ireturn, 1) := by decide +kernel
theorem dX5_learnerChanged_0 : decode cX5_learnerChanged 0 = .ok (.aload_n 0, 1) := by decide +kernel
theorem dX5_learnerChanged_1 : decode cX5_learnerChanged 1 = .ok (.getfield 35, 3) := by decide +kernel
theorem dX5_learnerChanged_4 : decode cX5_learnerChanged 4 = .ok (.invokevirtual 202, 3) := by decide +kernel
theorem dX5_learnerChanged_7 : decode cX5_learnerChanged 7 = .ok (.aload_n 0, 1) := by decide +kernel
theorem dX5_learnerChanged_8 : decode cX5_learnerChanged 8 = .ok (.getfield 44, 3) := by decide +kernel
theorem dX5_learnerChanged_11 : decode cX5_learnerChanged 11 = .ok (.iconst 0, 1) := by decide +kernel
theorem dX5_learnerChanged_12 : decode cX5_learnerChanged 12 = .ok (.putfield 63, 3) := by decide +kernel
theorem dX5_learnerChanged_15 : decode cX5_learnerChanged 15 = .ok (.return_, 1) := by decide +kernel
theorem dX5_findReaches_0 : decode cX5_findReaches 0 = .ok (.iconst 0, 1) := by decide +kernel
theorem dX5_findReaches_1 : decode cX5_findReaches 1 = .ok (.istore_n 1, 1) := by decide +kernel
theorem dX5_findReaches_2 : decode cX5_findReaches 2 = .ok (.iload_n 1, 1) := by decide +kernel
theorem dX5_findReaches_3 : decode cX5_findReaches 3 = .ok (.bipush 8, 2) := by decide +kernel
theorem dX5_findReaches_5 : decode cX5_findReaches 5 = .ok (.if_icmp .ge 27, 3) := by decide +kernel
theorem dX5_findReaches_8 : decode cX5_findReaches 8 = .ok (.aload_n 0, 1) := by decide +kernel
theorem dX5_findReaches_9 : decode cX5_findReaches 9 = .ok (.getfield 48, 3) := by decide +kernel
theorem dX5_findReaches_12 : decode cX5_findReaches 12 = .ok (.iload_n 1, 1) := by decide +kernel
theorem dX5_findReaches_13 : decode cX5_findReaches 13 = .ok (.iconst 1, 1) := by decide +kernel
theorem dX5_findReaches_14 : decode cX5_findReaches 14 = .ok (.iload_n 1, 1) := by decide +kernel
theorem dX5_findReaches_15 : decode cX5_findReaches 15 = .ok (.ishl, 1) := by decide +kernel
theorem dX5_findReaches_16 : decode cX5_findReaches 16 = .ok (.aload_n 0, 1) := by decide +kernel
theorem dX5_findReaches_17 : decode cX5_findReaches 17 = .ok (.getfield 44, 3) := by decide +kernel
theorem dX5_findReaches_20 : decode cX5_findReaches 20 = .ok (.iload_n 1, 1) := by decide +kernel
theorem dX5_findReaches_21 : decode cX5_findReaches 21 = .ok (.invokevirtual 205, 3) := by decide +kernel
theorem dX5_findReaches_24 : decode cX5_findReaches 24 = .ok (.ior, 1) := by decide +kernel
theorem dX5_findReaches_25 : decode cX5_findReaches 25 = .ok (.iastore, 1) := by decide +kernel
theorem dX5_findReaches_26 : decode cX5_findReaches 26 = .ok (.iinc 1 1, 3) := by decide +kernel
theorem dX5_findReaches_29 : decode cX5_findReaches 29 = .ok (.goto (-27), 3) := by decide +kernel
theorem dX5_findReaches_32 : decode cX5_findReaches 32 = .ok (.iconst 0, 1) := by decide +kernel
theorem dX5_findReaches_33 : decode cX5_findReaches 33 = .ok (.istore_n 1, 1) := by decide +kernel
theorem dX5_findReaches_34 : decode cX5_findReaches 34 = .ok (.iload_n 1, 1) := by decide +kernel
theorem dX5_findReaches_35 : decode cX5_findReaches 35 = .ok (.bipush 8, 2) := by decide +kernel
theorem dX5_findReaches_37 : decode cX5_findReaches 37 = .ok (.if_icmp .ge 51, 3) := by decide +kernel
theorem dX5_findReaches_40 : decode cX5_findReaches 40 = .ok (.iconst 0, 1) := by decide +kernel
theorem dX5_findReaches_41 : decode cX5_findReaches 41 = .ok (.istore_n 2, 1) := by decide +kernel
theorem dX5_findReaches_42 : decode cX5_findReaches 42 = .ok (.iload_n 2, 1) := by decide +kernel
theorem dX5_findReaches_43 : decode cX5_findReaches 43 = .ok (.bipush 8, 2) := by decide +kernel
theorem dX5_findReaches_45 : decode cX5_findReaches 45 = .ok (.if_icmp .ge 37, 3) := by decide +kernel
theorem dX5_findReaches_48 : decode cX5_findReaches 48 = .ok (.aload_n 0, 1) := by decide +kernel
theorem dX5_findReaches_49 : decode cX5_findReaches 49 = .ok (.getfield 48, 3) := by decide +kernel
theorem dX5_findReaches_52 : decode cX5_findReaches 52 = .ok (.iload_n 2, 1) := by decide +kernel
theorem dX5_findReaches_53 : decode cX5_findReaches 53 = .ok (.iaload, 1) := by decide +kernel
theorem dX5_findReaches_54 : decode cX5_findReaches 54 = .ok (.iload_n 1, 1) := by decide +kernel
theorem dX5_findReaches_55 : decode cX5_findReaches 55 = .ok (.invokestatic 208, 3) := by decide +kernel
theorem dX5_findReaches_58 : decode cX5_findReaches 58 = .ok (.ifCond .eq 18, 3) := by decide +kernel
theorem dX5_findReaches_61 : decode cX5_findReaches 61 = .ok (.aload_n 0, 1) := by decide +kernel
theorem dX5_findReaches_62 : decode cX5_findReaches 62 = .ok (.getfield 48, 3) := by decide +kernel
theorem dX5_findReaches_65 : decode cX5_findReaches 65 = .ok (.iload_n 2, 1) := by decide +kernel
theorem dX5_findReaches_66 : decode cX5_findReaches 66 = .ok (.dup2, 1) := by decide +kernel
theorem dX5_findReaches_67 : decode cX5_findReaches 67 = .ok (.iaload, 1) := by decide +kernel
theorem dX5_findReaches_68 : decode cX5_findReaches 68 = .ok (.aload_n 0, 1) := by decide +kernel
theorem dX5_findReaches_69 : decode cX5_findReaches 69 = .ok (.getfield 48, 3) := by decide +kernel
theorem dX5_findReaches_72 : decode cX5_findReaches 72 = .ok (.iload_n 1, 1) := by decide +kernel
theorem dX5_findReaches_73 : decode cX5_findReaches 73 = .ok (.iaload, 1) := by decide +kernel
theorem dX5_findReaches_74 : decode cX5_findReaches 74 = .ok (.ior, 1) := by decide +kernel
theorem dX5_findReaches_75 : decode cX5_findReaches 75 = .ok (.iastore, 1) := by decide +kernel
theorem dX5_findReaches_76 : decode cX5_findReaches 76 = .ok (.iinc 2 1, 3) := by decide +kernel
theorem dX5_findReaches_79 : decode cX5_findReaches 79 = .ok (.goto (-37), 3) := by decide +kernel
theorem dX5_findReaches_82 : decode cX5_findReaches 82 = .ok (.iinc 1 1, 3) := by decide +kernel
theorem dX5_findReaches_85 : decode cX5_findReaches 85 = .ok (.goto (-51), 3) := by decide +kernel
theorem dX5_findReaches_88 : decode cX5_findReaches 88 = .ok (.return_, 1) := by decide +kernel
theorem dX5_lastingOnes_0 : decode cX5_lastingOnes 0 = .ok (.sipush 255, 3) := by decide +kernel
theorem dX5_lastingOnes_3 : decode cX5_lastingOnes 3 = .ok (.istore_n 1, 1) := by decide +kernel
theorem dX5_lastingOnes_4 : decode cX5_lastingOnes 4 = .ok (.iconst 0, 1) := by decide +kernel
theorem dX5_lastingOnes_5 : decode cX5_lastingOnes 5 = .ok (.istore_n 2, 1) := by decide +kernel
theorem dX5_lastingOnes_6 : decode cX5_lastingOnes 6 = .ok (.iload_n 2, 1) := by decide +kernel
theorem dX5_lastingOnes_7 : decode cX5_lastingOnes 7 = .ok (.bipush 8, 2) := by decide +kernel
theorem dX5_lastingOnes_9 : decode cX5_lastingOnes 9 = .ok (.if_icmp .ge 57, 3) := by decide +kernel
theorem dX5_lastingOnes_12 : decode cX5_lastingOnes 12 = .ok (.iconst 0, 1) := by decide +kernel
theorem dX5_lastingOnes_13 : decode cX5_lastingOnes 13 = .ok (.istore_n 3, 1) := by decide +kernel
theorem dX5_lastingOnes_14 : decode cX5_lastingOnes 14 = .ok (.iload_n 3, 1) := by decide +kernel
theorem dX5_lastingOnes_15 : decode cX5_lastingOnes 15 = .ok (.bipush 8, 2) := by decide +kernel
theorem dX5_lastingOnes_17 : decode cX5_lastingOnes 17 = .ok (.if_icmp .ge 43, 3) := by decide +kernel
theorem dX5_lastingOnes_20 : decode cX5_lastingOnes 20 = .ok (.aload_n 0, 1) := by decide +kernel
theorem dX5_lastingOnes_21 : decode cX5_lastingOnes 21 = .ok (.getfield 48, 3) := by decide +kernel
theorem dX5_lastingOnes_24 : decode cX5_lastingOnes 24 = .ok (.iload_n 2, 1) := by decide +kernel
theorem dX5_lastingOnes_25 : decode cX5_lastingOnes 25 = .ok (.iaload, 1) := by decide +kernel
theorem dX5_lastingOnes_26 : decode cX5_lastingOnes 26 = .ok (.iload_n 3, 1) := by decide +kernel
theorem dX5_lastingOnes_27 : decode cX5_lastingOnes 27 = .ok (.invokestatic 208, 3) := by decide +kernel
theorem dX5_lastingOnes_30 : decode cX5_lastingOnes 30 = .ok (.ifCond .eq 24, 3) := by decide +kernel
theorem dX5_lastingOnes_33 : decode cX5_lastingOnes 33 = .ok (.aload_n 0, 1) := by decide +kernel
theorem dX5_lastingOnes_34 : decode cX5_lastingOnes 34 = .ok (.getfield 48, 3) := by decide +kernel
theorem dX5_lastingOnes_37 : decode cX5_lastingOnes 37 = .ok (.iload_n 3, 1) := by decide +kernel
theorem dX5_lastingOnes_38 : decode cX5_lastingOnes 38 = .ok (.iaload, 1) := by decide +kernel
theorem dX5_lastingOnes_39 : decode cX5_lastingOnes 39 = .ok (.iload_n 2, 1) := by decide +kernel
theorem dX5_lastingOnes_40 : decode cX5_lastingOnes 40 = .ok (.invokestatic 208, 3) := by decide +kernel
theorem dX5_lastingOnes_43 : decode cX5_lastingOnes 43 = .ok (.ifCond .ne 11, 3) := by decide +kernel
theorem dX5_lastingOnes_46 : decode cX5_lastingOnes 46 = .ok (.iload_n 1, 1) := by decide +kernel
theorem dX5_lastingOnes_47 : decode cX5_lastingOnes 47 = .ok (.iconst 1, 1) := by decide +kernel
theorem dX5_lastingOnes_48 : decode cX5_lastingOnes 48 = .ok (.iload_n 2, 1) := by decide +kernel
theorem dX5_lastingOnes_49 : decode cX5_lastingOnes 49 = .ok (.ishl, 1) := by decide +kernel
theorem dX5_lastingOnes_50 : decode cX5_lastingOnes 50 = .ok (.iconst (-1), 1) := by decide +kernel
theorem dX5_lastingOnes_51 : decode cX5_lastingOnes 51 = .ok (.ixor, 1) := by decide +kernel
theorem dX5_lastingOnes_52 : decode cX5_lastingOnes 52 = .ok (.iand, 1) := by decide +kernel
theorem dX5_lastingOnes_53 : decode cX5_lastingOnes 53 = .ok (.istore_n 1, 1) := by decide +kernel
theorem dX5_lastingOnes_54 : decode cX5_lastingOnes 54 = .ok (.iinc 3 1, 3) := by decide +kernel
theorem dX5_lastingOnes_57 : decode cX5_lastingOnes 57 = .ok (.goto (-43), 3) := by decide +kernel
theorem dX5_lastingOnes_60 : decode cX5_lastingOnes 60 = .ok (.iinc 2 1, 3) := by decide +kernel
theorem dX5_lastingOnes_63 : decode cX5_lastingOnes 63 = .ok (.goto (-57), 3) := by decide +kernel
theorem dX5_lastingOnes_66 : decode cX5_lastingOnes 66 = .ok (.iload_n 1, 1) := by decide +kernel
theorem dX5_lastingOnes_67 : decode cX5_lastingOnes 67 = .ok (.ireturn, 1) := by decide +kernel
theorem dX5_countParts_0 : decode cX5_countParts 0 = .ok (.iconst 0, 1) := by decide +kernel
theorem dX5_countParts_1 : decode cX5_countParts 1 = .ok (.istore_n 2, 1) := by decide +kernel
theorem dX5_countParts_2 : decode cX5_countParts 2 = .ok (.iconst 0, 1) := by decide +kernel
theorem dX5_countParts_3 : decode cX5_countParts 3 = .ok (.istore_n 3, 1) := by decide +kernel
theorem dX5_countParts_4 : decode cX5_countParts 4 = .ok (.iload_n 3, 1) := by decide +kernel
theorem dX5_countParts_5 : decode cX5_countParts 5 = .ok (.bipush 8, 2) := by decide +kernel
theorem dX5_countParts_7 : decode cX5_countParts 7 = .ok (.if_icmp .ge 39, 3) := by decide +kernel
theorem dX5_countParts_10 : decode cX5_countParts 10 = .ok (.aload_n 0, 1) := by decide +kernel
theorem dX5_countParts_11 : decode cX5_countParts 11 = .ok (.getfield 48, 3) := by decide +kernel
theorem dX5_countParts_14 : decode cX5_countParts 14 = .ok (.iload_n 3, 1) := by decide +kernel
theorem dX5_countParts_15 : decode cX5_countParts 15 = .ok (.iaload, 1) := by decide +kernel
theorem dX5_countParts_16 : decode cX5_countParts 16 = .ok (.iconst 1, 1) := by decide +kernel
theorem dX5_countParts_17 : decode cX5_countParts 17 = .ok (.iload_n 3, 1) := by decide +kernel
theorem dX5_countParts_18 : decode cX5_countParts 18 = .ok (.ishl, 1) := by decide +kernel
theorem dX5_countParts_19 : decode cX5_countParts 19 = .ok (.iconst 1, 1) := by decide +kernel
theorem dX5_countParts_20 : decode cX5_countParts 20 = .ok (.isub, 1) := by decide +kernel
theorem dX5_countParts_21 : decode cX5_countParts 21 = .ok (.iand, 1) := by decide +kernel
theorem dX5_countParts_22 : decode cX5_countParts 22 = .ok (.istore 4, 2) := by decide +kernel
theorem dX5_countParts_24 : decode cX5_countParts 24 = .ok (.iload_n 1, 1) := by decide +kernel
theorem dX5_countParts_25 : decode cX5_countParts 25 = .ok (.iload_n 3, 1) := by decide +kernel
theorem dX5_countParts_26 : decode cX5_countParts 26 = .ok (.invokestatic 208, 3) := by decide +kernel
theorem dX5_countParts_29 : decode cX5_countParts 29 = .ok (.ifCond .eq 11, 3) := by decide +kernel
theorem dX5_countParts_32 : decode cX5_countParts 32 = .ok (.iload 4, 2) := by decide +kernel
theorem dX5_countParts_34 : decode cX5_countParts 34 = .ok (.ifCond .ne 6, 3) := by decide +kernel
theorem dX5_countParts_37 : decode cX5_countParts 37 = .ok (.iinc 2 1, 3) := by decide +kernel
theorem dX5_countParts_40 : decode cX5_countParts 40 = .ok (.iinc 3 1, 3) := by decide +kernel
theorem dX5_countParts_43 : decode cX5_countParts 43 = .ok (.goto (-39), 3) := by decide +kernel
theorem dX5_countParts_46 : decode cX5_countParts 46 = .ok (.iload_n 2, 1) := by decide +kernel
theorem dX5_countParts_47 : decode cX5_countParts 47 = .ok (.ireturn, 1) := by decide +kernel
theorem dX5_isIn_0 : decode cX5_isIn 0 = .ok (.iload_n 0, 1) := by decide +kernel
theorem dX5_isIn_1 : decode cX5_isIn 1 = .ok (.iload_n 1, 1) := by decide +kernel
theorem dX5_isIn_2 : decode cX5_isIn 2 = .ok (.ishr, 1) := by decide +kernel
theorem dX5_isIn_3 : decode cX5_isIn 3 = .ok (.iconst 1, 1) := by decide +kernel
theorem dX5_isIn_4 : decode cX5_isIn 4 = .ok (.iand, 1) := by decide +kernel
theorem dX5_isIn_5 : decode cX5_isIn 5 = .ok (.iconst 1, 1) := by decide +kernel
theorem dX5_isIn_6 : decode cX5_isIn 6 = .ok (.if_icmp .ne 7, 3) := by decide +kernel
theorem dX5_isIn_9 : decode cX5_isIn 9 = .ok (.iconst 1, 1) := by decide +kernel
theorem dX5_isIn_10 : decode cX5_isIn 10 = .ok (.goto 4, 3) := by decide +kernel
theorem dX5_isIn_13 : decode cX5_isIn 13 = .ok (.iconst 0, 1) := by decide +kernel
theorem dX5_isIn_14 : decode cX5_isIn 14 = .ok (.ireturn, 1) := by decide +kernel
theorem dX5_oddsOfForm_0 : decode cX5_oddsOfForm 0 = .ok (.lconst 0, 1) := by decide +kernel
theorem dX5_oddsOfForm_1 : decode cX5_oddsOfForm 1 = .ok (.lstore_n 3, 1) := by decide +kernel
theorem dX5_oddsOfForm_2 : decode cX5_oddsOfForm 2 = .ok (.iconst 0, 1) := by decide +kernel
theorem dX5_oddsOfForm_3 : decode cX5_oddsOfForm 3 = .ok (.istore 5, 2) := by decide +kernel
theorem dX5_oddsOfForm_5 : decode cX5_oddsOfForm 5 = .ok (.iload 5, 2) := by decide +kernel
theorem dX5_oddsOfForm_7 : decode cX5_oddsOfForm 7 = .ok (.bipush 8, 2) := by decide +kernel
theorem dX5_oddsOfForm_9 : decode cX5_oddsOfForm 9 = .ok (.if_icmp .ge 26, 3) := by decide +kernel
theorem dX5_oddsOfForm_12 : decode cX5_oddsOfForm 12 = .ok (.iload 5, 2) := by decide +kernel
theorem dX5_oddsOfForm_14 : decode cX5_oddsOfForm 14 = .ok (.iload_n 1, 1) := by decide +kernel
theorem dX5_oddsOfForm_15 : decode cX5_oddsOfForm 15 = .ok (.invokestatic 178, 3) := by decide +kernel
theorem dX5_oddsOfForm_18 : decode cX5_oddsOfForm 18 = .ok (.iload_n 2, 1) := by decide +kernel
theorem dX5_oddsOfForm_19 : decode cX5_oddsOfForm 19 = .ok (.if_icmp .ne 10, 3) := by decide +kernel
theorem dX5_oddsOfForm_22 : decode cX5_oddsOfForm 22 = .ok (.lload_n 3, 1) := by decide +kernel
theorem dX5_oddsOfForm_23 : decode cX5_oddsOfForm 23 = .ok (.aload_n 0, 1) := by decide +kernel
theorem dX5_oddsOfForm_24 : decode cX5_oddsOfForm 24 = .ok (.iload 5, 2) := by decide +kernel
theorem dX5_oddsOfForm_26 : decode cX5_oddsOfForm 26 = .ok (.laload, 1) := by decide +kernel
theorem dX5_oddsOfForm_27 : decode cX5_oddsOfForm 27 = .ok (.ladd, 1) := by decide +kernel
theorem dX5_oddsOfForm_28 : decode cX5_oddsOfForm 28 = .ok (.lstore_n 3, 1) := by decide +kernel
theorem dX5_oddsOfForm_29 : decode cX5_oddsOfForm 29 = .ok (.iinc 5 1, 3) := by decide +kernel
theorem dX5_oddsOfForm_32 : decode cX5_oddsOfForm 32 = .ok (.goto (-27), 3) := by decide +kernel
theorem dX5_oddsOfForm_35 : decode cX5_oddsOfForm 35 = .ok (.lload_n 3, 1) := by decide +kernel
theorem dX5_oddsOfForm_36 : decode cX5_oddsOfForm 36 = .ok (.lreturn, 1) := by decide +kernel
theorem dX5_refusalOf_0 : decode cX5_refusalOf 0 = .ok (.iload_n 0, 1) := by decide +kernel
theorem dX5_refusalOf_1 : decode cX5_refusalOf 1 = .ok (.ifCond .ne 5, 3) := by decide +kernel
theorem dX5_refusalOf_4 : decode cX5_refusalOf 4 = .ok (.iconst (-1), 1) := by decide +kernel
theorem dX5_refusalOf_5 : decode cX5_refusalOf 5 = .ok (.ireturn, 1) := by decide +kernel
theorem dX5_refusalOf_6 : decode cX5_refusalOf 6 = .ok (.iload_n 1, 1) := by decide +kernel
theorem dX5_refusalOf_7 : decode cX5_refusalOf 7 = .ok (.ifCond .eq 7, 3) := by decide +kernel
theorem dX5_refusalOf_10 : decode cX5_refusalOf 10 = .ok (.iconst 0, 1) := by decide +kernel
theorem dX5_refusalOf_11 : decode cX5_refusalOf 11 = .ok (.goto 5, 3) := by decide +kernel
theorem dX5_refusalOf_14 : decode cX5_refusalOf 14 = .ok (.bipush (-2), 2) := by decide +kernel
theorem dX5_refusalOf_16 : decode cX5_refusalOf 16 = .ok (.ireturn, 1) := by decide +kernel
theorem dX5_refusalOfLives_0 : decode cX5_refusalOfLives 0 = .ok (.iload_n 1, 1) := by decide +kernel
theorem dX5_refusalOfLives_1 : decode cX5_refusalOfLives 1 = .ok (.iload_n 2, 1) := by decide +kernel
theorem dX5_refusalOfLives_2 : decode cX5_refusalOfLives 2 = .ok (.ifCond .eq 16, 3) := by decide +kernel
theorem dX5_refusalOfLives_5 : decode cX5_refusalOfLives 5 = .ok (.iload_n 3, 1) := by decide +kernel
theorem dX5_refusalOfLives_6 : decode cX5_refusalOfLives 6 = .ok (.iconst 1, 1) := by decide +kernel
theorem dX5_refusalOfLives_7 : decode cX5_refusalOfLives 7 = .ok (.iconst 4, 1) := by decide +kernel
theorem dX5_refusalOfLives_8 : decode cX5_refusalOfLives 8 = .ok (.invokestatic 56, 3) := by decide +kernel
theorem dX5_refusalOfLives_11 : decode cX5_refusalOfLives 11 = .ok (.ifCond .eq 7, 3) := by decide +kernel
theorem dX5_refusalOfLives_14 : decode cX5_refusalOfLives 14 = .ok (.iconst 1, 1) := by decide +kernel
theorem dX5_refusalOfLives_15 : decode cX5_refusalOfLives 15 = .ok (.goto 4, 3) := by decide +kernel
theorem dX5_refusalOfLives_18 : decode cX5_refusalOfLives 18 = .ok (.iconst 0, 1) := by decide +kernel
theorem dX5_refusalOfLives_19 : decode cX5_refusalOfLives 19 = .ok (.invokestatic 126, 3) := by decide +kernel
theorem dX5_refusalOfLives_22 : decode cX5_refusalOfLives 22 = .ok (.istore 4, 2) := by decide +kernel
theorem dX5_refusalOfLives_24 : decode cX5_refusalOfLives 24 = .ok (.iload 4, 2) := by decide +kernel
theorem dX5_refusalOfLives_26 : decode cX5_refusalOfLives 26 = .ok (.ifCond .eq 6, 3) := by decide +kernel
theorem dX5_refusalOfLives_29 : decode cX5_refusalOfLives 29 = .ok (.iload 4, 2) := by decide +kernel
theorem dX5_refusalOfLives_31 : decode cX5_refusalOfLives 31 = .ok (.ireturn, 1) := by decide +kernel
theorem dX5_refusalOfLives_32 : decode cX5_refusalOfLives 32 = .ok (.aload_n 0, 1) := by decide +kernel
theorem dX5_refusalOfLives_33 : decode cX5_refusalOfLives 33 = .ok (.getfield 44, 3) := by decide +kernel
theorem dX5_refusalOfLives_36 : decode cX5_refusalOfLives 36 = .ok (.getfield 148, 3) := by decide +kernel
theorem dX5_refusalOfLives_39 : decode cX5_refusalOfLives 39 = .ok (.iload_n 3, 1) := by decide +kernel
theorem dX5_refusalOfLives_40 : decode cX5_refusalOfLives 40 = .ok (.imul, 1) := by decide +kernel
theorem dX5_refusalOfLives_41 : decode cX5_refusalOfLives 41 = .ok (.bipush 8, 2) := by decide +kernel
theorem dX5_refusalOfLives_43 : decode cX5_refusalOfLives 43 = .ok (.if_icmp .le 8, 3) := by decide +kernel
theorem dX5_refusalOfLives_46 : decode cX5_refusalOfLives 46 = .ok (.bipush (-3), 2) := by decide +kernel
theorem dX5_refusalOfLives_48 : decode cX5_refusalOfLives 48 = .ok (.goto 4, 3) := by decide +kernel
theorem dX5_refusalOfLives_51 : decode cX5_refusalOfLives 51 = .ok (.iconst 0, 1) := by decide +kernel
theorem dX5_refusalOfLives_52 : decode cX5_refusalOfLives 52 = .ok (.ireturn, 1) := by decide +kernel
theorem dX5_isTongue_0 : decode cX5_isTongue 0 = .ok (.iload_n 0, 1) := by decide +kernel
theorem dX5_isTongue_1 : decode cX5_isTongue 1 = .ok (.iconst 0, 1) := by decide +kernel
theorem dX5_isTongue_2 : decode cX5_isTongue 2 = .ok (.bipush 7, 2) := by decide +kernel
theorem dX5_isTongue_4 : decode cX5_isTongue 4 = .ok (.invokestatic 56, 3) := by decide +kernel
theorem dX5_isTongue_7 : decode cX5_isTongue 7 = .ok (.ireturn, 1) := by decide +kernel
theorem dX5_isMeaning_0 : decode cX5_isMeaning 0 = .ok (.iload_n 0, 1) := by decide +kernel
theorem dX5_isMeaning_1 : decode cX5_isMeaning 1 = .ok (.iconst 0, 1) := by decide +kernel
theorem dX5_isMeaning_2 : decode cX5_isMeaning 2 = .ok (.iconst 2, 1) := by decide +kernel
theorem dX5_isMeaning_3 : decode cX5_isMeaning 3 = .ok (.invokestatic 56, 3) := by decide +kernel
theorem dX5_isMeaning_6 : decode cX5_isMeaning 6 = .ok (.ireturn, 1) := by decide +kernel
theorem dX5_isForm_0 : decode cX5_isForm 0 = .ok (.iload_n 0, 1) := by decide +kernel
theorem dX5_isForm_1 : decode cX5_isForm 1 = .ok (.iconst 0, 1) := by decide +kernel
theorem dX5_isForm_2 : decode cX5_isForm 2 = .ok (.iconst 1, 1) := by decide +kernel
theorem dX5_isForm_3 : decode cX5_isForm 3 = .ok (.invokestatic 56, 3) := by decide +kernel
theorem dX5_isForm_6 : decode cX5_isForm 6 = .ok (.ireturn, 1) := by decide +kernel
theorem dX5_isPart_0 : decode cX5_isPart 0 = .ok (.iload_n 0, 1) := by decide +kernel
theorem dX5_isPart_1 : decode cX5_isPart 1 = .ok (.iconst 0, 1) := by decide +kernel
theorem dX5_isPart_2 : decode cX5_isPart 2 = .ok (.iconst 1, 1) := by decide +kernel
theorem dX5_isPart_3 : decode cX5_isPart 3 = .ok (.invokestatic 56, 3) := by decide +kernel
theorem dX5_isPart_6 : decode cX5_isPart 6 = .ok (.ireturn, 1) := by decide +kernel
theorem dX5_isBetween_0 : decode cX5_isBetween 0 = .ok (.iload_n 0, 1) := by decide +kernel
theorem dX5_isBetween_1 : decode cX5_isBetween 1 = .ok (.iload_n 1, 1) := by decide +kernel
theorem dX5_isBetween_2 : decode cX5_isBetween 2 = .ok (.if_icmp .lt 12, 3) := by decide +kernel
theorem dX5_isBetween_5 : decode cX5_isBetween 5 = .ok (.iload_n 0, 1) := by decide +kernel
theorem dX5_isBetween_6 : decode cX5_isBetween 6 = .ok (.iload_n 2, 1) := by decide +kernel
theorem dX5_isBetween_7 : decode cX5_isBetween 7 = .ok (.if_icmp .gt 7, 3) := by decide +kernel
theorem dX5_isBetween_10 : decode cX5_isBetween 10 = .ok (.iconst 1, 1) := by decide +kernel
theorem dX5_isBetween_11 : decode cX5_isBetween 11 = .ok (.goto 4, 3) := by decide +kernel
theorem dX5_isBetween_14 : decode cX5_isBetween 14 = .ok (.iconst 0, 1) := by decide +kernel
theorem dX5_isBetween_15 : decode cX5_isBetween 15 = .ok (.ireturn, 1) := by decide +kernel
theorem dX5_formOf_0 : decode cX5_formOf 0 = .ok (.iload_n 0, 1) := by decide +kernel
theorem dX5_formOf_1 : decode cX5_formOf 1 = .ok (.iload_n 1, 1) := by decide +kernel
theorem dX5_formOf_2 : decode cX5_formOf 2 = .ok (.ishr, 1) := by decide +kernel
theorem dX5_formOf_3 : decode cX5_formOf 3 = .ok (.iconst 1, 1) := by decide +kernel
theorem dX5_formOf_4 : decode cX5_formOf 4 = .ok (.iand, 1) := by decide +kernel
theorem dX5_formOf_5 : decode cX5_formOf 5 = .ok (.ireturn, 1) := by decide +kernel
theorem dX5_power_0 : decode cX5_power 0 = .ok (.lconst 1, 1) := by decide +kernel
theorem dX5_power_1 : decode cX5_power 1 = .ok (.lstore_n 3, 1) := by decide +kernel
theorem dX5_power_2 : decode cX5_power 2 = .ok (.iconst 0, 1) := by decide +kernel
theorem dX5_power_3 : decode cX5_power 3 = .ok (.istore 5, 2) := by decide +kernel
theorem dX5_power_5 : decode cX5_power 5 = .ok (.iload 5, 2) := by decide +kernel
theorem dX5_power_7 : decode cX5_power 7 = .ok (.iload_n 2, 1) := by decide +kernel
theorem dX5_power_8 : decode cX5_power 8 = .ok (.if_icmp .ge 13, 3) := by decide +kernel
theorem dX5_power_11 : decode cX5_power 11 = .ok (.lload_n 3, 1) := by decide +kernel
theorem dX5_power_12 : decode cX5_power 12 = .ok (.lload_n 0, 1) := by decide +kernel
theorem dX5_power_13 : decode cX5_power 13 = .ok (.lmul, 1) := by decide +kernel
theorem dX5_power_14 : decode cX5_power 14 = .ok (.lstore_n 3, 1) := by decide +kernel
theorem dX5_power_15 : decode cX5_power 15 = .ok (.iinc 5 1, 3) := by decide +kernel
theorem dX5_power_18 : decode cX5_power 18 = .ok (.goto (-13), 3) := by decide +kernel
theorem dX5_power_21 : decode cX5_power 21 = .ok (.lload_n 3, 1) := by decide +kernel
theorem dX5_power_22 : decode cX5_power 22 = .ok (.lreturn, 1) := by decide +kernel
theorem dX5_fraction_0 : decode cX5_fraction 0 = .ok (.lload_n 0, 1) := by decide +kernel
theorem dX5_fraction_1 : decode cX5_fraction 1 = .ok (.lconst 0, 1) := by decide +kernel
theorem dX5_fraction_2 : decode cX5_fraction 2 = .ok (.lcmp, 1) := by decide +kernel
theorem dX5_fraction_3 : decode cX5_fraction 3 = .ok (.ifCond .le 9, 3) := by decide +kernel
theorem dX5_fraction_6 : decode cX5_fraction 6 = .ok (.lload_n 2, 1) := by decide +kernel
theorem dX5_fraction_7 : decode cX5_fraction 7 = .ok (.lconst 0, 1) := by decide +kernel
theorem dX5_fraction_8 : decode cX5_fraction 8 = .ok (.lcmp, 1) := by decide +kernel
theorem dX5_fraction_9 : decode cX5_fraction 9 = .ok (.ifCond .gt 14, 3) := by decide +kernel
theorem dX5_fraction_12 : decode cX5_fraction 12 = .ok (.iload 4, 2) := by decide +kernel
theorem dX5_fraction_14 : decode cX5_fraction 14 = .ok (.ifCond .ne 7, 3) := by decide +kernel
theorem dX5_fraction_17 : decode cX5_fraction 17 = .ok (.lconst 0, 1) := by decide +kernel
theorem dX5_fraction_18 : decode cX5_fraction 18 = .ok (.goto 4, 3) := by decide +kernel
theorem dX5_fraction_21 : decode cX5_fraction 21 = .ok (.lconst 1, 1) := by decide +kernel
theorem dX5_fraction_22 : decode cX5_fraction 22 = .ok (.lreturn, 1) := by decide +kernel
theorem dX5_fraction_23 : decode cX5_fraction 23 = .ok (.lload_n 0, 1) := by decide +kernel
theorem dX5_fraction_24 : decode cX5_fraction 24 = .ok (.lload_n 2, 1) := by decide +kernel
theorem dX5_fraction_25 : decode cX5_fraction 25 = .ok (.invokestatic 212, 3) := by decide +kernel
theorem dX5_fraction_28 : decode cX5_fraction 28 = .ok (.lstore 5, 2) := by decide +kernel
theorem dX5_fraction_30 : decode cX5_fraction 30 = .ok (.lload 5, 2) := by decide +kernel
theorem dX5_fraction_32 : decode cX5_fraction 32 = .ok (.lconst 0, 1) := by decide +kernel
theorem dX5_fraction_33 : decode cX5_fraction 33 = .ok (.lcmp, 1) := by decide +kernel
theorem dX5_fraction_34 : decode cX5_fraction 34 = .ok (.ifCond .gt 7, 3) := by decide +kernel
theorem dX5_fraction_37 : decode cX5_fraction 37 = .ok (.ldc2_w 130, 3) := by decide +kernel
theorem dX5_fraction_40 : decode cX5_fraction 40 = .ok (.lreturn, 1) := by decide +kernel
theorem dX5_fraction_41 : decode cX5_fraction 41 = .ok (.iload 4, 2) := by decide +kernel
theorem dX5_fraction_43 : decode cX5_fraction 43 = .ok (.ifCond .ne 7, 3) := by decide +kernel
theorem dX5_fraction_46 : decode cX5_fraction 46 = .ok (.lload_n 0, 1) := by decide +kernel
theorem dX5_fraction_47 : decode cX5_fraction 47 = .ok (.goto 4, 3) := by decide +kernel
theorem dX5_fraction_50 : decode cX5_fraction 50 = .ok (.lload_n 2, 1) := by decide +kernel
theorem dX5_fraction_51 : decode cX5_fraction 51 = .ok (.lload 5, 2) := by decide +kernel
theorem dX5_fraction_53 : decode cX5_fraction 53 = .ok (.ldiv, 1) := by decide +kernel
theorem dX5_fraction_54 : decode cX5_fraction 54 = .ok (.lreturn, 1) := by decide +kernel
theorem dX5_commonDivisor_0 : decode cX5_commonDivisor 0 = .ok (.lload_n 0, 1) := by decide +kernel
theorem dX5_commonDivisor_1 : decode cX5_commonDivisor 1 = .ok (.lstore 4, 2) := by decide +kernel
theorem dX5_commonDivisor_3 : decode cX5_commonDivisor 3 = .ok (.lload_n 2, 1) := by decide +kernel
theorem dX5_commonDivisor_4 : decode cX5_commonDivisor 4 = .ok (.lstore 6, 2) := by decide +kernel
theorem dX5_commonDivisor_6 : decode cX5_commonDivisor 6 = .ok (.iconst 0, 1) := by decide +kernel
theorem dX5_commonDivisor_7 : decode cX5_commonDivisor 7 = .ok (.istore 8, 2) := by decide +kernel
theorem dX5_commonDivisor_9 : decode cX5_commonDivisor 9 = .ok (.iload 8, 2) := by decide +kernel
theorem dX5_commonDivisor_11 : decode cX5_commonDivisor 11 = .ok (.sipush 1000, 3) := by decide +kernel
theorem dX5_commonDivisor_14 : decode cX5_commonDivisor 14 = .ok (.if_icmp .ge 31, 3) := by decide +kernel
theorem dX5_commonDivisor_17 : decode cX5_commonDivisor 17 = .ok (.lload 6, 2) := by decide +kernel
theorem dX5_commonDivisor_19 : decode cX5_commonDivisor 19 = .ok (.lconst 0, 1) := by decide +kernel
theorem dX5_commonDivisor_20 : decode cX5_commonDivisor 20 = .ok (.lcmp, 1) := by decide +kernel
theorem dX5_commonDivisor_21 : decode cX5_commonDivisor 21 = .ok (.ifCond .eq 24, 3) := by decide +kernel
theorem dX5_commonDivisor_24 : decode cX5_commonDivisor 24 = .ok (.lload 4, 2) := by decide +kernel
theorem dX5_commonDivisor_26 : decode cX5_commonDivisor 26 = .ok (.lload 6, 2) := by decide +kernel
theorem dX5_commonDivisor_28 : decode cX5_commonDivisor 28 = .ok (.lrem, 1) := by decide +kernel
theorem dX5_commonDivisor_29 : decode cX5_commonDivisor 29 = .ok (.lstore 9, 2) := by decide +kernel
theorem dX5_commonDivisor_31 : decode cX5_commonDivisor 31 = .ok (.lload 6, 2) := by decide +kernel
theorem dX5_commonDivisor_33 : decode cX5_commonDivisor 33 = .ok (.lstore 4, 2) := by decide +kernel
theorem dX5_commonDivisor_35 : decode cX5_commonDivisor 35 = .ok (.lload 9, 2) := by decide +kernel
theorem dX5_commonDivisor_37 : decode cX5_commonDivisor 37 = .ok (.lstore 6, 2) := by decide +kernel
theorem dX5_commonDivisor_39 : decode cX5_commonDivisor 39 = .ok (.iinc 8 1, 3) := by decide +kernel
theorem dX5_commonDivisor_42 : decode cX5_commonDivisor 42 = .ok (.goto (-33), 3) := by decide +kernel
theorem dX5_commonDivisor_45 : decode cX5_commonDivisor 45 = .ok (.lload 4, 2) := by decide +kernel
theorem dX5_commonDivisor_47 : decode cX5_commonDivisor 47 = .ok (.lreturn, 1) := by decide +kernel
theorem dX6_init_0 : decode cX6_init 0 = .ok (.aload_n 0, 1) := by decide +kernel
theorem dX6_init_1 : decode cX6_init 1 = .ok (.invokespecial 1, 3) := by decide +kernel
theorem dX6_init_4 : decode cX6_init 4 = .ok (.aload_n 0, 1) := by decide +kernel
theorem dX6_init_5 : decode cX6_init 5 = .ok (.iconst 3, 1) := by decide +kernel
theorem dX6_init_6 : decode cX6_init 6 = .ok (.newarray .int, 2) := by decide +kernel
theorem dX6_init_8 : decode cX6_init 8 = .ok (.putfield 7, 3) := by decide +kernel
theorem dX6_init_11 : decode cX6_init 11 = .ok (.aload_n 0, 1) := by decide +kernel
theorem dX6_init_12 : decode cX6_init 12 = .ok (.bipush 40, 2) := by decide +kernel
theorem dX6_init_14 : decode cX6_init 14 = .ok (.newarray .int, 2) := by decide +kernel
theorem dX6_init_16 : decode cX6_init 16 = .ok (.putfield 13, 3) := by decide +kernel
theorem dX6_init_19 : decode cX6_init 19 = .ok (.aload_n 0, 1) := by decide +kernel
theorem dX6_init_20 : decode cX6_init 20 = .ok (.bipush 28, 2) := by decide +kernel
theorem dX6_init_22 : decode cX6_init 22 = .ok (.newarray .int, 2) := by decide +kernel
theorem dX6_init_24 : decode cX6_init 24 = .ok (.putfield 16, 3) := by decide +kernel
theorem dX6_init_27 : decode cX6_init 27 = .ok (.aload_n 0, 1) := by decide +kernel
theorem dX6_init_28 : decode cX6_init 28 = .ok (.bipush 6, 2) := by decide +kernel
theorem dX6_init_30 : decode cX6_init 30 = .ok (.newarray .int, 2) := by decide +kernel
theorem dX6_init_32 : decode cX6_init 32 = .ok (.putfield 19, 3) := by decide +kernel
theorem dX6_init_35 : decode cX6_init 35 = .ok (.aload_n 0, 1) := by decide +kernel
theorem dX6_init_36 : decode cX6_init 36 = .ok (.bipush 6, 2) := by decide +kernel
theorem dX6_init_38 : decode cX6_init 38 = .ok (.newarray .int, 2) := by decide +kernel
theorem dX6_init_40 : decode cX6_init 40 = .ok (.putfield 22, 3) := by decide +kernel
theorem dX6_init_43 : decode cX6_init 43 = .ok (.aload_n 0, 1) := by decide +kernel
theorem dX6_init_44 : decode cX6_init 44 = .ok (.bipush 64, 2) := by decide +kernel
theorem dX6_init_46 : decode cX6_init 46 = .ok (.newarray .long, 2) := by decide +kernel
theorem dX6_init_48 : decode cX6_init 48 = .ok (.putfield 25, 3) := by decide +kernel
theorem dX6_init_51 : decode cX6_init 51 = .ok (.aload_n 0, 1) := by decide +kernel
theorem dX6_init_52 : decode cX6_init 52 = .ok (.bipush 8, 2) := by decide +kernel
theorem dX6_init_54 : decode cX6_init 54 = .ok (.newarray .long, 2) := by decide +kernel
theorem dX6_init_56 : decode cX6_init 56 = .ok (.putfield 29, 3) := by decide +kernel
theorem dX6_init_59 : decode cX6_init 59 = .ok (.aload_n 0, 1) := by decide +kernel
theorem dX6_init_60 : decode cX6_init 60 = .ok (.bipush 8, 2) := by decide +kernel
theorem dX6_init_62 : decode cX6_init 62 = .ok (.newarray .long, 2) := by decide +kernel
theorem dX6_init_64 : decode cX6_init 64 = .ok (.putfield 32, 3) := by decide +kernel
theorem dX6_init_67 : decode cX6_init 67 = .ok (.aload_n 0, 1) := by decide +kernel
theorem dX6_init_68 : decode cX6_init 68 = .ok (.bipush 8, 2) := by decide +kernel
theorem dX6_init_70 : decode cX6_init 70 = .ok (.newarray .int, 2) := by decide +kernel
theorem dX6_init_72 : decode cX6_init 72 = .ok (.putfield 35, 3) := by decide +kernel
theorem dX6_init_75 : decode cX6_init 75 = .ok (.aload_n 0, 1) := by decide +kernel
theorem dX6_init_76 : decode cX6_init 76 = .ok (.iconst 4, 1) := by decide +kernel
theorem dX6_init_77 : decode cX6_init 77 = .ok (.newarray .int, 2) := by decide +kernel
theorem dX6_init_79 : decode cX6_init 79 = .ok (.putfield 38, 3) := by decide +kernel
theorem dX6_init_82 : decode cX6_init 82 = .ok (.aload_n 0, 1) := by decide +kernel
theorem dX6_init_83 : decode cX6_init 83 = .ok (.bipush 8, 2) := by decide +kernel
theorem dX6_init_85 : decode cX6_init 85 = .ok (.newarray .long, 2) := by decide +kernel
theorem dX6_init_87 : decode cX6_init 87 = .ok (.putfield 41, 3) := by decide +kernel
theorem dX6_init_90 : decode cX6_init 90 = .ok (.iconst 0, 1) := by decide +kernel
theorem dX6_init_91 : decode cX6_init 91 = .ok (.istore_n 1, 1) := by decide +kernel
theorem dX6_init_92 : decode cX6_init 92 = .ok (.iload_n 1, 1) := by decide +kernel
theorem dX6_init_93 : decode cX6_init 93 = .ok (.iconst 3, 1) := by decide +kernel
theorem dX6_init_94 : decode cX6_init 94 = .ok (.if_icmp .ge 16, 3) := by decide +kernel
theorem dX6_init_97 : decode cX6_init 97 = .ok (.aload_n 0, 1) := by decide +kernel
theorem dX6_init_98 : decode cX6_init 98 = .ok (.getfield 7, 3) := by decide +kernel
theorem dX6_init_101 : decode cX6_init 101 = .ok (.iload_n 1, 1) := by decide +kernel
theorem dX6_init_102 : decode cX6_init 102 = .ok (.iconst 1, 1) := by decide +kernel
theorem dX6_init_103 : decode cX6_init 103 = .ok (.iastore, 1) := by decide +kernel
theorem dX6_init_104 : decode cX6_init 104 = .ok (.iinc 1 1, 3) := by decide +kernel
theorem dX6_init_107 : decode cX6_init 107 = .ok (.goto (-15), 3) := by decide +kernel
theorem dX6_init_110 : decode cX6_init 110 = .ok (.aload_n 0, 1) := by decide +kernel
theorem dX6_init_111 : decode cX6_init 111 = .ok (.iconst 1, 1) := by decide +kernel
theorem dX6_init_112 : decode cX6_init 112 = .ok (.putfield 44, 3) := by decide +kernel
theorem dX6_init_115 : decode cX6_init 115 = .ok (.aload_n 0, 1) := by decide +kernel
theorem dX6_init_116 : decode cX6_init 116 = .ok (.iconst 2, 1) := by decide +kernel
theorem dX6_init_117 : decode cX6_init 117 = .ok (.putfield 48, 3) := by decide +kernel
theorem dX6_init_120 : decode cX6_init 120 = .ok (.return_, 1) := by decide +kernel
theorem dX6_in_0 : decode cX6_in 0 = .ok (.lload_n 0, 1) := by decide +kernel
theorem dX6_in_1 : decode cX6_in 1 = .ok (.lload_n 2, 1) := by decide +kernel
theorem dX6_in_2 : decode cX6_in 2 = .ok (.lcmp, 1) := by decide +kernel
theorem dX6_in_3 : decode cX6_in 3 = .ok (.ifCond .lt 14, 3) := by decide +kernel
theorem dX6_in_6 : decode cX6_in 6 = .ok (.lload_n 0, 1) := by decide +kernel
theorem dX6_in_7 : decode cX6_in 7 = .ok (.lload 4, 2) := by decide +kernel
theorem dX6_in_9 : decode cX6_in 9 = .ok (.lcmp, 1) := by decide +kernel
theorem dX6_in_10 : decode cX6_in 10 = .ok (.ifCond .gt 7, 3) := by decide +kernel
theorem dX6_in_13 : decode cX6_in 13 = .ok (.iconst 1, 1) := by decide +kernel
theorem dX6_in_14 : decode cX6_in 14 = .ok (.goto 4, 3) := by decide +kernel
theorem dX6_in_17 : decode cX6_in 17 = .ok (.iconst 0, 1) := by decide +kernel
theorem dX6_in_18 : decode cX6_in 18 = .ok (.ireturn, 1) := by decide +kernel
theorem dX6_ones_0 : decode cX6_ones 0 = .ok (.iload_n 0, 1) := by decide +kernel
theorem dX6_ones_1 : decode cX6_ones 1 = .ok (.iconst 1, 1) := by decide +kernel
theorem dX6_ones_2 : decode cX6_ones 2 = .ok (.iand, 1) := by decide +kernel
theorem dX6_ones_3 : decode cX6_ones 3 = .ok (.iload_n 0, 1) := by decide +kernel
theorem dX6_ones_4 : decode cX6_ones 4 = .ok (.iconst 1, 1) := by decide +kernel
theorem dX6_ones_5 : decode cX6_ones 5 = .ok (.ishr, 1) := by decide +kernel
theorem dX6_ones_6 : decode cX6_ones 6 = .ok (.iconst 1, 1) := by decide +kernel
theorem dX6_ones_7 : decode cX6_ones 7 = .ok (.iand, 1) := by decide +kernel
theorem dX6_ones_8 : decode cX6_ones 8 = .ok (.iadd, 1) := by decide +kernel
theorem dX6_ones_9 : decode cX6_ones 9 = .ok (.iload_n 0, 1) := by decide +kernel
theorem dX6_ones_10 : decode cX6_ones 10 = .ok (.iconst 2, 1) := by decide +kernel
theorem dX6_ones_11 : decode cX6_ones 11 = .ok (.ishr, 1) := by decide +kernel
theorem dX6_ones_12 : decode cX6_ones 12 = .ok (.iconst 1, 1) := by decide +kernel
theorem dX6_ones_13 : decode cX6_ones 13 = .ok (.iand, 1) := by decide +kernel
theorem dX6_ones_14 : decode cX6_ones 14 = .ok (.iadd, 1) := by decide +kernel
theorem dX6_ones_15 : decode cX6_ones 15 = .ok (.ireturn, 1) := by decide +kernel
theorem dX6_isMeaning_0 : decode cX6_isMeaning 0 = .ok (.iload_n 0, 1) := by decide +kernel
theorem dX6_isMeaning_1 : decode cX6_isMeaning 1 = .ok (.i2l, 1) := by decide +kernel
theorem dX6_isMeaning_2 : decode cX6_isMeaning 2 = .ok (.lconst 0, 1) := by decide +kernel
theorem dX6_isMeaning_3 : decode cX6_isMeaning 3 = .ok (.ldc2_w 51, 3) := by decide +kernel
theorem dX6_isMeaning_6 : decode cX6_isMeaning 6 = .ok (.invokestatic 53, 3) := by decide +kernel
theorem dX6_isMeaning_9 : decode cX6_isMeaning 9 = .ok (.ireturn, 1) := by decide +kernel
theorem dX6_isTongue_0 : decode cX6_isTongue 0 = .ok (.iload_n 0, 1) := by decide +kernel
theorem dX6_isTongue_1 : decode cX6_isTongue 1 = .ok (.i2l, 1) := by decide +kernel
theorem dX6_isTongue_2 : decode cX6_isTongue 2 = .ok (.lconst 0, 1) := by decide +kernel
theorem dX6_isTongue_3 : decode cX6_isTongue 3 = .ok (.ldc2_w 57, 3) := by decide +kernel
theorem dX6_isTongue_6 : decode cX6_isTongue 6 = .ok (.invokestatic 53, 3) := by decide +kernel
theorem dX6_isTongue_9 : decode cX6_isTongue 9 = .ok (.ireturn, 1) := by decide +kernel
theorem dX6_isPart_0 : decode cX6_isPart 0 = .ok (.iload_n 0, 1) := by decide +kernel
theorem dX6_isPart_1 : decode cX6_isPart 1 = .ok (.i2l, 1) := by decide +kernel
theorem dX6_isPart_2 : decode cX6_isPart 2 = .ok (.lconst 0, 1) := by decide +kernel
theorem dX6_isPart_3 : decode cX6_isPart 3 = .ok (.lconst 1, 1) := by decide +kernel
theorem dX6_isPart_4 : decode cX6_isPart 4 = .ok (.invokestatic 53, 3) := by decide +kernel
theorem dX6_isPart_7 : decode cX6_isPart 7 = .ok (.ireturn, 1) := by decide +kernel
theorem dX6_lowest_0 : decode cX6_lowest 0 = .ok (.lload_n 2, 1) := by decide +kernel
theorem dX6_lowest_1 : decode cX6_lowest 1 = .ok (.lconst 0, 1) := by decide +kernel
theorem dX6_lowest_2 : decode cX6_lowest 2 = .ok (.lcmp, 1) := by decide +kernel
theorem dX6_lowest_3 : decode cX6_lowest 3 = .ok (.ifCond .ne 7, 3) := by decide +kernel
theorem dX6_lowest_6 : decode cX6_lowest 6 = .ok (.iload 4, 2) := by decide +kernel
theorem dX6_lowest_8 : decode cX6_lowest 8 = .ok (.i2l, 1) := by decide +kernel
theorem dX6_lowest_9 : decode cX6_lowest 9 = .ok (.lreturn, 1) := by decide +kernel
theorem dX6_lowest_10 : decode cX6_lowest 10 = .ok (.lload_n 0, 1) := by decide +kernel
theorem dX6_lowest_11 : decode cX6_lowest 11 = .ok (.lstore 5, 2) := by decide +kernel
theorem dX6_lowest_13 : decode cX6_lowest 13 = .ok (.lload_n 2, 1) := by decide +kernel
theorem dX6_lowest_14 : decode cX6_lowest 14 = .ok (.lstore 7, 2) := by decide +kernel
theorem dX6_lowest_16 : decode cX6_lowest 16 = .ok (.lload 7, 2) := by decide +kernel
theorem dX6_lowest_18 : decode cX6_lowest 18 = .ok (.lconst 0, 1) := by decide +kernel
theorem dX6_lowest_19 : decode cX6_lowest 19 = .ok (.lcmp, 1) := by decide +kernel
theorem dX6_lowest_20 : decode cX6_lowest 20 = .ok (.ifCond .eq 21, 3) := by decide +kernel
theorem dX6_lowest_23 : decode cX6_lowest 23 = .ok (.lload 5, 2) := by decide +kernel
theorem dX6_lowest_25 : decode cX6_lowest 25 = .ok (.lload 7, 2) := by decide +kernel
theorem dX6_lowest_27 : decode cX6_lowest 27 = .ok (.lrem, 1) := by decide +kernel
theorem dX6_lowest_28 : decode cX6_lowest 28 = .ok (.lstore 9, 2) := by decide +kernel
theorem dX6_lowest_30 : decode cX6_lowest 30 = .ok (.lload 7, 2) := by decide +kernel
theorem dX6_lowest_32 : decode cX6_lowest 32 = .ok (.lstore 5, 2) := by decide +kernel
theorem dX6_lowest_34 : decode cX6_lowest 34 = .ok (.lload 9, 2) := by decide +kernel
theorem dX6_lowest_36 : decode cX6_lowest 36 = .ok (.lstore 7, 2) := by decide +kernel
theorem dX6_lowest_38 : decode cX6_lowest 38 = .ok (.goto (-22), 3) := by decide +kernel
theorem dX6_lowest_41 : decode cX6_lowest 41 = .ok (.iload 4, 2) := by decide +kernel
theorem dX6_lowest_43 : decode cX6_lowest 43 = .ok (.ifCond .ne 10, 3) := by decide +kernel
theorem dX6_lowest_46 : decode cX6_lowest 46 = .ok (.lload_n 0, 1) := by decide +kernel
theorem dX6_lowest_47 : decode cX6_lowest 47 = .ok (.lload 5, 2) := by decide +kernel
theorem dX6_lowest_49 : decode cX6_lowest 49 = .ok (.ldiv, 1) := by decide +kernel
theorem dX6_lowest_50 : decode cX6_lowest 50 = .ok (.goto 7, 3) := by decide +kernel
theorem dX6_lowest_53 : decode cX6_lowest 53 = .ok (.lload_n 2, 1) := by decide +kernel
theorem dX6_lowest_54 : decode cX6_lowest 54 = .ok (.lload 5, 2) := by decide +kernel
theorem dX6_lowest_56 : decode cX6_lowest 56 = .ok (.ldiv, 1) := by decide +kernel
theorem dX6_lowest_57 : decode cX6_lowest 57 = .ok (.lreturn, 1) := by decide +kernel
theorem dX6_weight_0 : decode cX6_weight 0 = .ok (.iload_n 1, 1) := by decide +kernel
theorem dX6_weight_1 : decode cX6_weight 1 = .ok (.invokestatic 59, 3) := by decide +kernel
theorem dX6_weight_4 : decode cX6_weight 4 = .ok (.ifCond .ne 5, 3) := by decide +kernel
theorem dX6_weight_7 : decode cX6_weight 7 = .ok (.iconst (-1), 1) := by decide +kernel
theorem dX6_weight_8 : decode cX6_weight 8 = .ok (.ireturn, 1) := by decide +kernel
theorem dX6_weight_9 : decode cX6_weight 9 = .ok (.iload_n 2, 1) := by decide +kernel
theorem dX6_weight_10 : decode cX6_weight 10 = .ok (.i2l, 1) := by decide +kernel
theorem dX6_weight_11 : decode cX6_weight 11 = .ok (.lconst 1, 1) := by decide +kernel
theorem dX6_weight_12 : decode cX6_weight 12 = .ok (.ldc2_w 63, 3) := by decide +kernel
theorem dX6_weight_15 : decode cX6_weight 15 = .ok (.invokestatic 53, 3) := by decide +kernel
theorem dX6_weight_18 : decode cX6_weight 18 = .ok (.ifCond .ne 6, 3) := by decide +kernel
theorem dX6_weight_21 : decode cX6_weight 21 = .ok (.bipush (-2), 2) := by decide +kernel
theorem dX6_weight_23 : decode cX6_weight 23 = .ok (.ireturn, 1) := by decide +kernel
theorem dX6_weight_24 : decode cX6_weight 24 = .ok (.aload_n 0, 1) := by decide +kernel
theorem dX6_weight_25 : decode cX6_weight 25 = .ok (.getfield 7, 3) := by decide +kernel
theorem dX6_weight_28 : decode cX6_weight 28 = .ok (.iload_n 1, 1) := by decide +kernel
theorem dX6_weight_29 : decode cX6_weight 29 = .ok (.iaload, 1) := by decide +kernel
theorem dX6_weight_30 : decode cX6_weight 30 = .ok (.istore_n 3, 1) := by decide +kernel
theorem dX6_weight_31 : decode cX6_weight 31 = .ok (.aload_n 0, 1) := by decide +kernel
theorem dX6_weight_32 : decode cX6_weight 32 = .ok (.getfield 7, 3) := by decide +kernel
theorem dX6_weight_35 : decode cX6_weight 35 = .ok (.iload_n 1, 1) := by decide +kernel
theorem dX6_weight_36 : decode cX6_weight 36 = .ok (.iload_n 2, 1) := by decide +kernel
theorem dX6_weight_37 : decode cX6_weight 37 = .ok (.iastore, 1) := by decide +kernel
theorem dX6_weight_38 : decode cX6_weight 38 = .ok (.iload_n 3, 1) := by decide +kernel
theorem dX6_weight_39 : decode cX6_weight 39 = .ok (.ireturn, 1) := by decide +kernel
theorem dX6_numberIs_0 : decode cX6_numberIs 0 = .ok (.iload_n 1, 1) := by decide +kernel
theorem dX6_numberIs_1 : decode cX6_numberIs 1 = .ok (.ifCond .ne 10, 3) := by decide +kernel
theorem dX6_numberIs_4 : decode cX6_numberIs 4 = .ok (.aload_n 0, 1) := by decide +kernel
theorem dX6_numberIs_5 : decode cX6_numberIs 5 = .ok (.getfield 44, 3) := by decide +kernel
theorem dX6_numberIs_8 : decode cX6_numberIs 8 = .ok (.goto 19, 3) := by decide +kernel
theorem dX6_numberIs_11 : decode cX6_numberIs 11 = .ok (.iload_n 1, 1) := by decide +kernel
theorem dX6_numberIs_12 : decode cX6_numberIs 12 = .ok (.iconst 1, 1) := by decide +kernel
theorem dX6_numberIs_13 : decode cX6_numberIs 13 = .ok (.if_icmp .ne 10, 3) := by decide +kernel
theorem dX6_numberIs_16 : decode cX6_numberIs 16 = .ok (.aload_n 0, 1) := by decide +kernel
theorem dX6_numberIs_17 : decode cX6_numberIs 17 = .ok (.getfield 48, 3) := by decide +kernel
theorem dX6_numberIs_20 : decode cX6_numberIs 20 = .ok (.goto 7, 3) := by decide +kernel
theorem dX6_numberIs_23 : decode cX6_numberIs 23 = .ok (.aload_n 0, 1) := by decide +kernel
theorem dX6_numberIs_24 : decode cX6_numberIs 24 = .ok (.getfield 65, 3) := by decide +kernel
theorem dX6_numberIs_27 : decode cX6_numberIs 27 = .ok (.ireturn, 1) := by decide +kernel
theorem dX6_set_0 : decode cX6_set 0 = .ok (.iload_n 1, 1) := by decide +kernel
theorem dX6_set_1 : decode cX6_set 1 = .ok (.i2l, 1) := by decide +kernel
theorem dX6_set_2 : decode cX6_set 2 = .ok (.lconst 0, 1) := by decide +kernel
theorem dX6_set_3 : decode cX6_set 3 = .ok (.ldc2_w 51, 3) := by decide +kernel
theorem dX6_set_6 : decode cX6_set 6 = .ok (.invokestatic 53, 3) := by decide +kernel
theorem dX6_set_9 : decode cX6_set 9 = .ok (.ifCond .eq 45, 3) := by decide +kernel
theorem dX6_set_12 : decode cX6_set 12 = .ok (.iload_n 2, 1) := by decide +kernel
theorem dX6_set_13 : decode cX6_set 13 = .ok (.i2l, 1) := by decide +kernel
theorem dX6_set_14 : decode cX6_set 14 = .ok (.iload_n 1, 1) := by decide +kernel
theorem dX6_set_15 : decode cX6_set 15 = .ok (.iconst 1, 1) := by decide +kernel
theorem dX6_set_16 : decode cX6_set 16 = .ok (.if_icmp .ne 7, 3) := by decide +kernel
theorem dX6_set_19 : decode cX6_set 19 = .ok (.lconst 1, 1) := by decide +kernel
theorem dX6_set_20 : decode cX6_set 20 = .ok (.goto 4, 3) := by decide +kernel
theorem dX6_set_23 : decode cX6_set 23 = .ok (.lconst 0, 1) := by decide +kernel
theorem dX6_set_24 : decode cX6_set 24 = .ok (.iload_n 1, 1) := by decide +kernel
theorem dX6_set_25 : decode cX6_set 25 = .ok (.ifCond .ne 9, 3) := by decide +kernel
theorem dX6_set_28 : decode cX6_set 28 = .ok (.ldc2_w 68, 3) := by decide +kernel
theorem dX6_set_31 : decode cX6_set 31 = .ok (.goto 17, 3) := by decide +kernel
theorem dX6_set_34 : decode cX6_set 34 = .ok (.iload_n 1, 1) := by decide +kernel
theorem dX6_set_35 : decode cX6_set 35 = .ok (.iconst 1, 1) := by decide +kernel
theorem dX6_set_36 : decode cX6_set 36 = .ok (.if_icmp .ne 9, 3) := by decide +kernel
theorem dX6_set_39 : decode cX6_set 39 = .ok (.ldc2_w 63, 3) := by decide +kernel
theorem dX6_set_42 : decode cX6_set 42 = .ok (.goto 6, 3) := by decide +kernel
theorem dX6_set_45 : decode cX6_set 45 = .ok (.ldc2_w 51, 3) := by decide +kernel
theorem dX6_set_48 : decode cX6_set 48 = .ok (.invokestatic 53, 3) := by decide +kernel
theorem dX6_set_51 : decode cX6_set 51 = .ok (.ifCond .ne 6, 3) := by decide +kernel
theorem dX6_set_54 : decode cX6_set 54 = .ok (.bipush (-2), 2) := by decide +kernel
theorem dX6_set_56 : decode cX6_set 56 = .ok (.ireturn, 1) := by decide +kernel
theorem dX6_set_57 : decode cX6_set 57 = .ok (.aload_n 0, 1) := by decide +kernel
theorem dX6_set_58 : decode cX6_set 58 = .ok (.iload_n 1, 1) := by decide +kernel
theorem dX6_set_59 : decode cX6_set 59 = .ok (.invokevirtual 70, 3) := by decide +kernel
theorem dX6_set_62 : decode cX6_set 62 = .ok (.istore_n 3, 1) := by decide +kernel
theorem dX6_set_63 : decode cX6_set 63 = .ok (.iload_n 1, 1) := by decide +kernel
theorem dX6_set_64 : decode cX6_set 64 = .ok (.ifCond .ne 11, 3) := by decide +kernel
theorem dX6_set_67 : decode cX6_set 67 = .ok (.aload_n 0, 1) := by decide +kernel
theorem dX6_set_68 : decode cX6_set 68 = .ok (.iload_n 2, 1) := by decide +kernel
theorem dX6_set_69 : decode cX6_set 69 = .ok (.putfield 44, 3) := by decide +kernel
theorem dX6_set_72 : decode cX6_set 72 = .ok (.goto 21, 3) := by decide +kernel
theorem dX6_set_75 : decode cX6_set 75 = .ok (.iload_n 1, 1) := by decide +kernel
theorem dX6_set_76 : decode cX6_set 76 = .ok (.iconst 1, 1) := by decide +kernel
theorem dX6_set_77 : decode cX6_set 77 = .ok (.if_icmp .ne 11, 3) := by decide +kernel
theorem dX6_set_80 : decode cX6_set 80 = .ok (.aload_n 0, 1) := by decide +kernel
theorem dX6_set_81 : decode cX6_set 81 = .ok (.iload_n 2, 1) := by decide +kernel
theorem dX6_set_82 : decode cX6_set 82 = .ok (.putfield 48, 3) := by decide +kernel
theorem dX6_set_85 : decode cX6_set 85 = .ok (.goto 8, 3) := by decide +kernel
theorem dX6_set_88 : decode cX6_set 88 = .ok (.aload_n 0, 1) := by decide +kernel
theorem dX6_set_89 : decode cX6_set 89 = .ok (.iload_n 2, 1) := by decide +kernel
theorem dX6_set_90 : decode cX6_set 90 = .ok (.putfield 65, 3) := by decide +kernel
theorem dX6_set_93 : decode cX6_set 93 = .ok (.iload_n 3, 1) := by decide +kernel
theorem dX6_set_94 : decode cX6_set 94 = .ok (.ireturn, 1) := by decide +kernel
theorem dX6_say_0 : decode cX6_say 0 = .ok (.iload_n 1, 1) := by decide +kernel
theorem dX6_say_1 : decode cX6_say 1 = .ok (.i2l, 1) := by decide +kernel
theorem dX6_say_2 : decode cX6_say 2 = .ok (.ldc2_w 74, 3) := by decide +kernel
theorem dX6_say_5 : decode cX6_say 5 = .ok (.ldc2_w 76, 3) := by decide +kernel
theorem dX6_say_8 : decode cX6_say 8 = .ok (.invokestatic 53, 3) := by decide +kernel
theorem dX6_say_11 : decode cX6_say 11 = .ok (.ifCond .ne 6, 3) := by decide +kernel
theorem dX6_say_14 : decode cX6_say 14 = .ok (.bipush (-2), 2) := by decide +kernel
theorem dX6_say_16 : decode cX6_say 16 = .ok (.ireturn, 1) := by decide +kernel
theorem dX6_say_17 : decode cX6_say 17 = .ok (.aload_n 0, 1) := by decide +kernel
theorem dX6_say_18 : decode cX6_say 18 = .ok (.getfield 78, 3) := by decide +kernel
theorem dX6_say_21 : decode cX6_say 21 = .ok (.bipush 40, 2) := by decide +kernel
theorem dX6_say_23 : decode cX6_say 23 = .ok (.if_icmp .ne 6, 3) := by decide +kernel
theorem dX6_say_26 : decode cX6_say 26 = .ok (.bipush (-4), 2) := by decide +kernel
theorem dX6_say_28 : decode cX6_say 28 = .ok (.ireturn, 1) := by decide +kernel
theorem dX6_say_29 : decode cX6_say 29 = .ok (.aload_n 0, 1) := by decide +kernel
theorem dX6_say_30 : decode cX6_say 30 = .ok (.getfield 13, 3) := by decide +kernel
theorem dX6_say_33 : decode cX6_say 33 = .ok (.aload_n 0, 1) := by decide +kernel
theorem dX6_say_34 : decode cX6_say 34 = .ok (.getfield 78, 3) := by decide +kernel
theorem dX6_say_37 : decode cX6_say 37 = .ok (.iload_n 1, 1) := by decide +kernel
theorem dX6_say_38 : decode cX6_say 38 = .ok (.iastore, 1) := by decide +kernel
theorem dX6_say_39 : decode cX6_say 39 = .ok (.aload_n 0, 1) := by decide +kernel
theorem dX6_say_40 : decode cX6_say 40 = .ok (.dup, 1) := by decide +kernel
theorem dX6_say_41 : decode cX6_say 41 = .ok (.getfield 78, 3) := by decide +kernel
theorem dX6_say_44 : decode cX6_say 44 = .ok (.iconst 1, 1) := by decide +kernel
theorem dX6_say_45 : decode cX6_say 45 = .ok (.iadd, 1) := by decide +kernel
theorem dX6_say_46 : decode cX6_say 46 = .ok (.putfield 78, 3) := by decide +kernel
theorem dX6_say_49 : decode cX6_say 49 = .ok (.aload_n 0, 1) := by decide +kernel
theorem dX6_say_50 : decode cX6_say 50 = .ok (.getfield 78, 3) := by decide +kernel
theorem dX6_say_53 : decode cX6_say 53 = .ok (.ireturn, 1) := by decide +kernel
theorem dX6_wipe_0 : decode cX6_wipe 0 = .ok (.aload_n 0, 1) := by decide +kernel
theorem dX6_wipe_1 : decode cX6_wipe 1 = .ok (.getfield 78, 3) := by decide +kernel
theorem dX6_wipe_4 : decode cX6_wipe 4 = .ok (.istore_n 1, 1) := by decide +kernel
theorem dX6_wipe_5 : decode cX6_wipe 5 = .ok (.aload_n 0, 1) := by decide +kernel
theorem dX6_wipe_6 : decode cX6_wipe 6 = .ok (.iconst 0, 1) := by decide +kernel
theorem dX6_wipe_7 : decode cX6_wipe 7 = .ok (.putfield 78, 3) := by decide +kernel
theorem dX6_wipe_10 : decode cX6_wipe 10 = .ok (.iload_n 1, 1) := by decide +kernel
theorem dX6_wipe_11 : decode cX6_wipe 11 = .ok (.ireturn, 1) := by decide +kernel
theorem dX6_fault_0 : decode cX6_fault 0 = .ok (.iconst 0, 1) := by decide +kernel
theorem dX6_fault_1 : decode cX6_fault 1 = .ok (.istore_n 1, 1) := by decide +kernel
theorem dX6_fault_2 : decode cX6_fault 2 = .ok (.iload_n 1, 1) := by decide +kernel
theorem dX6_fault_3 : decode cX6_fault 3 = .ok (.aload_n 0, 1) := by decide +kernel
theorem dX6_fault_4 : decode cX6_fault 4 = .ok (.getfield 78, 3) := by decide +kernel
theorem dX6_fault_7 : decode cX6_fault 7 = .ok (.if_icmp .ge 110, 3) := by decide +kernel
theorem dX6_fault_10 : decode cX6_fault 10 = .ok (.aload_n 0, 1) := by decide +kernel
theorem dX6_fault_11 : decode cX6_fault 11 = .ok (.getfield 13, 3) := by decide +kernel
theorem dX6_fault_14 : decode cX6_fault 14 = .ok (.iload_n 1, 1) := by decide +kernel
theorem dX6_fault_15 : decode cX6_fault 15 = .ok (.iaload, 1) := by decide +kernel
theorem dX6_fault_16 : decode cX6_fault 16 = .ok (.istore_n 2, 1) := by decide +kernel
theorem dX6_fault_17 : decode cX6_fault 17 = .ok (.iload_n 1, 1) := by decide +kernel
theorem dX6_fault_18 : decode cX6_fault 18 = .ok (.bipush 6, 2) := by decide +kernel
theorem dX6_fault_20 : decode cX6_fault 20 = .ok (.irem, 1) := by decide +kernel
theorem dX6_fault_21 : decode cX6_fault 21 = .ok (.istore_n 3, 1) := by decide +kernel
theorem dX6_fault_22 : decode cX6_fault 22 = .ok (.iload_n 3, 1) := by decide +kernel
theorem dX6_fault_23 : decode cX6_fault 23 = .ok (.iconst 3, 1) := by decide +kernel
theorem dX6_fault_24 : decode cX6_fault 24 = .ok (.if_icmp .ge 29, 3) := by decide +kernel
theorem dX6_fault_27 : decode cX6_fault 27 = .ok (.iload_n 2, 1) := by decide +kernel
theorem dX6_fault_28 : decode cX6_fault 28 = .ok (.bipush 48, 2) := by decide +kernel
theorem dX6_fault_30 : decode cX6_fault 30 = .ok (.if_icmp .eq 15, 3) := by decide +kernel
theorem dX6_fault_33 : decode cX6_fault 33 = .ok (.iload_n 2, 1) := by decide +kernel
theorem dX6_fault_34 : decode cX6_fault 34 = .ok (.bipush 49, 2) := by decide +kernel
theorem dX6_fault_36 : decode cX6_fault 36 = .ok (.if_icmp .eq 9, 3) := by decide +kernel
theorem dX6_fault_39 : decode cX6_fault 39 = .ok (.iload_n 2, 1) := by decide +kernel
theorem dX6_fault_40 : decode cX6_fault 40 = .ok (.bipush 42, 2) := by decide +kernel
theorem dX6_fault_42 : decode cX6_fault 42 = .ok (.if_icmp .ne 7, 3) := by decide +kernel
theorem dX6_fault_45 : decode cX6_fault 45 = .ok (.iconst 1, 1) := by decide +kernel
theorem dX6_fault_46 : decode cX6_fault 46 = .ok (.goto 56, 3) := by decide +kernel
theorem dX6_fault_49 : decode cX6_fault 49 = .ok (.iconst 0, 1) := by decide +kernel
theorem dX6_fault_50 : decode cX6_fault 50 = .ok (.goto 52, 3) := by decide +kernel
theorem dX6_fault_53 : decode cX6_fault 53 = .ok (.iload_n 3, 1) := by decide +kernel
theorem dX6_fault_54 : decode cX6_fault 54 = .ok (.iconst 3, 1) := by decide +kernel
theorem dX6_fault_55 : decode cX6_fault 55 = .ok (.if_icmp .ne 17, 3) := by decide +kernel
theorem dX6_fault_58 : decode cX6_fault 58 = .ok (.iload_n 2, 1) := by decide +kernel
theorem dX6_fault_59 : decode cX6_fault 59 = .ok (.bipush 58, 2) := by decide +kernel
theorem dX6_fault_61 : decode cX6_fault 61 = .ok (.if_icmp .ne 7, 3) := by decide +kernel
theorem dX6_fault_64 : decode cX6_fault 64 = .ok (.iconst 1, 1) := by decide +kernel
theorem dX6_fault_65 : decode cX6_fault 65 = .ok (.goto 37, 3) := by decide +kernel
theorem dX6_fault_68 : decode cX6_fault 68 = .ok (.iconst 0, 1) := by decide +kernel
theorem dX6_fault_69 : decode cX6_fault 69 = .ok (.goto 33, 3) := by decide +kernel
theorem dX6_fault_72 : decode cX6_fault 72 = .ok (.iload_n 3, 1) := by decide +kernel
theorem dX6_fault_73 : decode cX6_fault 73 = .ok (.iconst 4, 1) := by decide +kernel
theorem dX6_fault_74 : decode cX6_fault 74 = .ok (.if_icmp .ne 17, 3) := by decide +kernel
theorem dX6_fault_77 : decode cX6_fault 77 = .ok (.iload_n 2, 1) := by decide +kernel
theorem dX6_fault_78 : decode cX6_fault 78 = .ok (.i2l, 1) := by decide +kernel
theorem dX6_fault_79 : decode cX6_fault 79 = .ok (.ldc2_w 81, 3) := by decide +kernel
theorem dX6_fault_82 : decode cX6_fault 82 = .ok (.ldc2_w 83, 3) := by decide +kernel
theorem dX6_fault_85 : decode cX6_fault 85 = .ok (.invokestatic 53, 3) := by decide +kernel
theorem dX6_fault_88 : decode cX6_fault 88 = .ok (.goto 14, 3) := by decide +kernel
theorem dX6_fault_91 : decode cX6_fault 91 = .ok (.iload_n 2, 1) := by decide +kernel
theorem dX6_fault_92 : decode cX6_fault 92 = .ok (.bipush 59, 2) := by decide +kernel
theorem dX6_fault_94 : decode cX6_fault 94 = .ok (.if_icmp .ne 7, 3) := by decide +kernel
theorem dX6_fault_97 : decode cX6_fault 97 = .ok (.iconst 1, 1) := by decide +kernel
theorem dX6_fault_98 : decode cX6_fault 98 = .ok (.goto 4, 3) := by decide +kernel
theorem dX6_fault_101 : decode cX6_fault 101 = .ok (.iconst 0, 1) := by decide +kernel
theorem dX6_fault_102 : decode cX6_fault 102 = .ok (.istore 4, 2) := by decide +kernel
theorem dX6_fault_104 : decode cX6_fault 104 = .ok (.iload 4, 2) := by decide +kernel
theorem dX6_fault_106 : decode cX6_fault 106 = .ok (.ifCond .ne 5, 3) := by decide +kernel
theorem dX6_fault_109 : decode cX6_fault 109 = .ok (.iload_n 1, 1) := by decide +kernel
theorem dX6_fault_110 : decode cX6_fault 110 = .ok (.ireturn, 1) := by decide +kernel
theorem dX6_fault_111 : decode cX6_fault 111 = .ok (.iinc 1 1, 3) := by decide +kernel
theorem dX6_fault_114 : decode cX6_fault 114 = .ok (.goto (-112), 3) := by decide +kernel
theorem dX6_fault_117 : decode cX6_fault 117 = .ok (.aload_n 0, 1) := by decide +kernel
theorem dX6_fault_118 : decode cX6_fault 118 = .ok (.getfield 78, 3) := by decide +kernel
theorem dX6_fault_121 : decode cX6_fault 121 = .ok (.bipush 6, 2) := by decide +kernel
theorem dX6_fault_123 : decode cX6_fault 123 = .ok (.irem, 1) := by decide +kernel
theorem dX6_fault_124 : decode cX6_fault 124 = .ok (.iconst 5, 1) := by decide +kernel
theorem dX6_fault_125 : decode cX6_fault 125 = .ok (.if_icmp .ne 8, 3) := by decide +kernel
theorem dX6_fault_128 : decode cX6_fault 128 = .ok (.bipush (-6), 2) := by decide +kernel
theorem dX6_fault_130 : decode cX6_fault 130 = .ok (.goto 7, 3) := by decide +kernel
theorem dX6_fault_133 : decode cX6_fault 133 = .ok (.aload_n 0, 1) := by decide +kernel
theorem dX6_fault_134 : decode cX6_fault 134 = .ok (.getfield 78, 3) := by decide +kernel
theorem dX6_fault_137 : decode cX6_fault 137 = .ok (.ireturn, 1) := by decide +kernel
theorem dX6_before_0 : decode cX6_before 0 = .ok (.aload_n 0, 1) := by decide +kernel
theorem dX6_before_1 : decode cX6_before 1 = .ok (.invokevirtual 85, 3) := by decide +kernel
theorem dX6_before_4 : decode cX6_before 4 = .ok (.ifCond .lt 6, 3) := by decide +kernel
theorem dX6_before_7 : decode cX6_before 7 = .ok (.bipush (-5), 2) := by decide +kernel
theorem dX6_before_9 : decode cX6_before 9 = .ok (.ireturn, 1) := by decide +kernel
theorem dX6_before_10 : decode cX6_before 10 = .ok (.aload_n 0, 1) := by decide +kernel
theorem dX6_before_11 : decode cX6_before 11 = .ok (.aload_n 0, 1) := by decide +kernel
theorem dX6_before_12 : decode cX6_before 12 = .ok (.getfield 78, 3) := by decide +kernel
theorem dX6_before_15 : decode cX6_before 15 = .ok (.iconst 1, 1) := by decide +kernel
theorem dX6_before_16 : decode cX6_before 16 = .ok (.iadd, 1) := by decide +kernel
theorem dX6_before_17 : decode cX6_before 17 = .ok (.bipush 6, 2) := by decide +kernel
theorem dX6_before_19 : decode cX6_before 19 = .ok (.idiv, 1) := by decide +kernel
theorem dX6_before_20 : decode cX6_before 20 = .ok (.putfield 89, 3) := by decide +kernel
theorem dX6_before_23 : decode cX6_before 23 = .ok (.iconst 0, 1) := by decide +kernel
theorem dX6_before_24 : decode cX6_before 24 = .ok (.istore_n 1, 1) := by decide +kernel
theorem dX6_before_25 : decode cX6_before 25 = .ok (.iload_n 1, 1) := by decide +kernel
theorem dX6_before_26 : decode cX6_before 26 = .ok (.aload_n 0, 1) := by decide +kernel
theorem dX6_before_27 : decode cX6_before 27 = .ok (.getfield 89, 3) := by decide +kernel
theorem dX6_before_30 : decode cX6_before 30 = .ok (.if_icmp .ge 67, 3) := by decide +kernel
theorem dX6_before_33 : decode cX6_before 33 = .ok (.iconst 0, 1) := by decide +kernel
theorem dX6_before_34 : decode cX6_before 34 = .ok (.istore_n 2, 1) := by decide +kernel
theorem dX6_before_35 : decode cX6_before 35 = .ok (.iload_n 2, 1) := by decide +kernel
theorem dX6_before_36 : decode cX6_before 36 = .ok (.iconst 3, 1) := by decide +kernel
theorem dX6_before_37 : decode cX6_before 37 = .ok (.if_icmp .ge 30, 3) := by decide +kernel
theorem dX6_before_40 : decode cX6_before 40 = .ok (.aload_n 0, 1) := by decide +kernel
theorem dX6_before_41 : decode cX6_before 41 = .ok (.getfield 16, 3) := by decide +kernel
theorem dX6_before_44 : decode cX6_before 44 = .ok (.iconst 4, 1) := by decide +kernel
theorem dX6_before_45 : decode cX6_before 45 = .ok (.iload_n 1, 1) := by decide +kernel
theorem dX6_before_46 : decode cX6_before 46 = .ok (.imul, 1) := by decide +kernel
theorem dX6_before_47 : decode cX6_before 47 = .ok (.iload_n 2, 1) := by decide +kernel
theorem dX6_before_48 : decode cX6_before 48 = .ok (.iadd, 1) := by decide +kernel
theorem dX6_before_49 : decode cX6_before 49 = .ok (.aload_n 0, 1) := by decide +kernel
theorem dX6_before_50 : decode cX6_before 50 = .ok (.getfield 13, 3) := by decide +kernel
theorem dX6_before_53 : decode cX6_before 53 = .ok (.bipush 6, 2) := by decide +kernel
theorem dX6_before_55 : decode cX6_before 55 = .ok (.iload_n 1, 1) := by decide +kernel
theorem dX6_before_56 : decode cX6_before 56 = .ok (.imul, 1) := by decide +kernel
theorem dX6_before_57 : decode cX6_before 57 = .ok (.iload_n 2, 1) := by decide +kernel
theorem dX6_before_58 : decode cX6_before 58 = .ok (.iadd, 1) := by decide +kernel
theorem dX6_before_59 : decode cX6_before 59 = .ok (.iaload, 1) := by decide +kernel
theorem dX6_before_60 : decode cX6_before 60 = .ok (.iastore, 1) := by decide +kernel
theorem dX6_before_61 : decode cX6_before 61 = .ok (.iinc 2 1, 3) := by decide +kernel
theorem dX6_before_64 : decode cX6_before 64 = .ok (.goto (-29), 3) := by decide +kernel
theorem dX6_before_67 : decode cX6_before 67 = .ok (.aload_n 0, 1) := by decide +kernel
theorem dX6_before_68 : decode cX6_before 68 = .ok (.getfield 16, 3) := by decide +kernel
theorem dX6_before_71 : decode cX6_before 71 = .ok (.iconst 4, 1) := by decide +kernel
theorem dX6_before_72 : decode cX6_before 72 = .ok (.iload_n 1, 1) := by decide +kernel
theorem dX6_before_73 : decode cX6_before 73 = .ok (.imul, 1) := by decide +kernel
theorem dX6_before_74 : decode cX6_before 74 = .ok (.iconst 3, 1) := by decide +kernel
theorem dX6_before_75 : decode cX6_before 75 = .ok (.iadd, 1) := by decide +kernel
theorem dX6_before_76 : decode cX6_before 76 = .ok (.aload_n 0, 1) := by decide +kernel
theorem dX6_before_77 : decode cX6_before 77 = .ok (.getfield 13, 3) := by decide +kernel
theorem dX6_before_80 : decode cX6_before 80 = .ok (.bipush 6, 2) := by decide +kernel
theorem dX6_before_82 : decode cX6_before 82 = .ok (.iload_n 1, 1) := by decide +kernel
theorem dX6_before_83 : decode cX6_before 83 = .ok (.imul, 1) := by decide +kernel
theorem dX6_before_84 : decode cX6_before 84 = .ok (.iconst 4, 1) := by decide +kernel
theorem dX6_before_85 : decode cX6_before 85 = .ok (.iadd, 1) := by decide +kernel
theorem dX6_before_86 : decode cX6_before 86 = .ok (.iaload, 1) := by decide +kernel
theorem dX6_before_87 : decode cX6_before 87 = .ok (.bipush 48, 2) := by decide +kernel
theorem dX6_before_89 : decode cX6_before 89 = .ok (.isub, 1) := by decide +kernel
theorem dX6_before_90 : decode cX6_before 90 = .ok (.iastore, 1) := by decide +kernel
theorem dX6_before_91 : decode cX6_before 91 = .ok (.iinc 1 1, 3) := by decide +kernel
theorem dX6_before_94 : decode cX6_before 94 = .ok (.goto (-69), 3) := by decide +kernel
theorem dX6_before_97 : decode cX6_before 97 = .ok (.aload_n 0, 1) := by decide +kernel
theorem dX6_before_98 : decode cX6_before 98 = .ok (.iconst 0, 1) := by decide +kernel
theorem dX6_before_99 : decode cX6_before 99 = .ok (.putfield 78, 3) := by decide +kernel
theorem dX6_before_102 : decode cX6_before 102 = .ok (.aload_n 0, 1) := by decide +kernel
theorem dX6_before_103 : decode cX6_before 103 = .ok (.getfield 89, 3) := by decide +kernel
theorem dX6_before_106 : decode cX6_before 106 = .ok (.ireturn, 1) := by decide +kernel
theorem dX6_beforehand_0 : decode cX6_beforehand 0 = .ok (.iconst 0, 1) := by decide +kernel
theorem dX6_beforehand_1 : decode cX6_beforehand 1 = .ok (.istore_n 2, 1) := by decide +kernel
theorem dX6_beforehand_2 : decode cX6_beforehand 2 = .ok (.iload_n 2, 1) := by decide +kernel
theorem dX6_beforehand_3 : decode cX6_beforehand 3 = .ok (.aload_n 0, 1) := by decide +kernel
theorem dX6_beforehand_4 : decode cX6_beforehand 4 = .ok (.getfield 89, 3) := by decide +kernel
theorem dX6_beforehand_7 : decode cX6_beforehand 7 = .ok (.if_icmp .ge 85, 3) := by decide +kernel
theorem dX6_beforehand_10 : decode cX6_beforehand 10 = .ok (.iconst 1, 1) := by decide +kernel
theorem dX6_beforehand_11 : decode cX6_beforehand 11 = .ok (.istore_n 3, 1) := by decide +kernel
theorem dX6_beforehand_12 : decode cX6_beforehand 12 = .ok (.iconst 0, 1) := by decide +kernel
theorem dX6_beforehand_13 : decode cX6_beforehand 13 = .ok (.istore 4, 2) := by decide +kernel
theorem dX6_beforehand_15 : decode cX6_beforehand 15 = .ok (.iload 4, 2) := by decide +kernel
theorem dX6_beforehand_17 : decode cX6_beforehand 17 = .ok (.iconst 3, 1) := by decide +kernel
theorem dX6_beforehand_18 : decode cX6_beforehand 18 = .ok (.if_icmp .ge 53, 3) := by decide +kernel
theorem dX6_beforehand_21 : decode cX6_beforehand 21 = .ok (.aload_n 0, 1) := by decide +kernel
theorem dX6_beforehand_22 : decode cX6_beforehand 22 = .ok (.getfield 16, 3) := by decide +kernel
theorem dX6_beforehand_25 : decode cX6_beforehand 25 = .ok (.iconst 4, 1) := by decide +kernel
theorem dX6_beforehand_26 : decode cX6_beforehand 26 = .ok (.iload_n 2, 1) := by decide +kernel
theorem dX6_beforehand_27 : decode cX6_beforehand 27 = .ok (.imul, 1) := by decide +kernel
theorem dX6_beforehand_28 : decode cX6_beforehand 28 = .ok (.iload 4, 2) := by decide +kernel
theorem dX6_beforehand_30 : decode cX6_beforehand 30 = .ok (.iadd, 1) := by decide +kernel
theorem dX6_beforehand_31 : decode cX6_beforehand 31 = .ok (.iaload, 1) := by decide +kernel
theorem dX6_beforehand_32 : decode cX6_beforehand 32 = .ok (.istore 5, 2) := by decide +kernel
theorem dX6_beforehand_34 : decode cX6_beforehand 34 = .ok (.iload_n 3, 1) := by decide +kernel
theorem dX6_beforehand_35 : decode cX6_beforehand 35 = .ok (.ifCond .eq 28, 3) := by decide +kernel
theorem dX6_beforehand_38 : decode cX6_beforehand 38 = .ok (.iload 5, 2) := by decide +kernel
theorem dX6_beforehand_40 : decode cX6_beforehand 40 = .ok (.bipush 42, 2) := by decide +kernel
theorem dX6_beforehand_42 : decode cX6_beforehand 42 = .ok (.if_icmp .eq 17, 3) := by decide +kernel
theorem dX6_beforehand_45 : decode cX6_beforehand 45 = .ok (.iload 5, 2) := by decide +kernel
theorem dX6_beforehand_47 : decode cX6_beforehand 47 = .ok (.bipush 48, 2) := by decide +kernel
theorem dX6_beforehand_49 : decode cX6_beforehand 49 = .ok (.isub, 1) := by decide +kernel
theorem dX6_beforehand_50 : decode cX6_beforehand 50 = .ok (.iload_n 1, 1) := by decide +kernel
theorem dX6_beforehand_51 : decode cX6_beforehand 51 = .ok (.iload 4, 2) := by decide +kernel
theorem dX6_beforehand_53 : decode cX6_beforehand 53 = .ok (.ishr, 1) := by decide +kernel
theorem dX6_beforehand_54 : decode cX6_beforehand 54 = .ok (.iconst 1, 1) := by decide +kernel
theorem dX6_beforehand_55 : decode cX6_beforehand 55 = .ok (.iand, 1) := by decide +kernel
theorem dX6_beforehand_56 : decode cX6_beforehand 56 = .ok (.if_icmp .ne 7, 3) := by decide +kernel
theorem dX6_beforehand_59 : decode cX6_beforehand 59 = .ok (.iconst 1, 1) := by decide +kernel
theorem dX6_beforehand_60 : decode cX6_beforehand 60 = .ok (.goto 4, 3) := by decide +kernel
theorem dX6_beforehand_63 : decode cX6_beforehand 63 = .ok (.iconst 0, 1) := by decide +kernel
theorem dX6_beforehand_64 : decode cX6_beforehand 64 = .ok (.istore_n 3, 1) := by decide +kernel
theorem dX6_beforehand_65 : decode cX6_beforehand 65 = .ok (.iinc 4 1, 3) := by decide +kernel
theorem dX6_beforehand_68 : decode cX6_beforehand 68 = .ok (.goto (-53), 3) := by decide +kernel
theorem dX6_beforehand_71 : decode cX6_beforehand 71 = .ok (.iload_n 3, 1) := by decide +kernel
theorem dX6_beforehand_72 : decode cX6_beforehand 72 = .ok (.ifCond .eq 14, 3) := by decide +kernel
theorem dX6_beforehand_75 : decode cX6_beforehand 75 = .ok (.aload_n 0, 1) := by decide +kernel
theorem dX6_beforehand_76 : decode cX6_beforehand 76 = .ok (.getfield 16, 3) := by decide +kernel
theorem dX6_beforehand_79 : decode cX6_beforehand 79 = .ok (.iconst 4, 1) := by decide +kernel
theorem dX6_beforehand_80 : decode cX6_beforehand 80 = .ok (.iload_n 2, 1) := by decide +kernel
theorem dX6_beforehand_81 : decode cX6_beforehand 81 = .ok (.imul, 1) := by decide +kernel
theorem dX6_beforehand_82 : decode cX6_beforehand 82 = .ok (.iconst 3, 1) := by decide +kernel
theorem dX6_beforehand_83 : decode cX6_beforehand 83 = .ok (.iadd, 1) := by decide +kernel
theorem dX6_beforehand_84 : decode cX6_beforehand 84 = .ok (.iaload, 1) := by decide +kernel
end
section
theorem dX6_beforehand_85 : decode cX6_beforehand 85 = .ok (.ireturn, 1) := by decide +kernel
theorem dX6_beforehand_86 : decode cX6_beforehand 86 = .ok (.iinc 2 1, 3) := by decide +kernel
theorem dX6_beforehand_89 : decode cX6_beforehand 89 = .ok (.goto (-87), 3) := by decide +kernel
theorem dX6_beforehand_92 : decode cX6_beforehand 92 = .ok (.iconst 1, 1) := by decide +kernel
theorem dX6_beforehand_93 : decode cX6_beforehand 93 = .ok (.ireturn, 1) := by decide +kernel
theorem dX6_number_0 : decode cX6_number 0 = .ok (.iload_n 1, 1) := by decide +kernel
theorem dX6_number_1 : decode cX6_number 1 = .ok (.invokestatic 92, 3) := by decide +kernel
theorem dX6_number_4 : decode cX6_number 4 = .ok (.ifCond .eq 11, 3) := by decide +kernel
theorem dX6_number_7 : decode cX6_number 7 = .ok (.aload_n 0, 1) := by decide +kernel
theorem dX6_number_8 : decode cX6_number 8 = .ok (.iload_n 1, 1) := by decide +kernel
theorem dX6_number_9 : decode cX6_number 9 = .ok (.invokevirtual 95, 3) := by decide +kernel
theorem dX6_number_12 : decode cX6_number 12 = .ok (.goto 4, 3) := by decide +kernel
theorem dX6_number_15 : decode cX6_number 15 = .ok (.iconst (-1), 1) := by decide +kernel
theorem dX6_number_16 : decode cX6_number 16 = .ok (.ireturn, 1) := by decide +kernel
theorem dX6_hear_0 : decode cX6_hear 0 = .ok (.iload_n 1, 1) := by decide +kernel
theorem dX6_hear_1 : decode cX6_hear 1 = .ok (.invokestatic 59, 3) := by decide +kernel
theorem dX6_hear_4 : decode cX6_hear 4 = .ok (.ifCond .ne 5, 3) := by decide +kernel
theorem dX6_hear_7 : decode cX6_hear 7 = .ok (.iconst (-1), 1) := by decide +kernel
theorem dX6_hear_8 : decode cX6_hear 8 = .ok (.ireturn, 1) := by decide +kernel
theorem dX6_hear_9 : decode cX6_hear 9 = .ok (.iload_n 2, 1) := by decide +kernel
theorem dX6_hear_10 : decode cX6_hear 10 = .ok (.i2l, 1) := by decide +kernel
theorem dX6_hear_11 : decode cX6_hear 11 = .ok (.lconst 0, 1) := by decide +kernel
theorem dX6_hear_12 : decode cX6_hear 12 = .ok (.lconst 1, 1) := by decide +kernel
theorem dX6_hear_13 : decode cX6_hear 13 = .ok (.invokestatic 53, 3) := by decide +kernel
theorem dX6_hear_16 : decode cX6_hear 16 = .ok (.ifCond .ne 6, 3) := by decide +kernel
theorem dX6_hear_19 : decode cX6_hear 19 = .ok (.bipush (-2), 2) := by decide +kernel
theorem dX6_hear_21 : decode cX6_hear 21 = .ok (.ireturn, 1) := by decide +kernel
theorem dX6_hear_22 : decode cX6_hear 22 = .ok (.aload_n 0, 1) := by decide +kernel
theorem dX6_hear_23 : decode cX6_hear 23 = .ok (.getfield 98, 3) := by decide +kernel
theorem dX6_hear_26 : decode cX6_hear 26 = .ok (.bipush 6, 2) := by decide +kernel
theorem dX6_hear_28 : decode cX6_hear 28 = .ok (.if_icmp .ne 6, 3) := by decide +kernel
theorem dX6_hear_31 : decode cX6_hear 31 = .ok (.bipush (-4), 2) := by decide +kernel
theorem dX6_hear_33 : decode cX6_hear 33 = .ok (.ireturn, 1) := by decide +kernel
theorem dX6_hear_34 : decode cX6_hear 34 = .ok (.aload_n 0, 1) := by decide +kernel
theorem dX6_hear_35 : decode cX6_hear 35 = .ok (.getfield 19, 3) := by decide +kernel
theorem dX6_hear_38 : decode cX6_hear 38 = .ok (.aload_n 0, 1) := by decide +kernel
theorem dX6_hear_39 : decode cX6_hear 39 = .ok (.getfield 98, 3) := by decide +kernel
theorem dX6_hear_42 : decode cX6_hear 42 = .ok (.iconst 2, 1) := by decide +kernel
theorem dX6_hear_43 : decode cX6_hear 43 = .ok (.iload_n 1, 1) := by decide +kernel
theorem dX6_hear_44 : decode cX6_hear 44 = .ok (.imul, 1) := by decide +kernel
theorem dX6_hear_45 : decode cX6_hear 45 = .ok (.iload_n 2, 1) := by decide +kernel
theorem dX6_hear_46 : decode cX6_hear 46 = .ok (.iadd, 1) := by decide +kernel
theorem dX6_hear_47 : decode cX6_hear 47 = .ok (.iastore, 1) := by decide +kernel
theorem dX6_hear_48 : decode cX6_hear 48 = .ok (.aload_n 0, 1) := by decide +kernel
theorem dX6_hear_49 : decode cX6_hear 49 = .ok (.dup, 1) := by decide +kernel
theorem dX6_hear_50 : decode cX6_hear 50 = .ok (.getfield 98, 3) := by decide +kernel
theorem dX6_hear_53 : decode cX6_hear 53 = .ok (.iconst 1, 1) := by decide +kernel
theorem dX6_hear_54 : decode cX6_hear 54 = .ok (.iadd, 1) := by decide +kernel
theorem dX6_hear_55 : decode cX6_hear 55 = .ok (.putfield 98, 3) := by decide +kernel
theorem dX6_hear_58 : decode cX6_hear 58 = .ok (.aload_n 0, 1) := by decide +kernel
theorem dX6_hear_59 : decode cX6_hear 59 = .ok (.getfield 98, 3) := by decide +kernel
theorem dX6_hear_62 : decode cX6_hear 62 = .ok (.ireturn, 1) := by decide +kernel
theorem dX6_forget_0 : decode cX6_forget 0 = .ok (.aload_n 0, 1) := by decide +kernel
theorem dX6_forget_1 : decode cX6_forget 1 = .ok (.getfield 98, 3) := by decide +kernel
theorem dX6_forget_4 : decode cX6_forget 4 = .ok (.istore_n 1, 1) := by decide +kernel
theorem dX6_forget_5 : decode cX6_forget 5 = .ok (.aload_n 0, 1) := by decide +kernel
theorem dX6_forget_6 : decode cX6_forget 6 = .ok (.iconst 0, 1) := by decide +kernel
theorem dX6_forget_7 : decode cX6_forget 7 = .ok (.putfield 98, 3) := by decide +kernel
theorem dX6_forget_10 : decode cX6_forget 10 = .ok (.iload_n 1, 1) := by decide +kernel
theorem dX6_forget_11 : decode cX6_forget 11 = .ok (.ireturn, 1) := by decide +kernel
theorem dX6_layHeard_0 : decode cX6_layHeard 0 = .ok (.iconst 0, 1) := by decide +kernel
theorem dX6_layHeard_1 : decode cX6_layHeard 1 = .ok (.istore_n 1, 1) := by decide +kernel
theorem dX6_layHeard_2 : decode cX6_layHeard 2 = .ok (.iload_n 1, 1) := by decide +kernel
theorem dX6_layHeard_3 : decode cX6_layHeard 3 = .ok (.bipush 6, 2) := by decide +kernel
theorem dX6_layHeard_5 : decode cX6_layHeard 5 = .ok (.if_icmp .ge 21, 3) := by decide +kernel
theorem dX6_layHeard_8 : decode cX6_layHeard 8 = .ok (.aload_n 0, 1) := by decide +kernel
theorem dX6_layHeard_9 : decode cX6_layHeard 9 = .ok (.getfield 22, 3) := by decide +kernel
theorem dX6_layHeard_12 : decode cX6_layHeard 12 = .ok (.iload_n 1, 1) := by decide +kernel
theorem dX6_layHeard_13 : decode cX6_layHeard 13 = .ok (.aload_n 0, 1) := by decide +kernel
theorem dX6_layHeard_14 : decode cX6_layHeard 14 = .ok (.getfield 19, 3) := by decide +kernel
theorem dX6_layHeard_17 : decode cX6_layHeard 17 = .ok (.iload_n 1, 1) := by decide +kernel
theorem dX6_layHeard_18 : decode cX6_layHeard 18 = .ok (.iaload, 1) := by decide +kernel
theorem dX6_layHeard_19 : decode cX6_layHeard 19 = .ok (.iastore, 1) := by decide +kernel
theorem dX6_layHeard_20 : decode cX6_layHeard 20 = .ok (.iinc 1 1, 3) := by decide +kernel
theorem dX6_layHeard_23 : decode cX6_layHeard 23 = .ok (.goto (-21), 3) := by decide +kernel
theorem dX6_layHeard_26 : decode cX6_layHeard 26 = .ok (.aload_n 0, 1) := by decide +kernel
theorem dX6_layHeard_27 : decode cX6_layHeard 27 = .ok (.aload_n 0, 1) := by decide +kernel
theorem dX6_layHeard_28 : decode cX6_layHeard 28 = .ok (.getfield 98, 3) := by decide +kernel
theorem dX6_layHeard_31 : decode cX6_layHeard 31 = .ok (.putfield 101, 3) := by decide +kernel
theorem dX6_layHeard_34 : decode cX6_layHeard 34 = .ok (.return_, 1) := by decide +kernel
theorem dX6_hasForm_0 : decode cX6_hasForm 0 = .ok (.iload_n 0, 1) := by decide +kernel
theorem dX6_hasForm_1 : decode cX6_hasForm 1 = .ok (.iload_n 1, 1) := by decide +kernel
theorem dX6_hasForm_2 : decode cX6_hasForm 2 = .ok (.iconst 2, 1) := by decide +kernel
theorem dX6_hasForm_3 : decode cX6_hasForm 3 = .ok (.idiv, 1) := by decide +kernel
theorem dX6_hasForm_4 : decode cX6_hasForm 4 = .ok (.ishr, 1) := by decide +kernel
theorem dX6_hasForm_5 : decode cX6_hasForm 5 = .ok (.iconst 1, 1) := by decide +kernel
theorem dX6_hasForm_6 : decode cX6_hasForm 6 = .ok (.iand, 1) := by decide +kernel
theorem dX6_hasForm_7 : decode cX6_hasForm 7 = .ok (.iload_n 1, 1) := by decide +kernel
theorem dX6_hasForm_8 : decode cX6_hasForm 8 = .ok (.iconst 2, 1) := by decide +kernel
theorem dX6_hasForm_9 : decode cX6_hasForm 9 = .ok (.irem, 1) := by decide +kernel
theorem dX6_hasForm_10 : decode cX6_hasForm 10 = .ok (.if_icmp .ne 7, 3) := by decide +kernel
theorem dX6_hasForm_13 : decode cX6_hasForm 13 = .ok (.iconst 1, 1) := by decide +kernel
theorem dX6_hasForm_14 : decode cX6_hasForm 14 = .ok (.goto 4, 3) := by decide +kernel
theorem dX6_hasForm_17 : decode cX6_hasForm 17 = .ok (.iconst 0, 1) := by decide +kernel
theorem dX6_hasForm_18 : decode cX6_hasForm 18 = .ok (.ireturn, 1) := by decide +kernel
theorem dX6_likenessOf_0 : decode cX6_likenessOf 0 = .ok (.aload_n 0, 1) := by decide +kernel
theorem dX6_likenessOf_1 : decode cX6_likenessOf 1 = .ok (.iload_n 1, 1) := by decide +kernel
theorem dX6_likenessOf_2 : decode cX6_likenessOf 2 = .ok (.invokevirtual 95, 3) := by decide +kernel
theorem dX6_likenessOf_5 : decode cX6_likenessOf 5 = .ok (.i2l, 1) := by decide +kernel
theorem dX6_likenessOf_6 : decode cX6_likenessOf 6 = .ok (.lstore_n 2, 1) := by decide +kernel
theorem dX6_likenessOf_7 : decode cX6_likenessOf 7 = .ok (.iconst 0, 1) := by decide +kernel
theorem dX6_likenessOf_8 : decode cX6_likenessOf 8 = .ok (.istore 4, 2) := by decide +kernel
theorem dX6_likenessOf_10 : decode cX6_likenessOf 10 = .ok (.iload 4, 2) := by decide +kernel
theorem dX6_likenessOf_12 : decode cX6_likenessOf 12 = .ok (.aload_n 0, 1) := by decide +kernel
theorem dX6_likenessOf_13 : decode cX6_likenessOf 13 = .ok (.getfield 101, 3) := by decide +kernel
theorem dX6_likenessOf_16 : decode cX6_likenessOf 16 = .ok (.if_icmp .ge 42, 3) := by decide +kernel
theorem dX6_likenessOf_19 : decode cX6_likenessOf 19 = .ok (.lload_n 2, 1) := by decide +kernel
theorem dX6_likenessOf_20 : decode cX6_likenessOf 20 = .ok (.iload_n 1, 1) := by decide +kernel
theorem dX6_likenessOf_21 : decode cX6_likenessOf 21 = .ok (.aload_n 0, 1) := by decide +kernel
theorem dX6_likenessOf_22 : decode cX6_likenessOf 22 = .ok (.getfield 22, 3) := by decide +kernel
theorem dX6_likenessOf_25 : decode cX6_likenessOf 25 = .ok (.iload 4, 2) := by decide +kernel
theorem dX6_likenessOf_27 : decode cX6_likenessOf 27 = .ok (.iaload, 1) := by decide +kernel
theorem dX6_likenessOf_28 : decode cX6_likenessOf 28 = .ok (.invokestatic 104, 3) := by decide +kernel
theorem dX6_likenessOf_31 : decode cX6_likenessOf 31 = .ok (.ifCond .eq 14, 3) := by decide +kernel
theorem dX6_likenessOf_34 : decode cX6_likenessOf 34 = .ok (.bipush 12, 2) := by decide +kernel
theorem dX6_likenessOf_36 : decode cX6_likenessOf 36 = .ok (.aload_n 0, 1) := by decide +kernel
theorem dX6_likenessOf_37 : decode cX6_likenessOf 37 = .ok (.getfield 44, 3) := by decide +kernel
theorem dX6_likenessOf_40 : decode cX6_likenessOf 40 = .ok (.isub, 1) := by decide +kernel
theorem dX6_likenessOf_41 : decode cX6_likenessOf 41 = .ok (.i2l, 1) := by decide +kernel
theorem dX6_likenessOf_42 : decode cX6_likenessOf 42 = .ok (.goto 8, 3) := by decide +kernel
theorem dX6_likenessOf_45 : decode cX6_likenessOf 45 = .ok (.aload_n 0, 1) := by decide +kernel
theorem dX6_likenessOf_46 : decode cX6_likenessOf 46 = .ok (.getfield 44, 3) := by decide +kernel
theorem dX6_likenessOf_49 : decode cX6_likenessOf 49 = .ok (.i2l, 1) := by decide +kernel
theorem dX6_likenessOf_50 : decode cX6_likenessOf 50 = .ok (.lmul, 1) := by decide +kernel
theorem dX6_likenessOf_51 : decode cX6_likenessOf 51 = .ok (.lstore_n 2, 1) := by decide +kernel
theorem dX6_likenessOf_52 : decode cX6_likenessOf 52 = .ok (.iinc 4 1, 3) := by decide +kernel
theorem dX6_likenessOf_55 : decode cX6_likenessOf 55 = .ok (.goto (-45), 3) := by decide +kernel
theorem dX6_likenessOf_58 : decode cX6_likenessOf 58 = .ok (.lload_n 2, 1) := by decide +kernel
theorem dX6_likenessOf_59 : decode cX6_likenessOf 59 = .ok (.lreturn, 1) := by decide +kernel
theorem dX6_likeness_0 : decode cX6_likeness 0 = .ok (.iload_n 1, 1) := by decide +kernel
theorem dX6_likeness_1 : decode cX6_likeness 1 = .ok (.invokestatic 92, 3) := by decide +kernel
theorem dX6_likeness_4 : decode cX6_likeness 4 = .ok (.ifCond .ne 7, 3) := by decide +kernel
theorem dX6_likeness_7 : decode cX6_likeness 7 = .ok (.ldc2_w 108, 3) := by decide +kernel
theorem dX6_likeness_10 : decode cX6_likeness 10 = .ok (.lreturn, 1) := by decide +kernel
theorem dX6_likeness_11 : decode cX6_likeness 11 = .ok (.aload_n 0, 1) := by decide +kernel
theorem dX6_likeness_12 : decode cX6_likeness 12 = .ok (.invokevirtual 110, 3) := by decide +kernel
theorem dX6_likeness_15 : decode cX6_likeness 15 = .ok (.aload_n 0, 1) := by decide +kernel
theorem dX6_likeness_16 : decode cX6_likeness 16 = .ok (.iload_n 1, 1) := by decide +kernel
theorem dX6_likeness_17 : decode cX6_likeness 17 = .ok (.invokevirtual 113, 3) := by decide +kernel
theorem dX6_likeness_20 : decode cX6_likeness 20 = .ok (.lreturn, 1) := by decide +kernel
theorem dX6_thinks_0 : decode cX6_thinks 0 = .ok (.iload_n 1, 1) := by decide +kernel
theorem dX6_thinks_1 : decode cX6_thinks 1 = .ok (.invokestatic 92, 3) := by decide +kernel
theorem dX6_thinks_4 : decode cX6_thinks 4 = .ok (.ifCond .ne 7, 3) := by decide +kernel
theorem dX6_thinks_7 : decode cX6_thinks 7 = .ok (.ldc2_w 117, 3) := by decide +kernel
theorem dX6_thinks_10 : decode cX6_thinks 10 = .ok (.lreturn, 1) := by decide +kernel
theorem dX6_thinks_11 : decode cX6_thinks 11 = .ok (.iload_n 2, 1) := by decide +kernel
theorem dX6_thinks_12 : decode cX6_thinks 12 = .ok (.invokestatic 119, 3) := by decide +kernel
theorem dX6_thinks_15 : decode cX6_thinks 15 = .ok (.ifCond .ne 7, 3) := by decide +kernel
theorem dX6_thinks_18 : decode cX6_thinks 18 = .ok (.ldc2_w 122, 3) := by decide +kernel
theorem dX6_thinks_21 : decode cX6_thinks 21 = .ok (.lreturn, 1) := by decide +kernel
theorem dX6_thinks_22 : decode cX6_thinks 22 = .ok (.aload_n 0, 1) := by decide +kernel
theorem dX6_thinks_23 : decode cX6_thinks 23 = .ok (.invokevirtual 110, 3) := by decide +kernel
theorem dX6_thinks_26 : decode cX6_thinks 26 = .ok (.lconst 0, 1) := by decide +kernel
theorem dX6_thinks_27 : decode cX6_thinks 27 = .ok (.lstore_n 3, 1) := by decide +kernel
theorem dX6_thinks_28 : decode cX6_thinks 28 = .ok (.iconst 0, 1) := by decide +kernel
theorem dX6_thinks_29 : decode cX6_thinks 29 = .ok (.istore 5, 2) := by decide +kernel
theorem dX6_thinks_31 : decode cX6_thinks 31 = .ok (.iload 5, 2) := by decide +kernel
theorem dX6_thinks_33 : decode cX6_thinks 33 = .ok (.bipush 8, 2) := by decide +kernel
theorem dX6_thinks_35 : decode cX6_thinks 35 = .ok (.if_icmp .ge 18, 3) := by decide +kernel
theorem dX6_thinks_38 : decode cX6_thinks 38 = .ok (.lload_n 3, 1) := by decide +kernel
theorem dX6_thinks_39 : decode cX6_thinks 39 = .ok (.aload_n 0, 1) := by decide +kernel
theorem dX6_thinks_40 : decode cX6_thinks 40 = .ok (.iload 5, 2) := by decide +kernel
theorem dX6_thinks_42 : decode cX6_thinks 42 = .ok (.invokevirtual 113, 3) := by decide +kernel
theorem dX6_thinks_45 : decode cX6_thinks 45 = .ok (.ladd, 1) := by decide +kernel
theorem dX6_thinks_46 : decode cX6_thinks 46 = .ok (.lstore_n 3, 1) := by decide +kernel
theorem dX6_thinks_47 : decode cX6_thinks 47 = .ok (.iinc 5 1, 3) := by decide +kernel
theorem dX6_thinks_50 : decode cX6_thinks 50 = .ok (.goto (-19), 3) := by decide +kernel
theorem dX6_thinks_53 : decode cX6_thinks 53 = .ok (.aload_n 0, 1) := by decide +kernel
theorem dX6_thinks_54 : decode cX6_thinks 54 = .ok (.iload_n 1, 1) := by decide +kernel
theorem dX6_thinks_55 : decode cX6_thinks 55 = .ok (.invokevirtual 113, 3) := by decide +kernel
theorem dX6_thinks_58 : decode cX6_thinks 58 = .ok (.lload_n 3, 1) := by decide +kernel
theorem dX6_thinks_59 : decode cX6_thinks 59 = .ok (.iload_n 2, 1) := by decide +kernel
theorem dX6_thinks_60 : decode cX6_thinks 60 = .ok (.invokestatic 124, 3) := by decide +kernel
theorem dX6_thinks_63 : decode cX6_thinks 63 = .ok (.lreturn, 1) := by decide +kernel
theorem dX6_hasAll_0 : decode cX6_hasAll 0 = .ok (.iconst 1, 1) := by decide +kernel
theorem dX6_hasAll_1 : decode cX6_hasAll 1 = .ok (.istore_n 2, 1) := by decide +kernel
theorem dX6_hasAll_2 : decode cX6_hasAll 2 = .ok (.iconst 0, 1) := by decide +kernel
theorem dX6_hasAll_3 : decode cX6_hasAll 3 = .ok (.istore_n 3, 1) := by decide +kernel
theorem dX6_hasAll_4 : decode cX6_hasAll 4 = .ok (.iload_n 3, 1) := by decide +kernel
theorem dX6_hasAll_5 : decode cX6_hasAll 5 = .ok (.aload_n 0, 1) := by decide +kernel
theorem dX6_hasAll_6 : decode cX6_hasAll 6 = .ok (.getfield 101, 3) := by decide +kernel
theorem dX6_hasAll_9 : decode cX6_hasAll 9 = .ok (.if_icmp .ge 32, 3) := by decide +kernel
theorem dX6_hasAll_12 : decode cX6_hasAll 12 = .ok (.iload_n 2, 1) := by decide +kernel
theorem dX6_hasAll_13 : decode cX6_hasAll 13 = .ok (.ifCond .eq 20, 3) := by decide +kernel
theorem dX6_hasAll_16 : decode cX6_hasAll 16 = .ok (.iload_n 1, 1) := by decide +kernel
theorem dX6_hasAll_17 : decode cX6_hasAll 17 = .ok (.aload_n 0, 1) := by decide +kernel
theorem dX6_hasAll_18 : decode cX6_hasAll 18 = .ok (.getfield 22, 3) := by decide +kernel
theorem dX6_hasAll_21 : decode cX6_hasAll 21 = .ok (.iload_n 3, 1) := by decide +kernel
theorem dX6_hasAll_22 : decode cX6_hasAll 22 = .ok (.iaload, 1) := by decide +kernel
theorem dX6_hasAll_23 : decode cX6_hasAll 23 = .ok (.invokestatic 104, 3) := by decide +kernel
theorem dX6_hasAll_26 : decode cX6_hasAll 26 = .ok (.ifCond .eq 7, 3) := by decide +kernel
theorem dX6_hasAll_29 : decode cX6_hasAll 29 = .ok (.iconst 1, 1) := by decide +kernel
theorem dX6_hasAll_30 : decode cX6_hasAll 30 = .ok (.goto 4, 3) := by decide +kernel
theorem dX6_hasAll_33 : decode cX6_hasAll 33 = .ok (.iconst 0, 1) := by decide +kernel
theorem dX6_hasAll_34 : decode cX6_hasAll 34 = .ok (.istore_n 2, 1) := by decide +kernel
theorem dX6_hasAll_35 : decode cX6_hasAll 35 = .ok (.iinc 3 1, 3) := by decide +kernel
theorem dX6_hasAll_38 : decode cX6_hasAll 38 = .ok (.goto (-34), 3) := by decide +kernel
theorem dX6_hasAll_41 : decode cX6_hasAll 41 = .ok (.iload_n 2, 1) := by decide +kernel
theorem dX6_hasAll_42 : decode cX6_hasAll 42 = .ok (.ireturn, 1) := by decide +kernel
theorem dX6_taken_0 : decode cX6_taken 0 = .ok (.aload_n 0, 1) := by decide +kernel
theorem dX6_taken_1 : decode cX6_taken 1 = .ok (.getfield 65, 3) := by decide +kernel
theorem dX6_taken_4 : decode cX6_taken 4 = .ok (.iconst 1, 1) := by decide +kernel
theorem dX6_taken_5 : decode cX6_taken 5 = .ok (.if_icmp .ne 27, 3) := by decide +kernel
theorem dX6_taken_8 : decode cX6_taken 8 = .ok (.iconst 0, 1) := by decide +kernel
theorem dX6_taken_9 : decode cX6_taken 9 = .ok (.istore_n 1, 1) := by decide +kernel
theorem dX6_taken_10 : decode cX6_taken 10 = .ok (.iload_n 1, 1) := by decide +kernel
theorem dX6_taken_11 : decode cX6_taken 11 = .ok (.bipush 8, 2) := by decide +kernel
theorem dX6_taken_13 : decode cX6_taken 13 = .ok (.if_icmp .ge 19, 3) := by decide +kernel
theorem dX6_taken_16 : decode cX6_taken 16 = .ok (.aload_n 0, 1) := by decide +kernel
theorem dX6_taken_17 : decode cX6_taken 17 = .ok (.iload_n 1, 1) := by decide +kernel
theorem dX6_taken_18 : decode cX6_taken 18 = .ok (.invokevirtual 128, 3) := by decide +kernel
theorem dX6_taken_21 : decode cX6_taken 21 = .ok (.ifCond .eq 5, 3) := by decide +kernel
theorem dX6_taken_24 : decode cX6_taken 24 = .ok (.iload_n 1, 1) := by decide +kernel
theorem dX6_taken_25 : decode cX6_taken 25 = .ok (.ireturn, 1) := by decide +kernel
theorem dX6_taken_26 : decode cX6_taken 26 = .ok (.iinc 1 1, 3) := by decide +kernel
theorem dX6_taken_29 : decode cX6_taken 29 = .ok (.goto (-19), 3) := by decide +kernel
theorem dX6_taken_32 : decode cX6_taken 32 = .ok (.iconst 0, 1) := by decide +kernel
theorem dX6_taken_33 : decode cX6_taken 33 = .ok (.istore_n 1, 1) := by decide +kernel
theorem dX6_taken_34 : decode cX6_taken 34 = .ok (.aload_n 0, 1) := by decide +kernel
theorem dX6_taken_35 : decode cX6_taken 35 = .ok (.iconst 0, 1) := by decide +kernel
theorem dX6_taken_36 : decode cX6_taken 36 = .ok (.invokevirtual 113, 3) := by decide +kernel
theorem dX6_taken_39 : decode cX6_taken 39 = .ok (.lstore_n 2, 1) := by decide +kernel
theorem dX6_taken_40 : decode cX6_taken 40 = .ok (.iconst 1, 1) := by decide +kernel
theorem dX6_taken_41 : decode cX6_taken 41 = .ok (.istore 4, 2) := by decide +kernel
theorem dX6_taken_43 : decode cX6_taken 43 = .ok (.iload 4, 2) := by decide +kernel
theorem dX6_taken_45 : decode cX6_taken 45 = .ok (.bipush 8, 2) := by decide +kernel
theorem dX6_taken_47 : decode cX6_taken 47 = .ok (.if_icmp .ge 57, 3) := by decide +kernel
theorem dX6_taken_50 : decode cX6_taken 50 = .ok (.aload_n 0, 1) := by decide +kernel
theorem dX6_taken_51 : decode cX6_taken 51 = .ok (.iload 4, 2) := by decide +kernel
theorem dX6_taken_53 : decode cX6_taken 53 = .ok (.invokevirtual 113, 3) := by decide +kernel
theorem dX6_taken_56 : decode cX6_taken 56 = .ok (.lstore 5, 2) := by decide +kernel
theorem dX6_taken_58 : decode cX6_taken 58 = .ok (.lload 5, 2) := by decide +kernel
theorem dX6_taken_60 : decode cX6_taken 60 = .ok (.lload_n 2, 1) := by decide +kernel
theorem dX6_taken_61 : decode cX6_taken 61 = .ok (.lcmp, 1) := by decide +kernel
theorem dX6_taken_62 : decode cX6_taken 62 = .ok (.ifCond .gt 30, 3) := by decide +kernel
theorem dX6_taken_65 : decode cX6_taken 65 = .ok (.lload 5, 2) := by decide +kernel
theorem dX6_taken_67 : decode cX6_taken 67 = .ok (.lload_n 2, 1) := by decide +kernel
theorem dX6_taken_68 : decode cX6_taken 68 = .ok (.lcmp, 1) := by decide +kernel
theorem dX6_taken_69 : decode cX6_taken 69 = .ok (.ifCond .ne 29, 3) := by decide +kernel
theorem dX6_taken_72 : decode cX6_taken 72 = .ok (.aload_n 0, 1) := by decide +kernel
theorem dX6_taken_73 : decode cX6_taken 73 = .ok (.getfield 65, 3) := by decide +kernel
theorem dX6_taken_76 : decode cX6_taken 76 = .ok (.iconst 2, 1) := by decide +kernel
theorem dX6_taken_77 : decode cX6_taken 77 = .ok (.if_icmp .ne 21, 3) := by decide +kernel
theorem dX6_taken_80 : decode cX6_taken 80 = .ok (.iload 4, 2) := by decide +kernel
theorem dX6_taken_82 : decode cX6_taken 82 = .ok (.invokestatic 131, 3) := by decide +kernel
theorem dX6_taken_85 : decode cX6_taken 85 = .ok (.iload_n 1, 1) := by decide +kernel
theorem dX6_taken_86 : decode cX6_taken 86 = .ok (.invokestatic 131, 3) := by decide +kernel
theorem dX6_taken_89 : decode cX6_taken 89 = .ok (.if_icmp .ge 9, 3) := by decide +kernel
theorem dX6_taken_92 : decode cX6_taken 92 = .ok (.lload 5, 2) := by decide +kernel
theorem dX6_taken_94 : decode cX6_taken 94 = .ok (.lstore_n 2, 1) := by decide +kernel
theorem dX6_taken_95 : decode cX6_taken 95 = .ok (.iload 4, 2) := by decide +kernel
theorem dX6_taken_97 : decode cX6_taken 97 = .ok (.istore_n 1, 1) := by decide +kernel
theorem dX6_taken_98 : decode cX6_taken 98 = .ok (.iinc 4 1, 3) := by decide +kernel
theorem dX6_taken_101 : decode cX6_taken 101 = .ok (.goto (-58), 3) := by decide +kernel
theorem dX6_taken_104 : decode cX6_taken 104 = .ok (.iload_n 1, 1) := by decide +kernel
theorem dX6_taken_105 : decode cX6_taken 105 = .ok (.ireturn, 1) := by decide +kernel
theorem dX6_takes_0 : decode cX6_takes 0 = .ok (.aload_n 0, 1) := by decide +kernel
theorem dX6_takes_1 : decode cX6_takes 1 = .ok (.invokevirtual 110, 3) := by decide +kernel
theorem dX6_takes_4 : decode cX6_takes 4 = .ok (.aload_n 0, 1) := by decide +kernel
theorem dX6_takes_5 : decode cX6_takes 5 = .ok (.invokevirtual 134, 3) := by decide +kernel
theorem dX6_takes_8 : decode cX6_takes 8 = .ok (.ireturn, 1) := by decide +kernel
theorem dX6_lowerOf_0 : decode cX6_lowerOf 0 = .ok (.ldc2_w 137, 3) := by decide +kernel
theorem dX6_lowerOf_3 : decode cX6_lowerOf 3 = .ok (.aload_n 0, 1) := by decide +kernel
theorem dX6_lowerOf_4 : decode cX6_lowerOf 4 = .ok (.getfield 7, 3) := by decide +kernel
theorem dX6_lowerOf_7 : decode cX6_lowerOf 7 = .ok (.iconst 0, 1) := by decide +kernel
theorem dX6_lowerOf_8 : decode cX6_lowerOf 8 = .ok (.iaload, 1) := by decide +kernel
theorem dX6_lowerOf_9 : decode cX6_lowerOf 9 = .ok (.aload_n 0, 1) := by decide +kernel
theorem dX6_lowerOf_10 : decode cX6_lowerOf 10 = .ok (.getfield 7, 3) := by decide +kernel
theorem dX6_lowerOf_13 : decode cX6_lowerOf 13 = .ok (.iconst 1, 1) := by decide +kernel
theorem dX6_lowerOf_14 : decode cX6_lowerOf 14 = .ok (.iaload, 1) := by decide +kernel
theorem dX6_lowerOf_15 : decode cX6_lowerOf 15 = .ok (.iadd, 1) := by decide +kernel
theorem dX6_lowerOf_16 : decode cX6_lowerOf 16 = .ok (.aload_n 0, 1) := by decide +kernel
theorem dX6_lowerOf_17 : decode cX6_lowerOf 17 = .ok (.getfield 7, 3) := by decide +kernel
theorem dX6_lowerOf_20 : decode cX6_lowerOf 20 = .ok (.iconst 2, 1) := by decide +kernel
theorem dX6_lowerOf_21 : decode cX6_lowerOf 21 = .ok (.iaload, 1) := by decide +kernel
theorem dX6_lowerOf_22 : decode cX6_lowerOf 22 = .ok (.iadd, 1) := by decide +kernel
theorem dX6_lowerOf_23 : decode cX6_lowerOf 23 = .ok (.i2l, 1) := by decide +kernel
theorem dX6_lowerOf_24 : decode cX6_lowerOf 24 = .ok (.lmul, 1) := by decide +kernel
theorem dX6_lowerOf_25 : decode cX6_lowerOf 25 = .ok (.lstore_n 1, 1) := by decide +kernel
theorem dX6_lowerOf_26 : decode cX6_lowerOf 26 = .ok (.lconst 1, 1) := by decide +kernel
theorem dX6_lowerOf_27 : decode cX6_lowerOf 27 = .ok (.lstore_n 3, 1) := by decide +kernel
theorem dX6_lowerOf_28 : decode cX6_lowerOf 28 = .ok (.iconst 0, 1) := by decide +kernel
theorem dX6_lowerOf_29 : decode cX6_lowerOf 29 = .ok (.istore 5, 2) := by decide +kernel
theorem dX6_lowerOf_31 : decode cX6_lowerOf 31 = .ok (.iload 5, 2) := by decide +kernel
theorem dX6_lowerOf_33 : decode cX6_lowerOf 33 = .ok (.aload_n 0, 1) := by decide +kernel
theorem dX6_lowerOf_34 : decode cX6_lowerOf 34 = .ok (.getfield 48, 3) := by decide +kernel
theorem dX6_lowerOf_37 : decode cX6_lowerOf 37 = .ok (.if_icmp .ge 13, 3) := by decide +kernel
theorem dX6_lowerOf_40 : decode cX6_lowerOf 40 = .ok (.lload_n 3, 1) := by decide +kernel
theorem dX6_lowerOf_41 : decode cX6_lowerOf 41 = .ok (.lload_n 1, 1) := by decide +kernel
theorem dX6_lowerOf_42 : decode cX6_lowerOf 42 = .ok (.lmul, 1) := by decide +kernel
theorem dX6_lowerOf_43 : decode cX6_lowerOf 43 = .ok (.lstore_n 3, 1) := by decide +kernel
theorem dX6_lowerOf_44 : decode cX6_lowerOf 44 = .ok (.iinc 5 1, 3) := by decide +kernel
theorem dX6_lowerOf_47 : decode cX6_lowerOf 47 = .ok (.goto (-16), 3) := by decide +kernel
theorem dX6_lowerOf_50 : decode cX6_lowerOf 50 = .ok (.lload_n 3, 1) := by decide +kernel
theorem dX6_lowerOf_51 : decode cX6_lowerOf 51 = .ok (.lreturn, 1) := by decide +kernel
theorem dX6_oddsOf_0 : decode cX6_oddsOf 0 = .ok (.aload_n 0, 1) := by decide +kernel
theorem dX6_oddsOf_1 : decode cX6_oddsOf 1 = .ok (.getfield 7, 3) := by decide +kernel
theorem dX6_oddsOf_4 : decode cX6_oddsOf 4 = .ok (.iload_n 2, 1) := by decide +kernel
theorem dX6_oddsOf_5 : decode cX6_oddsOf 5 = .ok (.iconst 2, 1) := by decide +kernel
theorem dX6_oddsOf_6 : decode cX6_oddsOf 6 = .ok (.idiv, 1) := by decide +kernel
theorem dX6_oddsOf_7 : decode cX6_oddsOf 7 = .ok (.iaload, 1) := by decide +kernel
theorem dX6_oddsOf_8 : decode cX6_oddsOf 8 = .ok (.i2l, 1) := by decide +kernel
theorem dX6_oddsOf_9 : decode cX6_oddsOf 9 = .ok (.iload_n 1, 1) := by decide +kernel
theorem dX6_oddsOf_10 : decode cX6_oddsOf 10 = .ok (.iload_n 2, 1) := by decide +kernel
theorem dX6_oddsOf_11 : decode cX6_oddsOf 11 = .ok (.invokestatic 104, 3) := by decide +kernel
theorem dX6_oddsOf_14 : decode cX6_oddsOf 14 = .ok (.ifCond .eq 15, 3) := by decide +kernel
theorem dX6_oddsOf_17 : decode cX6_oddsOf 17 = .ok (.ldc2_w 137, 3) := by decide +kernel
theorem dX6_oddsOf_20 : decode cX6_oddsOf 20 = .ok (.aload_n 0, 1) := by decide +kernel
theorem dX6_oddsOf_21 : decode cX6_oddsOf 21 = .ok (.getfield 44, 3) := by decide +kernel
theorem dX6_oddsOf_24 : decode cX6_oddsOf 24 = .ok (.i2l, 1) := by decide +kernel
theorem dX6_oddsOf_25 : decode cX6_oddsOf 25 = .ok (.lsub, 1) := by decide +kernel
theorem dX6_oddsOf_26 : decode cX6_oddsOf 26 = .ok (.goto 8, 3) := by decide +kernel
theorem dX6_oddsOf_29 : decode cX6_oddsOf 29 = .ok (.aload_n 0, 1) := by decide +kernel
theorem dX6_oddsOf_30 : decode cX6_oddsOf 30 = .ok (.getfield 44, 3) := by decide +kernel
theorem dX6_oddsOf_33 : decode cX6_oddsOf 33 = .ok (.i2l, 1) := by decide +kernel
theorem dX6_oddsOf_34 : decode cX6_oddsOf 34 = .ok (.lmul, 1) := by decide +kernel
theorem dX6_oddsOf_35 : decode cX6_oddsOf 35 = .ok (.lreturn, 1) := by decide +kernel
theorem dX6_findSteps_0 : decode cX6_findSteps 0 = .ok (.aload_n 0, 1) := by decide +kernel
theorem dX6_findSteps_1 : decode cX6_findSteps 1 = .ok (.aload_n 0, 1) := by decide +kernel
theorem dX6_findSteps_2 : decode cX6_findSteps 2 = .ok (.invokevirtual 139, 3) := by decide +kernel
theorem dX6_findSteps_5 : decode cX6_findSteps 5 = .ok (.putfield 143, 3) := by decide +kernel
theorem dX6_findSteps_8 : decode cX6_findSteps 8 = .ok (.iconst 0, 1) := by decide +kernel
theorem dX6_findSteps_9 : decode cX6_findSteps 9 = .ok (.istore_n 3, 1) := by decide +kernel
theorem dX6_findSteps_10 : decode cX6_findSteps 10 = .ok (.iload_n 3, 1) := by decide +kernel
theorem dX6_findSteps_11 : decode cX6_findSteps 11 = .ok (.bipush 64, 2) := by decide +kernel
theorem dX6_findSteps_13 : decode cX6_findSteps 13 = .ok (.if_icmp .ge 16, 3) := by decide +kernel
theorem dX6_findSteps_16 : decode cX6_findSteps 16 = .ok (.aload_n 0, 1) := by decide +kernel
theorem dX6_findSteps_17 : decode cX6_findSteps 17 = .ok (.getfield 25, 3) := by decide +kernel
theorem dX6_findSteps_20 : decode cX6_findSteps 20 = .ok (.iload_n 3, 1) := by decide +kernel
theorem dX6_findSteps_21 : decode cX6_findSteps 21 = .ok (.lconst 0, 1) := by decide +kernel
theorem dX6_findSteps_22 : decode cX6_findSteps 22 = .ok (.lastore, 1) := by decide +kernel
theorem dX6_findSteps_23 : decode cX6_findSteps 23 = .ok (.iinc 3 1, 3) := by decide +kernel
theorem dX6_findSteps_26 : decode cX6_findSteps 26 = .ok (.goto (-16), 3) := by decide +kernel
theorem dX6_findSteps_29 : decode cX6_findSteps 29 = .ok (.iconst 1, 1) := by decide +kernel
theorem dX6_findSteps_30 : decode cX6_findSteps 30 = .ok (.istore_n 3, 1) := by decide +kernel
theorem dX6_findSteps_31 : decode cX6_findSteps 31 = .ok (.iconst 0, 1) := by decide +kernel
theorem dX6_findSteps_32 : decode cX6_findSteps 32 = .ok (.istore 4, 2) := by decide +kernel
theorem dX6_findSteps_34 : decode cX6_findSteps 34 = .ok (.iload 4, 2) := by decide +kernel
theorem dX6_findSteps_36 : decode cX6_findSteps 36 = .ok (.aload_n 0, 1) := by decide +kernel
theorem dX6_findSteps_37 : decode cX6_findSteps 37 = .ok (.getfield 48, 3) := by decide +kernel
theorem dX6_findSteps_40 : decode cX6_findSteps 40 = .ok (.if_icmp .ge 14, 3) := by decide +kernel
theorem dX6_findSteps_43 : decode cX6_findSteps 43 = .ok (.iload_n 3, 1) := by decide +kernel
theorem dX6_findSteps_44 : decode cX6_findSteps 44 = .ok (.bipush 6, 2) := by decide +kernel
theorem dX6_findSteps_46 : decode cX6_findSteps 46 = .ok (.imul, 1) := by decide +kernel
theorem dX6_findSteps_47 : decode cX6_findSteps 47 = .ok (.istore_n 3, 1) := by decide +kernel
theorem dX6_findSteps_48 : decode cX6_findSteps 48 = .ok (.iinc 4 1, 3) := by decide +kernel
theorem dX6_findSteps_51 : decode cX6_findSteps 51 = .ok (.goto (-17), 3) := by decide +kernel
theorem dX6_findSteps_54 : decode cX6_findSteps 54 = .ok (.aload_n 0, 1) := by decide +kernel
theorem dX6_findSteps_55 : decode cX6_findSteps 55 = .ok (.aload_n 0, 1) := by decide +kernel
theorem dX6_findSteps_56 : decode cX6_findSteps 56 = .ok (.getfield 48, 3) := by decide +kernel
theorem dX6_findSteps_59 : decode cX6_findSteps 59 = .ok (.putfield 101, 3) := by decide +kernel
theorem dX6_findSteps_62 : decode cX6_findSteps 62 = .ok (.iconst 0, 1) := by decide +kernel
theorem dX6_findSteps_63 : decode cX6_findSteps 63 = .ok (.istore 4, 2) := by decide +kernel
theorem dX6_findSteps_65 : decode cX6_findSteps 65 = .ok (.iload 4, 2) := by decide +kernel
theorem dX6_findSteps_67 : decode cX6_findSteps 67 = .ok (.iload_n 3, 1) := by decide +kernel
theorem dX6_findSteps_68 : decode cX6_findSteps 68 = .ok (.if_icmp .ge 140, 3) := by decide +kernel
theorem dX6_findSteps_71 : decode cX6_findSteps 71 = .ok (.iload 4, 2) := by decide +kernel
theorem dX6_findSteps_73 : decode cX6_findSteps 73 = .ok (.istore 5, 2) := by decide +kernel
theorem dX6_findSteps_75 : decode cX6_findSteps 75 = .ok (.aload_n 0, 1) := by decide +kernel
theorem dX6_findSteps_76 : decode cX6_findSteps 76 = .ok (.getfield 48, 3) := by decide +kernel
theorem dX6_findSteps_79 : decode cX6_findSteps 79 = .ok (.iconst 1, 1) := by decide +kernel
theorem dX6_findSteps_80 : decode cX6_findSteps 80 = .ok (.isub, 1) := by decide +kernel
theorem dX6_findSteps_81 : decode cX6_findSteps 81 = .ok (.istore 6, 2) := by decide +kernel
theorem dX6_findSteps_83 : decode cX6_findSteps 83 = .ok (.iload 6, 2) := by decide +kernel
theorem dX6_findSteps_85 : decode cX6_findSteps 85 = .ok (.ifCond .lt 28, 3) := by decide +kernel
theorem dX6_findSteps_88 : decode cX6_findSteps 88 = .ok (.aload_n 0, 1) := by decide +kernel
theorem dX6_findSteps_89 : decode cX6_findSteps 89 = .ok (.getfield 22, 3) := by decide +kernel
theorem dX6_findSteps_92 : decode cX6_findSteps 92 = .ok (.iload 6, 2) := by decide +kernel
theorem dX6_findSteps_94 : decode cX6_findSteps 94 = .ok (.iload 5, 2) := by decide +kernel
theorem dX6_findSteps_96 : decode cX6_findSteps 96 = .ok (.bipush 6, 2) := by decide +kernel
theorem dX6_findSteps_98 : decode cX6_findSteps 98 = .ok (.irem, 1) := by decide +kernel
theorem dX6_findSteps_99 : decode cX6_findSteps 99 = .ok (.iastore, 1) := by decide +kernel
theorem dX6_findSteps_100 : decode cX6_findSteps 100 = .ok (.iload 5, 2) := by decide +kernel
theorem dX6_findSteps_102 : decode cX6_findSteps 102 = .ok (.bipush 6, 2) := by decide +kernel
theorem dX6_findSteps_104 : decode cX6_findSteps 104 = .ok (.idiv, 1) := by decide +kernel
theorem dX6_findSteps_105 : decode cX6_findSteps 105 = .ok (.istore 5, 2) := by decide +kernel
theorem dX6_findSteps_107 : decode cX6_findSteps 107 = .ok (.iinc 6 (-1), 3) := by decide +kernel
theorem dX6_findSteps_110 : decode cX6_findSteps 110 = .ok (.goto (-27), 3) := by decide +kernel
theorem dX6_findSteps_113 : decode cX6_findSteps 113 = .ok (.aload_n 0, 1) := by decide +kernel
theorem dX6_findSteps_114 : decode cX6_findSteps 114 = .ok (.invokevirtual 134, 3) := by decide +kernel
theorem dX6_findSteps_117 : decode cX6_findSteps 117 = .ok (.istore 6, 2) := by decide +kernel
theorem dX6_findSteps_119 : decode cX6_findSteps 119 = .ok (.iconst 0, 1) := by decide +kernel
theorem dX6_findSteps_120 : decode cX6_findSteps 120 = .ok (.istore 7, 2) := by decide +kernel
theorem dX6_findSteps_122 : decode cX6_findSteps 122 = .ok (.iload 7, 2) := by decide +kernel
theorem dX6_findSteps_124 : decode cX6_findSteps 124 = .ok (.bipush 8, 2) := by decide +kernel
theorem dX6_findSteps_126 : decode cX6_findSteps 126 = .ok (.if_icmp .ge 76, 3) := by decide +kernel
theorem dX6_findSteps_129 : decode cX6_findSteps 129 = .ok (.lconst 1, 1) := by decide +kernel
theorem dX6_findSteps_130 : decode cX6_findSteps 130 = .ok (.lstore 8, 2) := by decide +kernel
theorem dX6_findSteps_132 : decode cX6_findSteps 132 = .ok (.iconst 0, 1) := by decide +kernel
theorem dX6_findSteps_133 : decode cX6_findSteps 133 = .ok (.istore 10, 2) := by decide +kernel
theorem dX6_findSteps_135 : decode cX6_findSteps 135 = .ok (.iload 10, 2) := by decide +kernel
theorem dX6_findSteps_137 : decode cX6_findSteps 137 = .ok (.aload_n 0, 1) := by decide +kernel
theorem dX6_findSteps_138 : decode cX6_findSteps 138 = .ok (.getfield 48, 3) := by decide +kernel
theorem dX6_findSteps_141 : decode cX6_findSteps 141 = .ok (.if_icmp .ge 37, 3) := by decide +kernel
theorem dX6_findSteps_144 : decode cX6_findSteps 144 = .ok (.lload 8, 2) := by decide +kernel
theorem dX6_findSteps_146 : decode cX6_findSteps 146 = .ok (.aload_n 0, 1) := by decide +kernel
theorem dX6_findSteps_147 : decode cX6_findSteps 147 = .ok (.iload 10, 2) := by decide +kernel
theorem dX6_findSteps_149 : decode cX6_findSteps 149 = .ok (.iload_n 2, 1) := by decide +kernel
theorem dX6_findSteps_150 : decode cX6_findSteps 150 = .ok (.if_icmp .ge 7, 3) := by decide +kernel
theorem dX6_findSteps_153 : decode cX6_findSteps 153 = .ok (.iload_n 1, 1) := by decide +kernel
theorem dX6_findSteps_154 : decode cX6_findSteps 154 = .ok (.goto 5, 3) := by decide +kernel
theorem dX6_findSteps_157 : decode cX6_findSteps 157 = .ok (.iload 7, 2) := by decide +kernel
theorem dX6_findSteps_159 : decode cX6_findSteps 159 = .ok (.aload_n 0, 1) := by decide +kernel
theorem dX6_findSteps_160 : decode cX6_findSteps 160 = .ok (.getfield 22, 3) := by decide +kernel
theorem dX6_findSteps_163 : decode cX6_findSteps 163 = .ok (.iload 10, 2) := by decide +kernel
theorem dX6_findSteps_165 : decode cX6_findSteps 165 = .ok (.iaload, 1) := by decide +kernel
theorem dX6_findSteps_166 : decode cX6_findSteps 166 = .ok (.invokevirtual 147, 3) := by decide +kernel
theorem dX6_findSteps_169 : decode cX6_findSteps 169 = .ok (.lmul, 1) := by decide +kernel
theorem dX6_findSteps_170 : decode cX6_findSteps 170 = .ok (.lstore 8, 2) := by decide +kernel
theorem dX6_findSteps_172 : decode cX6_findSteps 172 = .ok (.iinc 10 1, 3) := by decide +kernel
theorem dX6_findSteps_175 : decode cX6_findSteps 175 = .ok (.goto (-40), 3) := by decide +kernel
theorem dX6_findSteps_178 : decode cX6_findSteps 178 = .ok (.aload_n 0, 1) := by decide +kernel
theorem dX6_findSteps_179 : decode cX6_findSteps 179 = .ok (.getfield 25, 3) := by decide +kernel
theorem dX6_findSteps_182 : decode cX6_findSteps 182 = .ok (.bipush 8, 2) := by decide +kernel
theorem dX6_findSteps_184 : decode cX6_findSteps 184 = .ok (.iload 7, 2) := by decide +kernel
theorem dX6_findSteps_186 : decode cX6_findSteps 186 = .ok (.imul, 1) := by decide +kernel
theorem dX6_findSteps_187 : decode cX6_findSteps 187 = .ok (.iload 6, 2) := by decide +kernel
theorem dX6_findSteps_189 : decode cX6_findSteps 189 = .ok (.iadd, 1) := by decide +kernel
theorem dX6_findSteps_190 : decode cX6_findSteps 190 = .ok (.dup2, 1) := by decide +kernel
theorem dX6_findSteps_191 : decode cX6_findSteps 191 = .ok (.laload, 1) := by decide +kernel
theorem dX6_findSteps_192 : decode cX6_findSteps 192 = .ok (.lload 8, 2) := by decide +kernel
theorem dX6_findSteps_194 : decode cX6_findSteps 194 = .ok (.ladd, 1) := by decide +kernel
theorem dX6_findSteps_195 : decode cX6_findSteps 195 = .ok (.lastore, 1) := by decide +kernel
theorem dX6_findSteps_196 : decode cX6_findSteps 196 = .ok (.iinc 7 1, 3) := by decide +kernel
theorem dX6_findSteps_199 : decode cX6_findSteps 199 = .ok (.goto (-77), 3) := by decide +kernel
theorem dX6_findSteps_202 : decode cX6_findSteps 202 = .ok (.iinc 4 1, 3) := by decide +kernel
theorem dX6_findSteps_205 : decode cX6_findSteps 205 = .ok (.goto (-140), 3) := by decide +kernel
theorem dX6_findSteps_208 : decode cX6_findSteps 208 = .ok (.return_, 1) := by decide +kernel
theorem dX6_step_0 : decode cX6_step 0 = .ok (.aload_n 0, 1) := by decide +kernel
theorem dX6_step_1 : decode cX6_step 1 = .ok (.iconst 0, 1) := by decide +kernel
theorem dX6_step_2 : decode cX6_step 2 = .ok (.iconst 0, 1) := by decide +kernel
theorem dX6_step_3 : decode cX6_step 3 = .ok (.iload_n 1, 1) := by decide +kernel
theorem dX6_step_4 : decode cX6_step 4 = .ok (.iload_n 2, 1) := by decide +kernel
theorem dX6_step_5 : decode cX6_step 5 = .ok (.iload_n 3, 1) := by decide +kernel
theorem dX6_step_6 : decode cX6_step 6 = .ok (.invokevirtual 151, 3) := by decide +kernel
theorem dX6_step_9 : decode cX6_step 9 = .ok (.lreturn, 1) := by decide +kernel
theorem dX6_book_0 : decode cX6_book 0 = .ok (.iload_n 1, 1) := by decide +kernel
theorem dX6_book_1 : decode cX6_book 1 = .ok (.invokestatic 92, 3) := by decide +kernel
theorem dX6_book_4 : decode cX6_book 4 = .ok (.ifCond .eq 18, 3) := by decide +kernel
theorem dX6_book_7 : decode cX6_book 7 = .ok (.iload_n 3, 1) := by decide +kernel
theorem dX6_book_8 : decode cX6_book 8 = .ok (.invokestatic 92, 3) := by decide +kernel
theorem dX6_book_11 : decode cX6_book 11 = .ok (.ifCond .eq 11, 3) := by decide +kernel
theorem dX6_book_14 : decode cX6_book 14 = .ok (.iload 4, 2) := by decide +kernel
theorem dX6_book_16 : decode cX6_book 16 = .ok (.invokestatic 92, 3) := by decide +kernel
theorem dX6_book_19 : decode cX6_book 19 = .ok (.ifCond .ne 7, 3) := by decide +kernel
theorem dX6_book_22 : decode cX6_book 22 = .ok (.ldc2_w 117, 3) := by decide +kernel
theorem dX6_book_25 : decode cX6_book 25 = .ok (.lreturn, 1) := by decide +kernel
theorem dX6_book_26 : decode cX6_book 26 = .ok (.iload_n 2, 1) := by decide +kernel
theorem dX6_book_27 : decode cX6_book 27 = .ok (.i2l, 1) := by decide +kernel
theorem dX6_book_28 : decode cX6_book 28 = .ok (.lconst 0, 1) := by decide +kernel
theorem dX6_book_29 : decode cX6_book 29 = .ok (.aload_n 0, 1) := by decide +kernel
theorem dX6_book_30 : decode cX6_book 30 = .ok (.getfield 48, 3) := by decide +kernel
theorem dX6_book_33 : decode cX6_book 33 = .ok (.i2l, 1) := by decide +kernel
theorem dX6_book_34 : decode cX6_book 34 = .ok (.invokestatic 53, 3) := by decide +kernel
theorem dX6_book_37 : decode cX6_book 37 = .ok (.ifCond .eq 11, 3) := by decide +kernel
theorem dX6_book_40 : decode cX6_book 40 = .ok (.iload 5, 2) := by decide +kernel
theorem dX6_book_42 : decode cX6_book 42 = .ok (.invokestatic 119, 3) := by decide +kernel
theorem dX6_book_45 : decode cX6_book 45 = .ok (.ifCond .ne 7, 3) := by decide +kernel
theorem dX6_book_48 : decode cX6_book 48 = .ok (.ldc2_w 122, 3) := by decide +kernel
theorem dX6_book_51 : decode cX6_book 51 = .ok (.lreturn, 1) := by decide +kernel
theorem dX6_book_52 : decode cX6_book 52 = .ok (.aload_n 0, 1) := by decide +kernel
theorem dX6_book_53 : decode cX6_book 53 = .ok (.iload_n 1, 1) := by decide +kernel
theorem dX6_book_54 : decode cX6_book 54 = .ok (.iload_n 2, 1) := by decide +kernel
theorem dX6_book_55 : decode cX6_book 55 = .ok (.invokevirtual 155, 3) := by decide +kernel
theorem dX6_book_58 : decode cX6_book 58 = .ok (.aload_n 0, 1) := by decide +kernel
theorem dX6_book_59 : decode cX6_book 59 = .ok (.getfield 25, 3) := by decide +kernel
theorem dX6_book_62 : decode cX6_book 62 = .ok (.bipush 8, 2) := by decide +kernel
theorem dX6_book_64 : decode cX6_book 64 = .ok (.iload_n 3, 1) := by decide +kernel
theorem dX6_book_65 : decode cX6_book 65 = .ok (.imul, 1) := by decide +kernel
theorem dX6_book_66 : decode cX6_book 66 = .ok (.iload 4, 2) := by decide +kernel
theorem dX6_book_68 : decode cX6_book 68 = .ok (.iadd, 1) := by decide +kernel
theorem dX6_book_69 : decode cX6_book 69 = .ok (.laload, 1) := by decide +kernel
theorem dX6_book_70 : decode cX6_book 70 = .ok (.aload_n 0, 1) := by decide +kernel
theorem dX6_book_71 : decode cX6_book 71 = .ok (.getfield 143, 3) := by decide +kernel
theorem dX6_book_74 : decode cX6_book 74 = .ok (.iload 5, 2) := by decide +kernel
theorem dX6_book_76 : decode cX6_book 76 = .ok (.invokestatic 124, 3) := by decide +kernel
theorem dX6_book_79 : decode cX6_book 79 = .ok (.lreturn, 1) := by decide +kernel
theorem dX6_live_0 : decode cX6_live 0 = .ok (.aload_n 0, 1) := by decide +kernel
theorem dX6_live_1 : decode cX6_live 1 = .ok (.lconst 1, 1) := by decide +kernel
theorem dX6_live_2 : decode cX6_live 2 = .ok (.putfield 159, 3) := by decide +kernel
theorem dX6_live_5 : decode cX6_live 5 = .ok (.iconst 0, 1) := by decide +kernel
theorem dX6_live_6 : decode cX6_live 6 = .ok (.istore_n 3, 1) := by decide +kernel
theorem dX6_live_7 : decode cX6_live 7 = .ok (.iload_n 3, 1) := by decide +kernel
theorem dX6_live_8 : decode cX6_live 8 = .ok (.bipush 8, 2) := by decide +kernel
theorem dX6_live_10 : decode cX6_live 10 = .ok (.if_icmp .ge 25, 3) := by decide +kernel
theorem dX6_live_13 : decode cX6_live 13 = .ok (.aload_n 0, 1) := by decide +kernel
theorem dX6_live_14 : decode cX6_live 14 = .ok (.getfield 29, 3) := by decide +kernel
theorem dX6_live_17 : decode cX6_live 17 = .ok (.iload_n 3, 1) := by decide +kernel
theorem dX6_live_18 : decode cX6_live 18 = .ok (.iload_n 3, 1) := by decide +kernel
theorem dX6_live_19 : decode cX6_live 19 = .ok (.iload_n 1, 1) := by decide +kernel
theorem dX6_live_20 : decode cX6_live 20 = .ok (.if_icmp .ne 7, 3) := by decide +kernel
theorem dX6_live_23 : decode cX6_live 23 = .ok (.lconst 1, 1) := by decide +kernel
theorem dX6_live_24 : decode cX6_live 24 = .ok (.goto 4, 3) := by decide +kernel
theorem dX6_live_27 : decode cX6_live 27 = .ok (.lconst 0, 1) := by decide +kernel
theorem dX6_live_28 : decode cX6_live 28 = .ok (.lastore, 1) := by decide +kernel
theorem dX6_live_29 : decode cX6_live 29 = .ok (.iinc 3 1, 3) := by decide +kernel
theorem dX6_live_32 : decode cX6_live 32 = .ok (.goto (-25), 3) := by decide +kernel
theorem dX6_live_35 : decode cX6_live 35 = .ok (.iconst 0, 1) := by decide +kernel
theorem dX6_live_36 : decode cX6_live 36 = .ok (.istore_n 3, 1) := by decide +kernel
theorem dX6_live_37 : decode cX6_live 37 = .ok (.iload_n 3, 1) := by decide +kernel
theorem dX6_live_38 : decode cX6_live 38 = .ok (.iload_n 2, 1) := by decide +kernel
theorem dX6_live_39 : decode cX6_live 39 = .ok (.if_icmp .ge 123, 3) := by decide +kernel
theorem dX6_live_42 : decode cX6_live 42 = .ok (.iconst 0, 1) := by decide +kernel
theorem dX6_live_43 : decode cX6_live 43 = .ok (.istore 4, 2) := by decide +kernel
theorem dX6_live_45 : decode cX6_live 45 = .ok (.iload 4, 2) := by decide +kernel
theorem dX6_live_47 : decode cX6_live 47 = .ok (.bipush 8, 2) := by decide +kernel
theorem dX6_live_49 : decode cX6_live 49 = .ok (.if_icmp .ge 64, 3) := by decide +kernel
theorem dX6_live_52 : decode cX6_live 52 = .ok (.aload_n 0, 1) := by decide +kernel
theorem dX6_live_53 : decode cX6_live 53 = .ok (.getfield 32, 3) := by decide +kernel
theorem dX6_live_56 : decode cX6_live 56 = .ok (.iload 4, 2) := by decide +kernel
theorem dX6_live_58 : decode cX6_live 58 = .ok (.lconst 0, 1) := by decide +kernel
theorem dX6_live_59 : decode cX6_live 59 = .ok (.lastore, 1) := by decide +kernel
theorem dX6_live_60 : decode cX6_live 60 = .ok (.iconst 0, 1) := by decide +kernel
theorem dX6_live_61 : decode cX6_live 61 = .ok (.istore 5, 2) := by decide +kernel
theorem dX6_live_63 : decode cX6_live 63 = .ok (.iload 5, 2) := by decide +kernel
theorem dX6_live_65 : decode cX6_live 65 = .ok (.bipush 8, 2) := by decide +kernel
theorem dX6_live_67 : decode cX6_live 67 = .ok (.if_icmp .ge 40, 3) := by decide +kernel
theorem dX6_live_70 : decode cX6_live 70 = .ok (.aload_n 0, 1) := by decide +kernel
theorem dX6_live_71 : decode cX6_live 71 = .ok (.getfield 32, 3) := by decide +kernel
theorem dX6_live_74 : decode cX6_live 74 = .ok (.iload 4, 2) := by decide +kernel
theorem dX6_live_76 : decode cX6_live 76 = .ok (.dup2, 1) := by decide +kernel
theorem dX6_live_77 : decode cX6_live 77 = .ok (.laload, 1) := by decide +kernel
theorem dX6_live_78 : decode cX6_live 78 = .ok (.aload_n 0, 1) := by decide +kernel
theorem dX6_live_79 : decode cX6_live 79 = .ok (.getfield 29, 3) := by decide +kernel
theorem dX6_live_82 : decode cX6_live 82 = .ok (.iload 5, 2) := by decide +kernel
theorem dX6_live_84 : decode cX6_live 84 = .ok (.laload, 1) := by decide +kernel
theorem dX6_live_85 : decode cX6_live 85 = .ok (.aload_n 0, 1) := by decide +kernel
theorem dX6_live_86 : decode cX6_live 86 = .ok (.getfield 25, 3) := by decide +kernel
theorem dX6_live_89 : decode cX6_live 89 = .ok (.bipush 8, 2) := by decide +kernel
theorem dX6_live_91 : decode cX6_live 91 = .ok (.iload 5, 2) := by decide +kernel
theorem dX6_live_93 : decode cX6_live 93 = .ok (.imul, 1) := by decide +kernel
theorem dX6_live_94 : decode cX6_live 94 = .ok (.iload 4, 2) := by decide +kernel
theorem dX6_live_96 : decode cX6_live 96 = .ok (.iadd, 1) := by decide +kernel
theorem dX6_live_97 : decode cX6_live 97 = .ok (.laload, 1) := by decide +kernel
theorem dX6_live_98 : decode cX6_live 98 = .ok (.lmul, 1) := by decide +kernel
theorem dX6_live_99 : decode cX6_live 99 = .ok (.ladd, 1) := by decide +kernel
theorem dX6_live_100 : decode cX6_live 100 = .ok (.lastore, 1) := by decide +kernel
theorem dX6_live_101 : decode cX6_live 101 = .ok (.iinc 5 1, 3) := by decide +kernel
theorem dX6_live_104 : decode cX6_live 104 = .ok (.goto (-41), 3) := by decide +kernel
theorem dX6_live_107 : decode cX6_live 107 = .ok (.iinc 4 1, 3) := by decide +kernel
theorem dX6_live_110 : decode cX6_live 110 = .ok (.goto (-65), 3) := by decide +kernel
theorem dX6_live_113 : decode cX6_live 113 = .ok (.iconst 0, 1) := by decide +kernel
theorem dX6_live_114 : decode cX6_live 114 = .ok (.istore 4, 2) := by decide +kernel
theorem dX6_live_116 : decode cX6_live 116 = .ok (.iload 4, 2) := by decide +kernel
theorem dX6_live_118 : decode cX6_live 118 = .ok (.bipush 8, 2) := by decide +kernel
theorem dX6_live_120 : decode cX6_live 120 = .ok (.if_icmp .ge 23, 3) := by decide +kernel
theorem dX6_live_123 : decode cX6_live 123 = .ok (.aload_n 0, 1) := by decide +kernel
theorem dX6_live_124 : decode cX6_live 124 = .ok (.getfield 29, 3) := by decide +kernel
theorem dX6_live_127 : decode cX6_live 127 = .ok (.iload 4, 2) := by decide +kernel
theorem dX6_live_129 : decode cX6_live 129 = .ok (.aload_n 0, 1) := by decide +kernel
theorem dX6_live_130 : decode cX6_live 130 = .ok (.getfield 32, 3) := by decide +kernel
theorem dX6_live_133 : decode cX6_live 133 = .ok (.iload 4, 2) := by decide +kernel
theorem dX6_live_135 : decode cX6_live 135 = .ok (.laload, 1) := by decide +kernel
theorem dX6_live_136 : decode cX6_live 136 = .ok (.lastore, 1) := by decide +kernel
theorem dX6_live_137 : decode cX6_live 137 = .ok (.iinc 4 1, 3) := by decide +kernel
theorem dX6_live_140 : decode cX6_live 140 = .ok (.goto (-24), 3) := by decide +kernel
theorem dX6_live_143 : decode cX6_live 143 = .ok (.aload_n 0, 1) := by decide +kernel
theorem dX6_live_144 : decode cX6_live 144 = .ok (.dup, 1) := by decide +kernel
theorem dX6_live_145 : decode cX6_live 145 = .ok (.getfield 159, 3) := by decide +kernel
theorem dX6_live_148 : decode cX6_live 148 = .ok (.aload_n 0, 1) := by decide +kernel
theorem dX6_live_149 : decode cX6_live 149 = .ok (.getfield 143, 3) := by decide +kernel
theorem dX6_live_152 : decode cX6_live 152 = .ok (.lmul, 1) := by decide +kernel
theorem dX6_live_153 : decode cX6_live 153 = .ok (.putfield 159, 3) := by decide +kernel
theorem dX6_live_156 : decode cX6_live 156 = .ok (.iinc 3 1, 3) := by decide +kernel
theorem dX6_live_159 : decode cX6_live 159 = .ok (.goto (-122), 3) := by decide +kernel
theorem dX6_live_162 : decode cX6_live 162 = .ok (.return_, 1) := by decide +kernel
theorem dX6_isLives_0 : decode cX6_isLives 0 = .ok (.iload_n 0, 1) := by decide +kernel
theorem dX6_isLives_1 : decode cX6_isLives 1 = .ok (.i2l, 1) := by decide +kernel
theorem dX6_isLives_2 : decode cX6_isLives 2 = .ok (.lconst 1, 1) := by decide +kernel
theorem dX6_isLives_3 : decode cX6_isLives 3 = .ok (.ldc2_w 63, 3) := by decide +kernel
theorem dX6_isLives_6 : decode cX6_isLives 6 = .ok (.invokestatic 53, 3) := by decide +kernel
theorem dX6_isLives_9 : decode cX6_isLives 9 = .ok (.ireturn, 1) := by decide +kernel
theorem dX6_after_0 : decode cX6_after 0 = .ok (.iload_n 1, 1) := by decide +kernel
theorem dX6_after_1 : decode cX6_after 1 = .ok (.invokestatic 92, 3) := by decide +kernel
theorem dX6_after_4 : decode cX6_after 4 = .ok (.ifCond .eq 10, 3) := by decide +kernel
theorem dX6_after_7 : decode cX6_after 7 = .ok (.iload_n 3, 1) := by decide +kernel
theorem dX6_after_8 : decode cX6_after 8 = .ok (.invokestatic 92, 3) := by decide +kernel
theorem dX6_after_11 : decode cX6_after 11 = .ok (.ifCond .ne 7, 3) := by decide +kernel
theorem dX6_after_14 : decode cX6_after 14 = .ok (.ldc2_w 117, 3) := by decide +kernel
theorem dX6_after_17 : decode cX6_after 17 = .ok (.lreturn, 1) := by decide +kernel
theorem dX6_after_18 : decode cX6_after 18 = .ok (.iload_n 2, 1) := by decide +kernel
theorem dX6_after_19 : decode cX6_after 19 = .ok (.invokestatic 162, 3) := by decide +kernel
theorem dX6_after_22 : decode cX6_after 22 = .ok (.ifCond .eq 11, 3) := by decide +kernel
theorem dX6_after_25 : decode cX6_after 25 = .ok (.iload 4, 2) := by decide +kernel
theorem dX6_after_27 : decode cX6_after 27 = .ok (.invokestatic 119, 3) := by decide +kernel
theorem dX6_after_30 : decode cX6_after 30 = .ok (.ifCond .ne 7, 3) := by decide +kernel
theorem dX6_after_33 : decode cX6_after 33 = .ok (.ldc2_w 122, 3) := by decide +kernel
theorem dX6_after_36 : decode cX6_after 36 = .ok (.lreturn, 1) := by decide +kernel
theorem dX6_after_37 : decode cX6_after 37 = .ok (.aload_n 0, 1) := by decide +kernel
theorem dX6_after_38 : decode cX6_after 38 = .ok (.getfield 48, 3) := by decide +kernel
theorem dX6_after_41 : decode cX6_after 41 = .ok (.iload_n 2, 1) := by decide +kernel
theorem dX6_after_42 : decode cX6_after 42 = .ok (.imul, 1) := by decide +kernel
theorem dX6_after_43 : decode cX6_after 43 = .ok (.bipush 8, 2) := by decide +kernel
theorem dX6_after_45 : decode cX6_after 45 = .ok (.if_icmp .le 7, 3) := by decide +kernel
theorem dX6_after_48 : decode cX6_after 48 = .ok (.ldc2_w 165, 3) := by decide +kernel
theorem dX6_after_51 : decode cX6_after 51 = .ok (.lreturn, 1) := by decide +kernel
theorem dX6_after_52 : decode cX6_after 52 = .ok (.aload_n 0, 1) := by decide +kernel
theorem dX6_after_53 : decode cX6_after 53 = .ok (.iconst 0, 1) := by decide +kernel
theorem dX6_after_54 : decode cX6_after 54 = .ok (.iconst 0, 1) := by decide +kernel
theorem dX6_after_55 : decode cX6_after 55 = .ok (.invokevirtual 155, 3) := by decide +kernel
theorem dX6_after_58 : decode cX6_after 58 = .ok (.aload_n 0, 1) := by decide +kernel
theorem dX6_after_59 : decode cX6_after 59 = .ok (.iload_n 1, 1) := by decide +kernel
theorem dX6_after_60 : decode cX6_after 60 = .ok (.iload_n 2, 1) := by decide +kernel
theorem dX6_after_61 : decode cX6_after 61 = .ok (.invokevirtual 167, 3) := by decide +kernel
theorem dX6_after_64 : decode cX6_after 64 = .ok (.aload_n 0, 1) := by decide +kernel
theorem dX6_after_65 : decode cX6_after 65 = .ok (.getfield 29, 3) := by decide +kernel
theorem dX6_after_68 : decode cX6_after 68 = .ok (.iload_n 3, 1) := by decide +kernel
theorem dX6_after_69 : decode cX6_after 69 = .ok (.laload, 1) := by decide +kernel
theorem dX6_after_70 : decode cX6_after 70 = .ok (.aload_n 0, 1) := by decide +kernel
theorem dX6_after_71 : decode cX6_after 71 = .ok (.getfield 159, 3) := by decide +kernel
theorem dX6_after_74 : decode cX6_after 74 = .ok (.iload 4, 2) := by decide +kernel
theorem dX6_after_76 : decode cX6_after 76 = .ok (.invokestatic 124, 3) := by decide +kernel
theorem dX6_after_79 : decode cX6_after 79 = .ok (.lreturn, 1) := by decide +kernel
theorem dX6_findLeads_0 : decode cX6_findLeads 0 = .ok (.aload_n 0, 1) := by decide +kernel
theorem dX6_findLeads_1 : decode cX6_findLeads 1 = .ok (.iconst 0, 1) := by decide +kernel
theorem dX6_findLeads_2 : decode cX6_findLeads 2 = .ok (.iconst 0, 1) := by decide +kernel
theorem dX6_findLeads_3 : decode cX6_findLeads 3 = .ok (.invokevirtual 155, 3) := by decide +kernel
theorem dX6_findLeads_6 : decode cX6_findLeads 6 = .ok (.iconst 0, 1) := by decide +kernel
theorem dX6_findLeads_7 : decode cX6_findLeads 7 = .ok (.istore_n 1, 1) := by decide +kernel
theorem dX6_findLeads_8 : decode cX6_findLeads 8 = .ok (.iload_n 1, 1) := by decide +kernel
theorem dX6_findLeads_9 : decode cX6_findLeads 9 = .ok (.bipush 8, 2) := by decide +kernel
theorem dX6_findLeads_11 : decode cX6_findLeads 11 = .ok (.if_icmp .ge 64, 3) := by decide +kernel
theorem dX6_findLeads_14 : decode cX6_findLeads 14 = .ok (.aload_n 0, 1) := by decide +kernel
theorem dX6_findLeads_15 : decode cX6_findLeads 15 = .ok (.getfield 35, 3) := by decide +kernel
theorem dX6_findLeads_18 : decode cX6_findLeads 18 = .ok (.iload_n 1, 1) := by decide +kernel
theorem dX6_findLeads_19 : decode cX6_findLeads 19 = .ok (.iconst 1, 1) := by decide +kernel
theorem dX6_findLeads_20 : decode cX6_findLeads 20 = .ok (.iload_n 1, 1) := by decide +kernel
theorem dX6_findLeads_21 : decode cX6_findLeads 21 = .ok (.ishl, 1) := by decide +kernel
theorem dX6_findLeads_22 : decode cX6_findLeads 22 = .ok (.iastore, 1) := by decide +kernel
theorem dX6_findLeads_23 : decode cX6_findLeads 23 = .ok (.iconst 0, 1) := by decide +kernel
theorem dX6_findLeads_24 : decode cX6_findLeads 24 = .ok (.istore_n 2, 1) := by decide +kernel
theorem dX6_findLeads_25 : decode cX6_findLeads 25 = .ok (.iload_n 2, 1) := by decide +kernel
theorem dX6_findLeads_26 : decode cX6_findLeads 26 = .ok (.bipush 8, 2) := by decide +kernel
theorem dX6_findLeads_28 : decode cX6_findLeads 28 = .ok (.if_icmp .ge 41, 3) := by decide +kernel
theorem dX6_findLeads_31 : decode cX6_findLeads 31 = .ok (.aload_n 0, 1) := by decide +kernel
theorem dX6_findLeads_32 : decode cX6_findLeads 32 = .ok (.getfield 35, 3) := by decide +kernel
theorem dX6_findLeads_35 : decode cX6_findLeads 35 = .ok (.iload_n 1, 1) := by decide +kernel
theorem dX6_findLeads_36 : decode cX6_findLeads 36 = .ok (.dup2, 1) := by decide +kernel
theorem dX6_findLeads_37 : decode cX6_findLeads 37 = .ok (.iaload, 1) := by decide +kernel
theorem dX6_findLeads_38 : decode cX6_findLeads 38 = .ok (.aload_n 0, 1) := by decide +kernel
theorem dX6_findLeads_39 : decode cX6_findLeads 39 = .ok (.getfield 25, 3) := by decide +kernel
theorem dX6_findLeads_42 : decode cX6_findLeads 42 = .ok (.bipush 8, 2) := by decide +kernel
theorem dX6_findLeads_44 : decode cX6_findLeads 44 = .ok (.iload_n 1, 1) := by decide +kernel
theorem dX6_findLeads_45 : decode cX6_findLeads 45 = .ok (.imul, 1) := by decide +kernel
theorem dX6_findLeads_46 : decode cX6_findLeads 46 = .ok (.iload_n 2, 1) := by decide +kernel
theorem dX6_findLeads_47 : decode cX6_findLeads 47 = .ok (.iadd, 1) := by decide +kernel
theorem dX6_findLeads_48 : decode cX6_findLeads 48 = .ok (.laload, 1) := by decide +kernel
theorem dX6_findLeads_49 : decode cX6_findLeads 49 = .ok (.lconst 0, 1) := by decide +kernel
theorem dX6_findLeads_50 : decode cX6_findLeads 50 = .ok (.lcmp, 1) := by decide +kernel
theorem dX6_findLeads_51 : decode cX6_findLeads 51 = .ok (.ifCond .le 9, 3) := by decide +kernel
theorem dX6_findLeads_54 : decode cX6_findLeads 54 = .ok (.iconst 1, 1) := by decide +kernel
theorem dX6_findLeads_55 : decode cX6_findLeads 55 = .ok (.iload_n 2, 1) := by decide +kernel
theorem dX6_findLeads_56 : decode cX6_findLeads 56 = .ok (.ishl, 1) := by decide +kernel
theorem dX6_findLeads_57 : decode cX6_findLeads 57 = .ok (.goto 4, 3) := by decide +kernel
theorem dX6_findLeads_60 : decode cX6_findLeads 60 = .ok (.iconst 0, 1) := by decide +kernel
theorem dX6_findLeads_61 : decode cX6_findLeads 61 = .ok (.ior, 1) := by decide +kernel
theorem dX6_findLeads_62 : decode cX6_findLeads 62 = .ok (.iastore, 1) := by decide +kernel
theorem dX6_findLeads_63 : decode cX6_findLeads 63 = .ok (.iinc 2 1, 3) := by decide +kernel
theorem dX6_findLeads_66 : decode cX6_findLeads 66 = .ok (.goto (-41), 3) := by decide +kernel
theorem dX6_findLeads_69 : decode cX6_findLeads 69 = .ok (.iinc 1 1, 3) := by decide +kernel
theorem dX6_findLeads_72 : decode cX6_findLeads 72 = .ok (.goto (-64), 3) := by decide +kernel
theorem dX6_findLeads_75 : decode cX6_findLeads 75 = .ok (.iconst 0, 1) := by decide +kernel
theorem dX6_findLeads_76 : decode cX6_findLeads 76 = .ok (.istore_n 1, 1) := by decide +kernel
theorem dX6_findLeads_77 : decode cX6_findLeads 77 = .ok (.iload_n 1, 1) := by decide +kernel
theorem dX6_findLeads_78 : decode cX6_findLeads 78 = .ok (.bipush 8, 2) := by decide +kernel
theorem dX6_findLeads_80 : decode cX6_findLeads 80 = .ok (.if_icmp .ge 56, 3) := by decide +kernel
theorem dX6_findLeads_83 : decode cX6_findLeads 83 = .ok (.iconst 0, 1) := by decide +kernel
theorem dX6_findLeads_84 : decode cX6_findLeads 84 = .ok (.istore_n 2, 1) := by decide +kernel
theorem dX6_findLeads_85 : decode cX6_findLeads 85 = .ok (.iload_n 2, 1) := by decide +kernel
theorem dX6_findLeads_86 : decode cX6_findLeads 86 = .ok (.bipush 8, 2) := by decide +kernel
theorem dX6_findLeads_88 : decode cX6_findLeads 88 = .ok (.if_icmp .ge 42, 3) := by decide +kernel
theorem dX6_findLeads_91 : decode cX6_findLeads 91 = .ok (.aload_n 0, 1) := by decide +kernel
theorem dX6_findLeads_92 : decode cX6_findLeads 92 = .ok (.getfield 35, 3) := by decide +kernel
theorem dX6_findLeads_95 : decode cX6_findLeads 95 = .ok (.iload_n 2, 1) := by decide +kernel
theorem dX6_findLeads_96 : decode cX6_findLeads 96 = .ok (.dup2, 1) := by decide +kernel
theorem dX6_findLeads_97 : decode cX6_findLeads 97 = .ok (.iaload, 1) := by decide +kernel
theorem dX6_findLeads_98 : decode cX6_findLeads 98 = .ok (.aload_n 0, 1) := by decide +kernel
theorem dX6_findLeads_99 : decode cX6_findLeads 99 = .ok (.getfield 35, 3) := by decide +kernel
theorem dX6_findLeads_102 : decode cX6_findLeads 102 = .ok (.iload_n 2, 1) := by decide +kernel
theorem dX6_findLeads_103 : decode cX6_findLeads 103 = .ok (.iaload, 1) := by decide +kernel
theorem dX6_findLeads_104 : decode cX6_findLeads 104 = .ok (.iload_n 1, 1) := by decide +kernel
theorem dX6_findLeads_105 : decode cX6_findLeads 105 = .ok (.ishr, 1) := by decide +kernel
theorem dX6_findLeads_106 : decode cX6_findLeads 106 = .ok (.iconst 1, 1) := by decide +kernel
theorem dX6_findLeads_107 : decode cX6_findLeads 107 = .ok (.iand, 1) := by decide +kernel
theorem dX6_findLeads_108 : decode cX6_findLeads 108 = .ok (.iconst 1, 1) := by decide +kernel
theorem dX6_findLeads_109 : decode cX6_findLeads 109 = .ok (.if_icmp .ne 12, 3) := by decide +kernel
theorem dX6_findLeads_112 : decode cX6_findLeads 112 = .ok (.aload_n 0, 1) := by decide +kernel
theorem dX6_findLeads_113 : decode cX6_findLeads 113 = .ok (.getfield 35, 3) := by decide +kernel
theorem dX6_findLeads_116 : decode cX6_findLeads 116 = .ok (.iload_n 1, 1) := by decide +kernel
theorem dX6_findLeads_117 : decode cX6_findLeads 117 = .ok (.iaload, 1) := by decide +kernel
theorem dX6_findLeads_118 : decode cX6_findLeads 118 = .ok (.goto 4, 3) := by decide +kernel
theorem dX6_findLeads_121 : decode cX6_findLeads 121 = .ok (.iconst 0, 1) := by decide +kernel
theorem dX6_findLeads_122 : decode cX6_findLeads 122 = .ok (.ior, 1) := by decide +kernel
theorem dX6_findLeads_123 : decode cX6_findLeads 123 = .ok (.iastore, 1) := by decide +kernel
theorem dX6_findLeads_124 : decode cX6_findLeads 124 = .ok (.iinc 2 1, 3) := by decide +kernel
theorem dX6_findLeads_127 : decode cX6_findLeads 127 = .ok (.goto (-42), 3) := by decide +kernel
theorem dX6_findLeads_130 : decode cX6_findLeads 130 = .ok (.iinc 1 1, 3) := by decide +kernel
theorem dX6_findLeads_133 : decode cX6_findLeads 133 = .ok (.goto (-56), 3) := by decide +kernel
theorem dX6_findLeads_136 : decode cX6_findLeads 136 = .ok (.return_, 1) := by decide +kernel
theorem dX6_leads_0 : decode cX6_leads 0 = .ok (.iload_n 1, 1) := by decide +kernel
theorem dX6_leads_1 : decode cX6_leads 1 = .ok (.invokestatic 92, 3) := by decide +kernel
theorem dX6_leads_4 : decode cX6_leads 4 = .ok (.ifCond .ne 5, 3) := by decide +kernel
theorem dX6_leads_7 : decode cX6_leads 7 = .ok (.iconst (-1), 1) := by decide +kernel
theorem dX6_leads_8 : decode cX6_leads 8 = .ok (.ireturn, 1) := by decide +kernel
theorem dX6_leads_9 : decode cX6_leads 9 = .ok (.aload_n 0, 1) := by decide +kernel
theorem dX6_leads_10 : decode cX6_leads 10 = .ok (.invokevirtual 170, 3) := by decide +kernel
theorem dX6_leads_13 : decode cX6_leads 13 = .ok (.aload_n 0, 1) := by decide +kernel
theorem dX6_leads_14 : decode cX6_leads 14 = .ok (.getfield 35, 3) := by decide +kernel
theorem dX6_leads_17 : decode cX6_leads 17 = .ok (.iload_n 1, 1) := by decide +kernel
theorem dX6_leads_18 : decode cX6_leads 18 = .ok (.iaload, 1) := by decide +kernel
theorem dX6_leads_19 : decode cX6_leads 19 = .ok (.ireturn, 1) := by decide +kernel
theorem dX6_doesLast_0 : decode cX6_doesLast 0 = .ok (.iconst 1, 1) := by decide +kernel
theorem dX6_doesLast_1 : decode cX6_doesLast 1 = .ok (.istore_n 2, 1) := by decide +kernel
theorem dX6_doesLast_2 : decode cX6_doesLast 2 = .ok (.iconst 0, 1) := by decide +kernel
theorem dX6_doesLast_3 : decode cX6_doesLast 3 = .ok (.istore_n 3, 1) := by decide +kernel
theorem dX6_doesLast_4 : decode cX6_doesLast 4 = .ok (.iload_n 3, 1) := by decide +kernel
theorem dX6_doesLast_5 : decode cX6_doesLast 5 = .ok (.bipush 8, 2) := by decide +kernel
theorem dX6_doesLast_7 : decode cX6_doesLast 7 = .ok (.if_icmp .ge 46, 3) := by decide +kernel
theorem dX6_doesLast_10 : decode cX6_doesLast 10 = .ok (.iload_n 2, 1) := by decide +kernel
theorem dX6_doesLast_11 : decode cX6_doesLast 11 = .ok (.ifCond .eq 34, 3) := by decide +kernel
theorem dX6_doesLast_14 : decode cX6_doesLast 14 = .ok (.aload_n 0, 1) := by decide +kernel
theorem dX6_doesLast_15 : decode cX6_doesLast 15 = .ok (.getfield 35, 3) := by decide +kernel
theorem dX6_doesLast_18 : decode cX6_doesLast 18 = .ok (.iload_n 1, 1) := by decide +kernel
theorem dX6_doesLast_19 : decode cX6_doesLast 19 = .ok (.iaload, 1) := by decide +kernel
theorem dX6_doesLast_20 : decode cX6_doesLast 20 = .ok (.iload_n 3, 1) := by decide +kernel
theorem dX6_doesLast_21 : decode cX6_doesLast 21 = .ok (.ishr, 1) := by decide +kernel
theorem dX6_doesLast_22 : decode cX6_doesLast 22 = .ok (.iconst 1, 1) := by decide +kernel
theorem dX6_doesLast_23 : decode cX6_doesLast 23 = .ok (.iand, 1) := by decide +kernel
theorem dX6_doesLast_24 : decode cX6_doesLast 24 = .ok (.ifCond .eq 17, 3) := by decide +kernel
theorem dX6_doesLast_27 : decode cX6_doesLast 27 = .ok (.aload_n 0, 1) := by decide +kernel
theorem dX6_doesLast_28 : decode cX6_doesLast 28 = .ok (.getfield 35, 3) := by decide +kernel
theorem dX6_doesLast_31 : decode cX6_doesLast 31 = .ok (.iload_n 3, 1) := by decide +kernel
theorem dX6_doesLast_32 : decode cX6_doesLast 32 = .ok (.iaload, 1) := by decide +kernel
theorem dX6_doesLast_33 : decode cX6_doesLast 33 = .ok (.iload_n 1, 1) := by decide +kernel
theorem dX6_doesLast_34 : decode cX6_doesLast 34 = .ok (.ishr, 1) := by decide +kernel
theorem dX6_doesLast_35 : decode cX6_doesLast 35 = .ok (.iconst 1, 1) := by decide +kernel
theorem dX6_doesLast_36 : decode cX6_doesLast 36 = .ok (.iand, 1) := by decide +kernel
theorem dX6_doesLast_37 : decode cX6_doesLast 37 = .ok (.iconst 1, 1) := by decide +kernel
theorem dX6_doesLast_38 : decode cX6_doesLast 38 = .ok (.if_icmp .ne 7, 3) := by decide +kernel
theorem dX6_doesLast_41 : decode cX6_doesLast 41 = .ok (.iconst 1, 1) := by decide +kernel
theorem dX6_doesLast_42 : decode cX6_doesLast 42 = .ok (.goto 4, 3) := by decide +kernel
theorem dX6_doesLast_45 : decode cX6_doesLast 45 = .ok (.iconst 0, 1) := by decide +kernel
theorem dX6_doesLast_46 : decode cX6_doesLast 46 = .ok (.istore_n 2, 1) := by decide +kernel
theorem dX6_doesLast_47 : decode cX6_doesLast 47 = .ok (.iinc 3 1, 3) := by decide +kernel
theorem dX6_doesLast_50 : decode cX6_doesLast 50 = .ok (.goto (-46), 3) := by decide +kernel
theorem dX6_doesLast_53 : decode cX6_doesLast 53 = .ok (.iload_n 2, 1) := by decide +kernel
theorem dX6_doesLast_54 : decode cX6_doesLast 54 = .ok (.ireturn, 1) := by decide +kernel
theorem dX6_lasts_0 : decode cX6_lasts 0 = .ok (.iload_n 1, 1) := by decide +kernel
theorem dX6_lasts_1 : decode cX6_lasts 1 = .ok (.i2l, 1) := by decide +kernel
theorem dX6_lasts_2 : decode cX6_lasts 2 = .ok (.lconst 0, 1) := by decide +kernel
theorem dX6_lasts_3 : decode cX6_lasts 3 = .ok (.ldc2_w 51, 3) := by decide +kernel
theorem dX6_lasts_6 : decode cX6_lasts 6 = .ok (.invokestatic 53, 3) := by decide +kernel
theorem dX6_lasts_9 : decode cX6_lasts 9 = .ok (.ifCond .ne 6, 3) := by decide +kernel
theorem dX6_lasts_12 : decode cX6_lasts 12 = .ok (.bipush (-2), 2) := by decide +kernel
theorem dX6_lasts_14 : decode cX6_lasts 14 = .ok (.ireturn, 1) := by decide +kernel
theorem dX6_lasts_15 : decode cX6_lasts 15 = .ok (.aload_n 0, 1) := by decide +kernel
theorem dX6_lasts_16 : decode cX6_lasts 16 = .ok (.invokevirtual 170, 3) := by decide +kernel
theorem dX6_lasts_19 : decode cX6_lasts 19 = .ok (.iconst 0, 1) := by decide +kernel
theorem dX6_lasts_20 : decode cX6_lasts 20 = .ok (.istore_n 2, 1) := by decide +kernel
theorem dX6_lasts_21 : decode cX6_lasts 21 = .ok (.iconst 0, 1) := by decide +kernel
theorem dX6_lasts_22 : decode cX6_lasts 22 = .ok (.istore_n 3, 1) := by decide +kernel
theorem dX6_lasts_23 : decode cX6_lasts 23 = .ok (.iconst 0, 1) := by decide +kernel
theorem dX6_lasts_24 : decode cX6_lasts 24 = .ok (.istore 4, 2) := by decide +kernel
theorem dX6_lasts_26 : decode cX6_lasts 26 = .ok (.iconst 0, 1) := by decide +kernel
theorem dX6_lasts_27 : decode cX6_lasts 27 = .ok (.istore 5, 2) := by decide +kernel
theorem dX6_lasts_29 : decode cX6_lasts 29 = .ok (.iload 5, 2) := by decide +kernel
theorem dX6_lasts_31 : decode cX6_lasts 31 = .ok (.bipush 8, 2) := by decide +kernel
theorem dX6_lasts_33 : decode cX6_lasts 33 = .ok (.if_icmp .ge 97, 3) := by decide +kernel
theorem dX6_lasts_36 : decode cX6_lasts 36 = .ok (.aload_n 0, 1) := by decide +kernel
theorem dX6_lasts_37 : decode cX6_lasts 37 = .ok (.iload 5, 2) := by decide +kernel
theorem dX6_lasts_39 : decode cX6_lasts 39 = .ok (.invokevirtual 173, 3) := by decide +kernel
theorem dX6_lasts_42 : decode cX6_lasts 42 = .ok (.istore 6, 2) := by decide +kernel
theorem dX6_lasts_44 : decode cX6_lasts 44 = .ok (.iload_n 2, 1) := by decide +kernel
theorem dX6_lasts_45 : decode cX6_lasts 45 = .ok (.iload 6, 2) := by decide +kernel
theorem dX6_lasts_47 : decode cX6_lasts 47 = .ok (.ifCond .eq 10, 3) := by decide +kernel
theorem dX6_lasts_50 : decode cX6_lasts 50 = .ok (.iconst 1, 1) := by decide +kernel
theorem dX6_lasts_51 : decode cX6_lasts 51 = .ok (.iload 5, 2) := by decide +kernel
theorem dX6_lasts_53 : decode cX6_lasts 53 = .ok (.ishl, 1) := by decide +kernel
theorem dX6_lasts_54 : decode cX6_lasts 54 = .ok (.goto 4, 3) := by decide +kernel
theorem dX6_lasts_57 : decode cX6_lasts 57 = .ok (.iconst 0, 1) := by decide +kernel
theorem dX6_lasts_58 : decode cX6_lasts 58 = .ok (.ior, 1) := by decide +kernel
theorem dX6_lasts_59 : decode cX6_lasts 59 = .ok (.istore_n 2, 1) := by decide +kernel
theorem dX6_lasts_60 : decode cX6_lasts 60 = .ok (.iload_n 3, 1) := by decide +kernel
theorem dX6_lasts_61 : decode cX6_lasts 61 = .ok (.iload 6, 2) := by decide +kernel
theorem dX6_lasts_63 : decode cX6_lasts 63 = .ok (.ifCond .eq 24, 3) := by decide +kernel
theorem dX6_lasts_66 : decode cX6_lasts 66 = .ok (.aload_n 0, 1) := by decide +kernel
theorem dX6_lasts_67 : decode cX6_lasts 67 = .ok (.getfield 35, 3) := by decide +kernel
theorem dX6_lasts_70 : decode cX6_lasts 70 = .ok (.iload 5, 2) := by decide +kernel
theorem dX6_lasts_72 : decode cX6_lasts 72 = .ok (.iaload, 1) := by decide +kernel
theorem dX6_lasts_73 : decode cX6_lasts 73 = .ok (.iconst 1, 1) := by decide +kernel
theorem dX6_lasts_74 : decode cX6_lasts 74 = .ok (.iload 5, 2) := by decide +kernel
theorem dX6_lasts_76 : decode cX6_lasts 76 = .ok (.ishl, 1) := by decide +kernel
theorem dX6_lasts_77 : decode cX6_lasts 77 = .ok (.iconst 1, 1) := by decide +kernel
theorem dX6_lasts_78 : decode cX6_lasts 78 = .ok (.isub, 1) := by decide +kernel
theorem dX6_lasts_79 : decode cX6_lasts 79 = .ok (.iand, 1) := by decide +kernel
theorem dX6_lasts_80 : decode cX6_lasts 80 = .ok (.ifCond .ne 7, 3) := by decide +kernel
theorem dX6_lasts_83 : decode cX6_lasts 83 = .ok (.iconst 1, 1) := by decide +kernel
theorem dX6_lasts_84 : decode cX6_lasts 84 = .ok (.goto 4, 3) := by decide +kernel
theorem dX6_lasts_87 : decode cX6_lasts 87 = .ok (.iconst 0, 1) := by decide +kernel
theorem dX6_lasts_88 : decode cX6_lasts 88 = .ok (.iadd, 1) := by decide +kernel
theorem dX6_lasts_89 : decode cX6_lasts 89 = .ok (.istore_n 3, 1) := by decide +kernel
theorem dX6_lasts_90 : decode cX6_lasts 90 = .ok (.iload 4, 2) := by decide +kernel
theorem dX6_lasts_92 : decode cX6_lasts 92 = .ok (.aload_n 0, 1) := by decide +kernel
theorem dX6_lasts_93 : decode cX6_lasts 93 = .ok (.getfield 25, 3) := by decide +kernel
theorem dX6_lasts_96 : decode cX6_lasts 96 = .ok (.bipush 8, 2) := by decide +kernel
theorem dX6_lasts_98 : decode cX6_lasts 98 = .ok (.iload 5, 2) := by decide +kernel
theorem dX6_lasts_100 : decode cX6_lasts 100 = .ok (.imul, 1) := by decide +kernel
theorem dX6_lasts_101 : decode cX6_lasts 101 = .ok (.iload 5, 2) := by decide +kernel
theorem dX6_lasts_103 : decode cX6_lasts 103 = .ok (.iadd, 1) := by decide +kernel
theorem dX6_lasts_104 : decode cX6_lasts 104 = .ok (.laload, 1) := by decide +kernel
theorem dX6_lasts_105 : decode cX6_lasts 105 = .ok (.aload_n 0, 1) := by decide +kernel
theorem dX6_lasts_106 : decode cX6_lasts 106 = .ok (.getfield 143, 3) := by decide +kernel
theorem dX6_lasts_109 : decode cX6_lasts 109 = .ok (.lcmp, 1) := by decide +kernel
theorem dX6_lasts_110 : decode cX6_lasts 110 = .ok (.ifCond .ne 10, 3) := by decide +kernel
theorem dX6_lasts_113 : decode cX6_lasts 113 = .ok (.iconst 1, 1) := by decide +kernel
theorem dX6_lasts_114 : decode cX6_lasts 114 = .ok (.iload 5, 2) := by decide +kernel
theorem dX6_lasts_116 : decode cX6_lasts 116 = .ok (.ishl, 1) := by decide +kernel
theorem dX6_lasts_117 : decode cX6_lasts 117 = .ok (.goto 4, 3) := by decide +kernel
theorem dX6_lasts_120 : decode cX6_lasts 120 = .ok (.iconst 0, 1) := by decide +kernel
theorem dX6_lasts_121 : decode cX6_lasts 121 = .ok (.ior, 1) := by decide +kernel
theorem dX6_lasts_122 : decode cX6_lasts 122 = .ok (.istore 4, 2) := by decide +kernel
theorem dX6_lasts_124 : decode cX6_lasts 124 = .ok (.iinc 5 1, 3) := by decide +kernel
theorem dX6_lasts_127 : decode cX6_lasts 127 = .ok (.goto (-98), 3) := by decide +kernel
theorem dX6_lasts_130 : decode cX6_lasts 130 = .ok (.iload_n 1, 1) := by decide +kernel
theorem dX6_lasts_131 : decode cX6_lasts 131 = .ok (.ifCond .ne 7, 3) := by decide +kernel
theorem dX6_lasts_134 : decode cX6_lasts 134 = .ok (.iload_n 2, 1) := by decide +kernel
theorem dX6_lasts_135 : decode cX6_lasts 135 = .ok (.goto 14, 3) := by decide +kernel
theorem dX6_lasts_138 : decode cX6_lasts 138 = .ok (.iload_n 1, 1) := by decide +kernel
theorem dX6_lasts_139 : decode cX6_lasts 139 = .ok (.iconst 1, 1) := by decide +kernel
theorem dX6_lasts_140 : decode cX6_lasts 140 = .ok (.if_icmp .ne 7, 3) := by decide +kernel
theorem dX6_lasts_143 : decode cX6_lasts 143 = .ok (.iload_n 3, 1) := by decide +kernel
theorem dX6_lasts_144 : decode cX6_lasts 144 = .ok (.goto 5, 3) := by decide +kernel
theorem dX6_lasts_147 : decode cX6_lasts 147 = .ok (.iload 4, 2) := by decide +kernel
theorem dX6_lasts_149 : decode cX6_lasts 149 = .ok (.ireturn, 1) := by decide +kernel
theorem dX6_lives_0 : decode cX6_lives 0 = .ok (.iload_n 1, 1) := by decide +kernel
theorem dX6_lives_1 : decode cX6_lives 1 = .ok (.invokestatic 92, 3) := by decide +kernel
theorem dX6_lives_4 : decode cX6_lives 4 = .ok (.ifCond .eq 10, 3) := by decide +kernel
theorem dX6_lives_7 : decode cX6_lives 7 = .ok (.iload_n 2, 1) := by decide +kernel
theorem dX6_lives_8 : decode cX6_lives 8 = .ok (.invokestatic 59, 3) := by decide +kernel
theorem dX6_lives_11 : decode cX6_lives 11 = .ok (.ifCond .ne 7, 3) := by decide +kernel
theorem dX6_lives_14 : decode cX6_lives 14 = .ok (.ldc2_w 117, 3) := by decide +kernel
theorem dX6_lives_17 : decode cX6_lives 17 = .ok (.lreturn, 1) := by decide +kernel
theorem dX6_lives_18 : decode cX6_lives 18 = .ok (.iload_n 3, 1) := by decide +kernel
theorem dX6_lives_19 : decode cX6_lives 19 = .ok (.i2l, 1) := by decide +kernel
theorem dX6_lives_20 : decode cX6_lives 20 = .ok (.lconst 0, 1) := by decide +kernel
theorem dX6_lives_21 : decode cX6_lives 21 = .ok (.lconst 1, 1) := by decide +kernel
theorem dX6_lives_22 : decode cX6_lives 22 = .ok (.invokestatic 53, 3) := by decide +kernel
theorem dX6_lives_25 : decode cX6_lives 25 = .ok (.ifCond .eq 19, 3) := by decide +kernel
theorem dX6_lives_28 : decode cX6_lives 28 = .ok (.iload 4, 2) := by decide +kernel
theorem dX6_lives_30 : decode cX6_lives 30 = .ok (.invokestatic 162, 3) := by decide +kernel
theorem dX6_lives_33 : decode cX6_lives 33 = .ok (.ifCond .eq 11, 3) := by decide +kernel
theorem dX6_lives_36 : decode cX6_lives 36 = .ok (.iload 5, 2) := by decide +kernel
theorem dX6_lives_38 : decode cX6_lives 38 = .ok (.invokestatic 119, 3) := by decide +kernel
theorem dX6_lives_41 : decode cX6_lives 41 = .ok (.ifCond .ne 7, 3) := by decide +kernel
theorem dX6_lives_44 : decode cX6_lives 44 = .ok (.ldc2_w 122, 3) := by decide +kernel
theorem dX6_lives_47 : decode cX6_lives 47 = .ok (.lreturn, 1) := by decide +kernel
theorem dX6_lives_48 : decode cX6_lives 48 = .ok (.aload_n 0, 1) := by decide +kernel
theorem dX6_lives_49 : decode cX6_lives 49 = .ok (.getfield 48, 3) := by decide +kernel
theorem dX6_lives_52 : decode cX6_lives 52 = .ok (.iload 4, 2) := by decide +kernel
theorem dX6_lives_54 : decode cX6_lives 54 = .ok (.imul, 1) := by decide +kernel
theorem dX6_lives_55 : decode cX6_lives 55 = .ok (.bipush 8, 2) := by decide +kernel
theorem dX6_lives_57 : decode cX6_lives 57 = .ok (.if_icmp .le 7, 3) := by decide +kernel
theorem dX6_lives_60 : decode cX6_lives 60 = .ok (.ldc2_w 165, 3) := by decide +kernel
theorem dX6_lives_63 : decode cX6_lives 63 = .ok (.lreturn, 1) := by decide +kernel
theorem dX6_lives_64 : decode cX6_lives 64 = .ok (.aload_n 0, 1) := by decide +kernel
theorem dX6_lives_65 : decode cX6_lives 65 = .ok (.iconst 0, 1) := by decide +kernel
theorem dX6_lives_66 : decode cX6_lives 66 = .ok (.iconst 0, 1) := by decide +kernel
theorem dX6_lives_67 : decode cX6_lives 67 = .ok (.invokevirtual 155, 3) := by decide +kernel
theorem dX6_lives_70 : decode cX6_lives 70 = .ok (.aload_n 0, 1) := by decide +kernel
theorem dX6_lives_71 : decode cX6_lives 71 = .ok (.iload_n 1, 1) := by decide +kernel
theorem dX6_lives_72 : decode cX6_lives 72 = .ok (.iload 4, 2) := by decide +kernel
theorem dX6_lives_74 : decode cX6_lives 74 = .ok (.invokevirtual 167, 3) := by decide +kernel
theorem dX6_lives_77 : decode cX6_lives 77 = .ok (.lconst 0, 1) := by decide +kernel
theorem dX6_lives_78 : decode cX6_lives 78 = .ok (.lstore 6, 2) := by decide +kernel
theorem dX6_lives_80 : decode cX6_lives 80 = .ok (.iconst 0, 1) := by decide +kernel
theorem dX6_lives_81 : decode cX6_lives 81 = .ok (.istore 8, 2) := by decide +kernel
theorem dX6_lives_83 : decode cX6_lives 83 = .ok (.iload 8, 2) := by decide +kernel
theorem dX6_lives_85 : decode cX6_lives 85 = .ok (.bipush 8, 2) := by decide +kernel
theorem dX6_lives_87 : decode cX6_lives 87 = .ok (.if_icmp .ge 35, 3) := by decide +kernel
theorem dX6_lives_90 : decode cX6_lives 90 = .ok (.lload 6, 2) := by decide +kernel
theorem dX6_lives_92 : decode cX6_lives 92 = .ok (.iload 8, 2) := by decide +kernel
theorem dX6_lives_94 : decode cX6_lives 94 = .ok (.iload_n 2, 1) := by decide +kernel
theorem dX6_lives_95 : decode cX6_lives 95 = .ok (.ishr, 1) := by decide +kernel
theorem dX6_lives_96 : decode cX6_lives 96 = .ok (.iconst 1, 1) := by decide +kernel
theorem dX6_lives_97 : decode cX6_lives 97 = .ok (.iand, 1) := by decide +kernel
theorem dX6_lives_98 : decode cX6_lives 98 = .ok (.iload_n 3, 1) := by decide +kernel
theorem dX6_lives_99 : decode cX6_lives 99 = .ok (.if_icmp .ne 13, 3) := by decide +kernel
theorem dX6_lives_102 : decode cX6_lives 102 = .ok (.aload_n 0, 1) := by decide +kernel
theorem dX6_lives_103 : decode cX6_lives 103 = .ok (.getfield 29, 3) := by decide +kernel
theorem dX6_lives_106 : decode cX6_lives 106 = .ok (.iload 8, 2) := by decide +kernel
theorem dX6_lives_108 : decode cX6_lives 108 = .ok (.laload, 1) := by decide +kernel
theorem dX6_lives_109 : decode cX6_lives 109 = .ok (.goto 4, 3) := by decide +kernel
theorem dX6_lives_112 : decode cX6_lives 112 = .ok (.lconst 0, 1) := by decide +kernel
theorem dX6_lives_113 : decode cX6_lives 113 = .ok (.ladd, 1) := by decide +kernel
theorem dX6_lives_114 : decode cX6_lives 114 = .ok (.lstore 6, 2) := by decide +kernel
theorem dX6_lives_116 : decode cX6_lives 116 = .ok (.iinc 8 1, 3) := by decide +kernel
theorem dX6_lives_119 : decode cX6_lives 119 = .ok (.goto (-36), 3) := by decide +kernel
theorem dX6_lives_122 : decode cX6_lives 122 = .ok (.lload 6, 2) := by decide +kernel
theorem dX6_lives_124 : decode cX6_lives 124 = .ok (.aload_n 0, 1) := by decide +kernel
theorem dX6_lives_125 : decode cX6_lives 125 = .ok (.getfield 159, 3) := by decide +kernel
end
section
theorem dX6_lives_128 : decode cX6_lives 128 = .ok (.iload 5, 2) := by decide +kernel
theorem dX6_lives_130 : decode cX6_lives 130 = .ok (.invokestatic 124, 3) := by decide +kernel
theorem dX6_lives_133 : decode cX6_lives 133 = .ok (.lreturn, 1) := by decide +kernel
theorem dX6_often_0 : decode cX6_often 0 = .ok (.iload_n 1, 1) := by decide +kernel
theorem dX6_often_1 : decode cX6_often 1 = .ok (.invokestatic 92, 3) := by decide +kernel
theorem dX6_often_4 : decode cX6_often 4 = .ok (.ifCond .eq 10, 3) := by decide +kernel
theorem dX6_often_7 : decode cX6_often 7 = .ok (.iload_n 2, 1) := by decide +kernel
theorem dX6_often_8 : decode cX6_often 8 = .ok (.invokestatic 59, 3) := by decide +kernel
theorem dX6_often_11 : decode cX6_often 11 = .ok (.ifCond .ne 5, 3) := by decide +kernel
theorem dX6_often_14 : decode cX6_often 14 = .ok (.iconst (-1), 1) := by decide +kernel
theorem dX6_often_15 : decode cX6_often 15 = .ok (.ireturn, 1) := by decide +kernel
theorem dX6_often_16 : decode cX6_often 16 = .ok (.iload_n 3, 1) := by decide +kernel
theorem dX6_often_17 : decode cX6_often 17 = .ok (.i2l, 1) := by decide +kernel
theorem dX6_often_18 : decode cX6_often 18 = .ok (.lconst 0, 1) := by decide +kernel
theorem dX6_often_19 : decode cX6_often 19 = .ok (.ldc2_w 137, 3) := by decide +kernel
theorem dX6_often_22 : decode cX6_often 22 = .ok (.invokestatic 53, 3) := by decide +kernel
theorem dX6_often_25 : decode cX6_often 25 = .ok (.ifCond .ne 6, 3) := by decide +kernel
theorem dX6_often_28 : decode cX6_often 28 = .ok (.bipush (-2), 2) := by decide +kernel
theorem dX6_often_30 : decode cX6_often 30 = .ok (.ireturn, 1) := by decide +kernel
theorem dX6_often_31 : decode cX6_often 31 = .ok (.aload_n 0, 1) := by decide +kernel
theorem dX6_often_32 : decode cX6_often 32 = .ok (.getfield 7, 3) := by decide +kernel
theorem dX6_often_35 : decode cX6_often 35 = .ok (.iload_n 2, 1) := by decide +kernel
theorem dX6_often_36 : decode cX6_often 36 = .ok (.iaload, 1) := by decide +kernel
theorem dX6_often_37 : decode cX6_often 37 = .ok (.istore 4, 2) := by decide +kernel
theorem dX6_often_39 : decode cX6_often 39 = .ok (.bipush (-6), 2) := by decide +kernel
theorem dX6_often_41 : decode cX6_often 41 = .ok (.istore 5, 2) := by decide +kernel
theorem dX6_often_43 : decode cX6_often 43 = .ok (.iconst 1, 1) := by decide +kernel
theorem dX6_often_44 : decode cX6_often 44 = .ok (.istore 6, 2) := by decide +kernel
theorem dX6_often_46 : decode cX6_often 46 = .ok (.iload 6, 2) := by decide +kernel
theorem dX6_often_48 : decode cX6_often 48 = .ok (.iconst 4, 1) := by decide +kernel
theorem dX6_often_49 : decode cX6_often 49 = .ok (.if_icmp .gt 105, 3) := by decide +kernel
theorem dX6_often_52 : decode cX6_often 52 = .ok (.iload 5, 2) := by decide +kernel
theorem dX6_often_54 : decode cX6_often 54 = .ok (.ifCond .ge 100, 3) := by decide +kernel
theorem dX6_often_57 : decode cX6_often 57 = .ok (.aload_n 0, 1) := by decide +kernel
theorem dX6_often_58 : decode cX6_often 58 = .ok (.getfield 7, 3) := by decide +kernel
theorem dX6_often_61 : decode cX6_often 61 = .ok (.iload_n 2, 1) := by decide +kernel
theorem dX6_often_62 : decode cX6_often 62 = .ok (.iload 6, 2) := by decide +kernel
theorem dX6_often_64 : decode cX6_often 64 = .ok (.iastore, 1) := by decide +kernel
theorem dX6_often_65 : decode cX6_often 65 = .ok (.aload_n 0, 1) := by decide +kernel
theorem dX6_often_66 : decode cX6_often 66 = .ok (.iconst 0, 1) := by decide +kernel
theorem dX6_often_67 : decode cX6_often 67 = .ok (.iconst 0, 1) := by decide +kernel
theorem dX6_often_68 : decode cX6_often 68 = .ok (.invokevirtual 155, 3) := by decide +kernel
theorem dX6_often_71 : decode cX6_often 71 = .ok (.lconst 0, 1) := by decide +kernel
theorem dX6_often_72 : decode cX6_often 72 = .ok (.lstore 7, 2) := by decide +kernel
theorem dX6_often_74 : decode cX6_often 74 = .ok (.iconst 0, 1) := by decide +kernel
theorem dX6_often_75 : decode cX6_often 75 = .ok (.istore 9, 2) := by decide +kernel
theorem dX6_often_77 : decode cX6_often 77 = .ok (.iload 9, 2) := by decide +kernel
theorem dX6_often_79 : decode cX6_often 79 = .ok (.bipush 8, 2) := by decide +kernel
theorem dX6_often_81 : decode cX6_often 81 = .ok (.if_icmp .ge 41, 3) := by decide +kernel
theorem dX6_often_84 : decode cX6_often 84 = .ok (.lload 7, 2) := by decide +kernel
theorem dX6_often_86 : decode cX6_often 86 = .ok (.iload 9, 2) := by decide +kernel
theorem dX6_often_88 : decode cX6_often 88 = .ok (.iload_n 1, 1) := by decide +kernel
theorem dX6_often_89 : decode cX6_often 89 = .ok (.ixor, 1) := by decide +kernel
theorem dX6_often_90 : decode cX6_often 90 = .ok (.iload_n 2, 1) := by decide +kernel
theorem dX6_often_91 : decode cX6_often 91 = .ok (.ishr, 1) := by decide +kernel
theorem dX6_often_92 : decode cX6_often 92 = .ok (.iconst 1, 1) := by decide +kernel
theorem dX6_often_93 : decode cX6_often 93 = .ok (.iand, 1) := by decide +kernel
theorem dX6_often_94 : decode cX6_often 94 = .ok (.ifCond .ne 18, 3) := by decide +kernel
theorem dX6_often_97 : decode cX6_often 97 = .ok (.aload_n 0, 1) := by decide +kernel
theorem dX6_often_98 : decode cX6_often 98 = .ok (.getfield 25, 3) := by decide +kernel
theorem dX6_often_101 : decode cX6_often 101 = .ok (.bipush 8, 2) := by decide +kernel
theorem dX6_often_103 : decode cX6_often 103 = .ok (.iload_n 1, 1) := by decide +kernel
theorem dX6_often_104 : decode cX6_often 104 = .ok (.imul, 1) := by decide +kernel
theorem dX6_often_105 : decode cX6_often 105 = .ok (.iload 9, 2) := by decide +kernel
theorem dX6_often_107 : decode cX6_often 107 = .ok (.iadd, 1) := by decide +kernel
theorem dX6_often_108 : decode cX6_often 108 = .ok (.laload, 1) := by decide +kernel
theorem dX6_often_109 : decode cX6_often 109 = .ok (.goto 4, 3) := by decide +kernel
theorem dX6_often_112 : decode cX6_often 112 = .ok (.lconst 0, 1) := by decide +kernel
theorem dX6_often_113 : decode cX6_often 113 = .ok (.ladd, 1) := by decide +kernel
theorem dX6_often_114 : decode cX6_often 114 = .ok (.lstore 7, 2) := by decide +kernel
theorem dX6_often_116 : decode cX6_often 116 = .ok (.iinc 9 1, 3) := by decide +kernel
theorem dX6_often_119 : decode cX6_often 119 = .ok (.goto (-42), 3) := by decide +kernel
theorem dX6_often_122 : decode cX6_often 122 = .ok (.lload 7, 2) := by decide +kernel
theorem dX6_often_124 : decode cX6_often 124 = .ok (.ldc2_w 137, 3) := by decide +kernel
theorem dX6_often_127 : decode cX6_often 127 = .ok (.lmul, 1) := by decide +kernel
theorem dX6_often_128 : decode cX6_often 128 = .ok (.iload_n 3, 1) := by decide +kernel
theorem dX6_often_129 : decode cX6_often 129 = .ok (.i2l, 1) := by decide +kernel
theorem dX6_often_130 : decode cX6_often 130 = .ok (.aload_n 0, 1) := by decide +kernel
theorem dX6_often_131 : decode cX6_often 131 = .ok (.getfield 143, 3) := by decide +kernel
theorem dX6_often_134 : decode cX6_often 134 = .ok (.lmul, 1) := by decide +kernel
theorem dX6_often_135 : decode cX6_often 135 = .ok (.lcmp, 1) := by decide +kernel
theorem dX6_often_136 : decode cX6_often 136 = .ok (.ifCond .lt 8, 3) := by decide +kernel
theorem dX6_often_139 : decode cX6_often 139 = .ok (.iload 6, 2) := by decide +kernel
theorem dX6_often_141 : decode cX6_often 141 = .ok (.goto 5, 3) := by decide +kernel
theorem dX6_often_144 : decode cX6_often 144 = .ok (.bipush (-6), 2) := by decide +kernel
theorem dX6_often_146 : decode cX6_often 146 = .ok (.istore 5, 2) := by decide +kernel
theorem dX6_often_148 : decode cX6_often 148 = .ok (.iinc 6 1, 3) := by decide +kernel
theorem dX6_often_151 : decode cX6_often 151 = .ok (.goto (-105), 3) := by decide +kernel
theorem dX6_often_154 : decode cX6_often 154 = .ok (.aload_n 0, 1) := by decide +kernel
theorem dX6_often_155 : decode cX6_often 155 = .ok (.getfield 7, 3) := by decide +kernel
theorem dX6_often_158 : decode cX6_often 158 = .ok (.iload_n 2, 1) := by decide +kernel
theorem dX6_often_159 : decode cX6_often 159 = .ok (.iload 4, 2) := by decide +kernel
theorem dX6_often_161 : decode cX6_often 161 = .ok (.iastore, 1) := by decide +kernel
theorem dX6_often_162 : decode cX6_often 162 = .ok (.iload 5, 2) := by decide +kernel
theorem dX6_often_164 : decode cX6_often 164 = .ok (.ireturn, 1) := by decide +kernel
theorem dX6_choose_0 : decode cX6_choose 0 = .ok (.iconst 0, 1) := by decide +kernel
theorem dX6_choose_1 : decode cX6_choose 1 = .ok (.istore_n 3, 1) := by decide +kernel
theorem dX6_choose_2 : decode cX6_choose 2 = .ok (.iload_n 3, 1) := by decide +kernel
theorem dX6_choose_3 : decode cX6_choose 3 = .ok (.iconst 4, 1) := by decide +kernel
theorem dX6_choose_4 : decode cX6_choose 4 = .ok (.if_icmp .ge 16, 3) := by decide +kernel
theorem dX6_choose_7 : decode cX6_choose 7 = .ok (.aload_n 0, 1) := by decide +kernel
theorem dX6_choose_8 : decode cX6_choose 8 = .ok (.getfield 38, 3) := by decide +kernel
theorem dX6_choose_11 : decode cX6_choose 11 = .ok (.iload_n 3, 1) := by decide +kernel
theorem dX6_choose_12 : decode cX6_choose 12 = .ok (.iconst 0, 1) := by decide +kernel
theorem dX6_choose_13 : decode cX6_choose 13 = .ok (.iastore, 1) := by decide +kernel
theorem dX6_choose_14 : decode cX6_choose 14 = .ok (.iinc 3 1, 3) := by decide +kernel
theorem dX6_choose_17 : decode cX6_choose 17 = .ok (.goto (-15), 3) := by decide +kernel
theorem dX6_choose_20 : decode cX6_choose 20 = .ok (.aload_n 0, 1) := by decide +kernel
theorem dX6_choose_21 : decode cX6_choose 21 = .ok (.iload_n 2, 1) := by decide +kernel
theorem dX6_choose_22 : decode cX6_choose 22 = .ok (.putfield 101, 3) := by decide +kernel
theorem dX6_choose_25 : decode cX6_choose 25 = .ok (.iconst 1, 1) := by decide +kernel
theorem dX6_choose_26 : decode cX6_choose 26 = .ok (.istore_n 3, 1) := by decide +kernel
theorem dX6_choose_27 : decode cX6_choose 27 = .ok (.iload_n 3, 1) := by decide +kernel
theorem dX6_choose_28 : decode cX6_choose 28 = .ok (.ifCond .eq 145, 3) := by decide +kernel
theorem dX6_choose_31 : decode cX6_choose 31 = .ok (.iconst 0, 1) := by decide +kernel
theorem dX6_choose_32 : decode cX6_choose 32 = .ok (.istore 4, 2) := by decide +kernel
theorem dX6_choose_34 : decode cX6_choose 34 = .ok (.iload 4, 2) := by decide +kernel
theorem dX6_choose_36 : decode cX6_choose 36 = .ok (.iload_n 2, 1) := by decide +kernel
theorem dX6_choose_37 : decode cX6_choose 37 = .ok (.if_icmp .ge 37, 3) := by decide +kernel
theorem dX6_choose_40 : decode cX6_choose 40 = .ok (.aload_n 0, 1) := by decide +kernel
theorem dX6_choose_41 : decode cX6_choose 41 = .ok (.getfield 22, 3) := by decide +kernel
theorem dX6_choose_44 : decode cX6_choose 44 = .ok (.iload 4, 2) := by decide +kernel
theorem dX6_choose_46 : decode cX6_choose 46 = .ok (.iconst 2, 1) := by decide +kernel
theorem dX6_choose_47 : decode cX6_choose 47 = .ok (.aload_n 0, 1) := by decide +kernel
theorem dX6_choose_48 : decode cX6_choose 48 = .ok (.getfield 38, 3) := by decide +kernel
theorem dX6_choose_51 : decode cX6_choose 51 = .ok (.iload 4, 2) := by decide +kernel
theorem dX6_choose_53 : decode cX6_choose 53 = .ok (.iaload, 1) := by decide +kernel
theorem dX6_choose_54 : decode cX6_choose 54 = .ok (.imul, 1) := by decide +kernel
theorem dX6_choose_55 : decode cX6_choose 55 = .ok (.iload_n 1, 1) := by decide +kernel
theorem dX6_choose_56 : decode cX6_choose 56 = .ok (.aload_n 0, 1) := by decide +kernel
theorem dX6_choose_57 : decode cX6_choose 57 = .ok (.getfield 38, 3) := by decide +kernel
theorem dX6_choose_60 : decode cX6_choose 60 = .ok (.iload 4, 2) := by decide +kernel
theorem dX6_choose_62 : decode cX6_choose 62 = .ok (.iaload, 1) := by decide +kernel
theorem dX6_choose_63 : decode cX6_choose 63 = .ok (.ishr, 1) := by decide +kernel
theorem dX6_choose_64 : decode cX6_choose 64 = .ok (.iconst 1, 1) := by decide +kernel
theorem dX6_choose_65 : decode cX6_choose 65 = .ok (.iand, 1) := by decide +kernel
theorem dX6_choose_66 : decode cX6_choose 66 = .ok (.iadd, 1) := by decide +kernel
theorem dX6_choose_67 : decode cX6_choose 67 = .ok (.iastore, 1) := by decide +kernel
theorem dX6_choose_68 : decode cX6_choose 68 = .ok (.iinc 4 1, 3) := by decide +kernel
theorem dX6_choose_71 : decode cX6_choose 71 = .ok (.goto (-37), 3) := by decide +kernel
theorem dX6_choose_74 : decode cX6_choose 74 = .ok (.aload_n 0, 1) := by decide +kernel
theorem dX6_choose_75 : decode cX6_choose 75 = .ok (.invokevirtual 134, 3) := by decide +kernel
theorem dX6_choose_78 : decode cX6_choose 78 = .ok (.iload_n 1, 1) := by decide +kernel
theorem dX6_choose_79 : decode cX6_choose 79 = .ok (.if_icmp .ne 5, 3) := by decide +kernel
theorem dX6_choose_82 : decode cX6_choose 82 = .ok (.iconst 1, 1) := by decide +kernel
theorem dX6_choose_83 : decode cX6_choose 83 = .ok (.ireturn, 1) := by decide +kernel
theorem dX6_choose_84 : decode cX6_choose 84 = .ok (.iload_n 2, 1) := by decide +kernel
theorem dX6_choose_85 : decode cX6_choose 85 = .ok (.iconst 1, 1) := by decide +kernel
theorem dX6_choose_86 : decode cX6_choose 86 = .ok (.isub, 1) := by decide +kernel
theorem dX6_choose_87 : decode cX6_choose 87 = .ok (.istore 4, 2) := by decide +kernel
theorem dX6_choose_89 : decode cX6_choose 89 = .ok (.iload 4, 2) := by decide +kernel
theorem dX6_choose_91 : decode cX6_choose 91 = .ok (.ifCond .lt 20, 3) := by decide +kernel
theorem dX6_choose_94 : decode cX6_choose 94 = .ok (.aload_n 0, 1) := by decide +kernel
theorem dX6_choose_95 : decode cX6_choose 95 = .ok (.getfield 38, 3) := by decide +kernel
theorem dX6_choose_98 : decode cX6_choose 98 = .ok (.iload 4, 2) := by decide +kernel
theorem dX6_choose_100 : decode cX6_choose 100 = .ok (.iaload, 1) := by decide +kernel
theorem dX6_choose_101 : decode cX6_choose 101 = .ok (.iconst 2, 1) := by decide +kernel
theorem dX6_choose_102 : decode cX6_choose 102 = .ok (.if_icmp .ne 9, 3) := by decide +kernel
theorem dX6_choose_105 : decode cX6_choose 105 = .ok (.iinc 4 (-1), 3) := by decide +kernel
theorem dX6_choose_108 : decode cX6_choose 108 = .ok (.goto (-19), 3) := by decide +kernel
theorem dX6_choose_111 : decode cX6_choose 111 = .ok (.iload 4, 2) := by decide +kernel
theorem dX6_choose_113 : decode cX6_choose 113 = .ok (.ifCond .lt 7, 3) := by decide +kernel
theorem dX6_choose_116 : decode cX6_choose 116 = .ok (.iconst 1, 1) := by decide +kernel
theorem dX6_choose_117 : decode cX6_choose 117 = .ok (.goto 4, 3) := by decide +kernel
theorem dX6_choose_120 : decode cX6_choose 120 = .ok (.iconst 0, 1) := by decide +kernel
theorem dX6_choose_121 : decode cX6_choose 121 = .ok (.istore_n 3, 1) := by decide +kernel
theorem dX6_choose_122 : decode cX6_choose 122 = .ok (.iload_n 3, 1) := by decide +kernel
theorem dX6_choose_123 : decode cX6_choose 123 = .ok (.ifCond .eq 15, 3) := by decide +kernel
theorem dX6_choose_126 : decode cX6_choose 126 = .ok (.aload_n 0, 1) := by decide +kernel
theorem dX6_choose_127 : decode cX6_choose 127 = .ok (.getfield 38, 3) := by decide +kernel
theorem dX6_choose_130 : decode cX6_choose 130 = .ok (.iload 4, 2) := by decide +kernel
theorem dX6_choose_132 : decode cX6_choose 132 = .ok (.iaload, 1) := by decide +kernel
theorem dX6_choose_133 : decode cX6_choose 133 = .ok (.iconst 1, 1) := by decide +kernel
theorem dX6_choose_134 : decode cX6_choose 134 = .ok (.iadd, 1) := by decide +kernel
theorem dX6_choose_135 : decode cX6_choose 135 = .ok (.goto 4, 3) := by decide +kernel
theorem dX6_choose_138 : decode cX6_choose 138 = .ok (.iconst 0, 1) := by decide +kernel
theorem dX6_choose_139 : decode cX6_choose 139 = .ok (.istore 5, 2) := by decide +kernel
theorem dX6_choose_141 : decode cX6_choose 141 = .ok (.iload 4, 2) := by decide +kernel
theorem dX6_choose_143 : decode cX6_choose 143 = .ok (.istore 6, 2) := by decide +kernel
theorem dX6_choose_145 : decode cX6_choose 145 = .ok (.iload 6, 2) := by decide +kernel
theorem dX6_choose_147 : decode cX6_choose 147 = .ok (.iload_n 2, 1) := by decide +kernel
theorem dX6_choose_148 : decode cX6_choose 148 = .ok (.if_icmp .ge 22, 3) := by decide +kernel
theorem dX6_choose_151 : decode cX6_choose 151 = .ok (.iload_n 3, 1) := by decide +kernel
theorem dX6_choose_152 : decode cX6_choose 152 = .ok (.ifCond .eq 18, 3) := by decide +kernel
theorem dX6_choose_155 : decode cX6_choose 155 = .ok (.aload_n 0, 1) := by decide +kernel
theorem dX6_choose_156 : decode cX6_choose 156 = .ok (.getfield 38, 3) := by decide +kernel
theorem dX6_choose_159 : decode cX6_choose 159 = .ok (.iload 6, 2) := by decide +kernel
theorem dX6_choose_161 : decode cX6_choose 161 = .ok (.iload 5, 2) := by decide +kernel
theorem dX6_choose_163 : decode cX6_choose 163 = .ok (.iastore, 1) := by decide +kernel
theorem dX6_choose_164 : decode cX6_choose 164 = .ok (.iinc 6 1, 3) := by decide +kernel
theorem dX6_choose_167 : decode cX6_choose 167 = .ok (.goto (-22), 3) := by decide +kernel
theorem dX6_choose_170 : decode cX6_choose 170 = .ok (.goto (-143), 3) := by decide +kernel
theorem dX6_choose_173 : decode cX6_choose 173 = .ok (.iconst 0, 1) := by decide +kernel
theorem dX6_choose_174 : decode cX6_choose 174 = .ok (.ireturn, 1) := by decide +kernel
theorem dX6_chosen_0 : decode cX6_chosen 0 = .ok (.iload_n 1, 1) := by decide +kernel
theorem dX6_chosen_1 : decode cX6_chosen 1 = .ok (.invokestatic 92, 3) := by decide +kernel
theorem dX6_chosen_4 : decode cX6_chosen 4 = .ok (.ifCond .ne 5, 3) := by decide +kernel
theorem dX6_chosen_7 : decode cX6_chosen 7 = .ok (.iconst (-1), 1) := by decide +kernel
theorem dX6_chosen_8 : decode cX6_chosen 8 = .ok (.ireturn, 1) := by decide +kernel
theorem dX6_chosen_9 : decode cX6_chosen 9 = .ok (.iconst 1, 1) := by decide +kernel
theorem dX6_chosen_10 : decode cX6_chosen 10 = .ok (.istore_n 3, 1) := by decide +kernel
theorem dX6_chosen_11 : decode cX6_chosen 11 = .ok (.iload_n 3, 1) := by decide +kernel
theorem dX6_chosen_12 : decode cX6_chosen 12 = .ok (.iconst 5, 1) := by decide +kernel
theorem dX6_chosen_13 : decode cX6_chosen 13 = .ok (.if_icmp .ge 18, 3) := by decide +kernel
theorem dX6_chosen_16 : decode cX6_chosen 16 = .ok (.aload_n 0, 1) := by decide +kernel
theorem dX6_chosen_17 : decode cX6_chosen 17 = .ok (.iload_n 1, 1) := by decide +kernel
theorem dX6_chosen_18 : decode cX6_chosen 18 = .ok (.iload_n 3, 1) := by decide +kernel
theorem dX6_chosen_19 : decode cX6_chosen 19 = .ok (.invokevirtual 176, 3) := by decide +kernel
theorem dX6_chosen_22 : decode cX6_chosen 22 = .ok (.ifCond .ne 9, 3) := by decide +kernel
theorem dX6_chosen_25 : decode cX6_chosen 25 = .ok (.iinc 3 1, 3) := by decide +kernel
theorem dX6_chosen_28 : decode cX6_chosen 28 = .ok (.goto (-17), 3) := by decide +kernel
theorem dX6_chosen_31 : decode cX6_chosen 31 = .ok (.iload_n 3, 1) := by decide +kernel
theorem dX6_chosen_32 : decode cX6_chosen 32 = .ok (.iconst 5, 1) := by decide +kernel
theorem dX6_chosen_33 : decode cX6_chosen 33 = .ok (.if_icmp .ne 6, 3) := by decide +kernel
theorem dX6_chosen_36 : decode cX6_chosen 36 = .ok (.bipush (-6), 2) := by decide +kernel
theorem dX6_chosen_38 : decode cX6_chosen 38 = .ok (.ireturn, 1) := by decide +kernel
theorem dX6_chosen_39 : decode cX6_chosen 39 = .ok (.iload_n 2, 1) := by decide +kernel
theorem dX6_chosen_40 : decode cX6_chosen 40 = .ok (.iconst (-1), 1) := by decide +kernel
theorem dX6_chosen_41 : decode cX6_chosen 41 = .ok (.if_icmp .ne 7, 3) := by decide +kernel
theorem dX6_chosen_44 : decode cX6_chosen 44 = .ok (.iload_n 3, 1) := by decide +kernel
theorem dX6_chosen_45 : decode cX6_chosen 45 = .ok (.goto 27, 3) := by decide +kernel
theorem dX6_chosen_48 : decode cX6_chosen 48 = .ok (.iload_n 2, 1) := by decide +kernel
theorem dX6_chosen_49 : decode cX6_chosen 49 = .ok (.i2l, 1) := by decide +kernel
theorem dX6_chosen_50 : decode cX6_chosen 50 = .ok (.lconst 0, 1) := by decide +kernel
theorem dX6_chosen_51 : decode cX6_chosen 51 = .ok (.iload_n 3, 1) := by decide +kernel
theorem dX6_chosen_52 : decode cX6_chosen 52 = .ok (.iconst 1, 1) := by decide +kernel
theorem dX6_chosen_53 : decode cX6_chosen 53 = .ok (.isub, 1) := by decide +kernel
theorem dX6_chosen_54 : decode cX6_chosen 54 = .ok (.i2l, 1) := by decide +kernel
theorem dX6_chosen_55 : decode cX6_chosen 55 = .ok (.invokestatic 53, 3) := by decide +kernel
theorem dX6_chosen_58 : decode cX6_chosen 58 = .ok (.ifCond .eq 12, 3) := by decide +kernel
theorem dX6_chosen_61 : decode cX6_chosen 61 = .ok (.aload_n 0, 1) := by decide +kernel
theorem dX6_chosen_62 : decode cX6_chosen 62 = .ok (.getfield 38, 3) := by decide +kernel
theorem dX6_chosen_65 : decode cX6_chosen 65 = .ok (.iload_n 2, 1) := by decide +kernel
theorem dX6_chosen_66 : decode cX6_chosen 66 = .ok (.iaload, 1) := by decide +kernel
theorem dX6_chosen_67 : decode cX6_chosen 67 = .ok (.goto 5, 3) := by decide +kernel
theorem dX6_chosen_70 : decode cX6_chosen 70 = .ok (.bipush (-6), 2) := by decide +kernel
theorem dX6_chosen_72 : decode cX6_chosen 72 = .ok (.ireturn, 1) := by decide +kernel
theorem dX6_findCame_0 : decode cX6_findCame 0 = .ok (.aload_n 0, 1) := by decide +kernel
theorem dX6_findCame_1 : decode cX6_findCame 1 = .ok (.iconst 0, 1) := by decide +kernel
theorem dX6_findCame_2 : decode cX6_findCame 2 = .ok (.iconst 0, 1) := by decide +kernel
theorem dX6_findCame_3 : decode cX6_findCame 3 = .ok (.invokevirtual 155, 3) := by decide +kernel
theorem dX6_findCame_6 : decode cX6_findCame 6 = .ok (.lconst 0, 1) := by decide +kernel
theorem dX6_findCame_7 : decode cX6_findCame 7 = .ok (.lstore_n 3, 1) := by decide +kernel
theorem dX6_findCame_8 : decode cX6_findCame 8 = .ok (.iconst 0, 1) := by decide +kernel
theorem dX6_findCame_9 : decode cX6_findCame 9 = .ok (.istore 5, 2) := by decide +kernel
theorem dX6_findCame_11 : decode cX6_findCame 11 = .ok (.iload 5, 2) := by decide +kernel
theorem dX6_findCame_13 : decode cX6_findCame 13 = .ok (.bipush 8, 2) := by decide +kernel
theorem dX6_findCame_15 : decode cX6_findCame 15 = .ok (.if_icmp .ge 39, 3) := by decide +kernel
theorem dX6_findCame_18 : decode cX6_findCame 18 = .ok (.aload_n 0, 1) := by decide +kernel
theorem dX6_findCame_19 : decode cX6_findCame 19 = .ok (.iload 5, 2) := by decide +kernel
theorem dX6_findCame_21 : decode cX6_findCame 21 = .ok (.iload_n 2, 1) := by decide +kernel
theorem dX6_findCame_22 : decode cX6_findCame 22 = .ok (.invokevirtual 167, 3) := by decide +kernel
theorem dX6_findCame_25 : decode cX6_findCame 25 = .ok (.aload_n 0, 1) := by decide +kernel
theorem dX6_findCame_26 : decode cX6_findCame 26 = .ok (.getfield 41, 3) := by decide +kernel
theorem dX6_findCame_29 : decode cX6_findCame 29 = .ok (.iload 5, 2) := by decide +kernel
theorem dX6_findCame_31 : decode cX6_findCame 31 = .ok (.aload_n 0, 1) := by decide +kernel
theorem dX6_findCame_32 : decode cX6_findCame 32 = .ok (.getfield 29, 3) := by decide +kernel
theorem dX6_findCame_35 : decode cX6_findCame 35 = .ok (.iload_n 1, 1) := by decide +kernel
theorem dX6_findCame_36 : decode cX6_findCame 36 = .ok (.laload, 1) := by decide +kernel
theorem dX6_findCame_37 : decode cX6_findCame 37 = .ok (.lastore, 1) := by decide +kernel
theorem dX6_findCame_38 : decode cX6_findCame 38 = .ok (.lload_n 3, 1) := by decide +kernel
theorem dX6_findCame_39 : decode cX6_findCame 39 = .ok (.aload_n 0, 1) := by decide +kernel
theorem dX6_findCame_40 : decode cX6_findCame 40 = .ok (.getfield 41, 3) := by decide +kernel
theorem dX6_findCame_43 : decode cX6_findCame 43 = .ok (.iload 5, 2) := by decide +kernel
theorem dX6_findCame_45 : decode cX6_findCame 45 = .ok (.laload, 1) := by decide +kernel
theorem dX6_findCame_46 : decode cX6_findCame 46 = .ok (.ladd, 1) := by decide +kernel
theorem dX6_findCame_47 : decode cX6_findCame 47 = .ok (.lstore_n 3, 1) := by decide +kernel
theorem dX6_findCame_48 : decode cX6_findCame 48 = .ok (.iinc 5 1, 3) := by decide +kernel
theorem dX6_findCame_51 : decode cX6_findCame 51 = .ok (.goto (-40), 3) := by decide +kernel
theorem dX6_findCame_54 : decode cX6_findCame 54 = .ok (.lload_n 3, 1) := by decide +kernel
theorem dX6_findCame_55 : decode cX6_findCame 55 = .ok (.lreturn, 1) := by decide +kernel
theorem dX6_back_0 : decode cX6_back 0 = .ok (.iload_n 1, 1) := by decide +kernel
theorem dX6_back_1 : decode cX6_back 1 = .ok (.invokestatic 92, 3) := by decide +kernel
theorem dX6_back_4 : decode cX6_back 4 = .ok (.ifCond .eq 10, 3) := by decide +kernel
theorem dX6_back_7 : decode cX6_back 7 = .ok (.iload_n 3, 1) := by decide +kernel
theorem dX6_back_8 : decode cX6_back 8 = .ok (.invokestatic 92, 3) := by decide +kernel
theorem dX6_back_11 : decode cX6_back 11 = .ok (.ifCond .ne 7, 3) := by decide +kernel
theorem dX6_back_14 : decode cX6_back 14 = .ok (.ldc2_w 117, 3) := by decide +kernel
theorem dX6_back_17 : decode cX6_back 17 = .ok (.lreturn, 1) := by decide +kernel
theorem dX6_back_18 : decode cX6_back 18 = .ok (.iload_n 2, 1) := by decide +kernel
theorem dX6_back_19 : decode cX6_back 19 = .ok (.invokestatic 162, 3) := by decide +kernel
theorem dX6_back_22 : decode cX6_back 22 = .ok (.ifCond .eq 11, 3) := by decide +kernel
theorem dX6_back_25 : decode cX6_back 25 = .ok (.iload 4, 2) := by decide +kernel
theorem dX6_back_27 : decode cX6_back 27 = .ok (.invokestatic 119, 3) := by decide +kernel
theorem dX6_back_30 : decode cX6_back 30 = .ok (.ifCond .ne 7, 3) := by decide +kernel
theorem dX6_back_33 : decode cX6_back 33 = .ok (.ldc2_w 122, 3) := by decide +kernel
theorem dX6_back_36 : decode cX6_back 36 = .ok (.lreturn, 1) := by decide +kernel
theorem dX6_back_37 : decode cX6_back 37 = .ok (.aload_n 0, 1) := by decide +kernel
theorem dX6_back_38 : decode cX6_back 38 = .ok (.getfield 48, 3) := by decide +kernel
theorem dX6_back_41 : decode cX6_back 41 = .ok (.iload_n 2, 1) := by decide +kernel
theorem dX6_back_42 : decode cX6_back 42 = .ok (.imul, 1) := by decide +kernel
theorem dX6_back_43 : decode cX6_back 43 = .ok (.bipush 8, 2) := by decide +kernel
theorem dX6_back_45 : decode cX6_back 45 = .ok (.if_icmp .le 7, 3) := by decide +kernel
theorem dX6_back_48 : decode cX6_back 48 = .ok (.ldc2_w 165, 3) := by decide +kernel
theorem dX6_back_51 : decode cX6_back 51 = .ok (.lreturn, 1) := by decide +kernel
theorem dX6_back_52 : decode cX6_back 52 = .ok (.aload_n 0, 1) := by decide +kernel
theorem dX6_back_53 : decode cX6_back 53 = .ok (.iload_n 1, 1) := by decide +kernel
theorem dX6_back_54 : decode cX6_back 54 = .ok (.iload_n 2, 1) := by decide +kernel
theorem dX6_back_55 : decode cX6_back 55 = .ok (.invokevirtual 179, 3) := by decide +kernel
theorem dX6_back_58 : decode cX6_back 58 = .ok (.lstore 5, 2) := by decide +kernel
theorem dX6_back_60 : decode cX6_back 60 = .ok (.aload_n 0, 1) := by decide +kernel
theorem dX6_back_61 : decode cX6_back 61 = .ok (.getfield 41, 3) := by decide +kernel
theorem dX6_back_64 : decode cX6_back 64 = .ok (.iload_n 3, 1) := by decide +kernel
theorem dX6_back_65 : decode cX6_back 65 = .ok (.laload, 1) := by decide +kernel
theorem dX6_back_66 : decode cX6_back 66 = .ok (.lload 5, 2) := by decide +kernel
theorem dX6_back_68 : decode cX6_back 68 = .ok (.iload 4, 2) := by decide +kernel
theorem dX6_back_70 : decode cX6_back 70 = .ok (.invokestatic 124, 3) := by decide +kernel
theorem dX6_back_73 : decode cX6_back 73 = .ok (.lreturn, 1) := by decide +kernel
theorem dX6_guess_0 : decode cX6_guess 0 = .ok (.iload_n 1, 1) := by decide +kernel
theorem dX6_guess_1 : decode cX6_guess 1 = .ok (.invokestatic 92, 3) := by decide +kernel
theorem dX6_guess_4 : decode cX6_guess 4 = .ok (.ifCond .ne 5, 3) := by decide +kernel
theorem dX6_guess_7 : decode cX6_guess 7 = .ok (.iconst (-1), 1) := by decide +kernel
theorem dX6_guess_8 : decode cX6_guess 8 = .ok (.ireturn, 1) := by decide +kernel
theorem dX6_guess_9 : decode cX6_guess 9 = .ok (.iload_n 2, 1) := by decide +kernel
theorem dX6_guess_10 : decode cX6_guess 10 = .ok (.invokestatic 162, 3) := by decide +kernel
theorem dX6_guess_13 : decode cX6_guess 13 = .ok (.ifCond .eq 13, 3) := by decide +kernel
theorem dX6_guess_16 : decode cX6_guess 16 = .ok (.iload_n 3, 1) := by decide +kernel
theorem dX6_guess_17 : decode cX6_guess 17 = .ok (.i2l, 1) := by decide +kernel
theorem dX6_guess_18 : decode cX6_guess 18 = .ok (.lconst 0, 1) := by decide +kernel
theorem dX6_guess_19 : decode cX6_guess 19 = .ok (.lconst 1, 1) := by decide +kernel
theorem dX6_guess_20 : decode cX6_guess 20 = .ok (.invokestatic 53, 3) := by decide +kernel
theorem dX6_guess_23 : decode cX6_guess 23 = .ok (.ifCond .ne 6, 3) := by decide +kernel
theorem dX6_guess_26 : decode cX6_guess 26 = .ok (.bipush (-2), 2) := by decide +kernel
theorem dX6_guess_28 : decode cX6_guess 28 = .ok (.ireturn, 1) := by decide +kernel
theorem dX6_guess_29 : decode cX6_guess 29 = .ok (.aload_n 0, 1) := by decide +kernel
theorem dX6_guess_30 : decode cX6_guess 30 = .ok (.getfield 48, 3) := by decide +kernel
theorem dX6_guess_33 : decode cX6_guess 33 = .ok (.iload_n 2, 1) := by decide +kernel
theorem dX6_guess_34 : decode cX6_guess 34 = .ok (.imul, 1) := by decide +kernel
theorem dX6_guess_35 : decode cX6_guess 35 = .ok (.bipush 8, 2) := by decide +kernel
theorem dX6_guess_37 : decode cX6_guess 37 = .ok (.if_icmp .le 6, 3) := by decide +kernel
theorem dX6_guess_40 : decode cX6_guess 40 = .ok (.bipush (-3), 2) := by decide +kernel
theorem dX6_guess_42 : decode cX6_guess 42 = .ok (.ireturn, 1) := by decide +kernel
theorem dX6_guess_43 : decode cX6_guess 43 = .ok (.aload_n 0, 1) := by decide +kernel
theorem dX6_guess_44 : decode cX6_guess 44 = .ok (.iload_n 1, 1) := by decide +kernel
theorem dX6_guess_45 : decode cX6_guess 45 = .ok (.iload_n 2, 1) := by decide +kernel
theorem dX6_guess_46 : decode cX6_guess 46 = .ok (.invokevirtual 179, 3) := by decide +kernel
theorem dX6_guess_49 : decode cX6_guess 49 = .ok (.lstore 4, 2) := by decide +kernel
theorem dX6_guess_51 : decode cX6_guess 51 = .ok (.iconst 0, 1) := by decide +kernel
theorem dX6_guess_52 : decode cX6_guess 52 = .ok (.istore 6, 2) := by decide +kernel
theorem dX6_guess_54 : decode cX6_guess 54 = .ok (.iconst 1, 1) := by decide +kernel
theorem dX6_guess_55 : decode cX6_guess 55 = .ok (.istore 7, 2) := by decide +kernel
theorem dX6_guess_57 : decode cX6_guess 57 = .ok (.iconst 1, 1) := by decide +kernel
theorem dX6_guess_58 : decode cX6_guess 58 = .ok (.istore 8, 2) := by decide +kernel
theorem dX6_guess_60 : decode cX6_guess 60 = .ok (.iload 8, 2) := by decide +kernel
theorem dX6_guess_62 : decode cX6_guess 62 = .ok (.bipush 8, 2) := by decide +kernel
theorem dX6_guess_64 : decode cX6_guess 64 = .ok (.if_icmp .ge 65, 3) := by decide +kernel
theorem dX6_guess_67 : decode cX6_guess 67 = .ok (.aload_n 0, 1) := by decide +kernel
theorem dX6_guess_68 : decode cX6_guess 68 = .ok (.getfield 41, 3) := by decide +kernel
theorem dX6_guess_71 : decode cX6_guess 71 = .ok (.iload 8, 2) := by decide +kernel
theorem dX6_guess_73 : decode cX6_guess 73 = .ok (.laload, 1) := by decide +kernel
theorem dX6_guess_74 : decode cX6_guess 74 = .ok (.aload_n 0, 1) := by decide +kernel
theorem dX6_guess_75 : decode cX6_guess 75 = .ok (.getfield 41, 3) := by decide +kernel
theorem dX6_guess_78 : decode cX6_guess 78 = .ok (.iload 6, 2) := by decide +kernel
theorem dX6_guess_80 : decode cX6_guess 80 = .ok (.laload, 1) := by decide +kernel
theorem dX6_guess_81 : decode cX6_guess 81 = .ok (.lcmp, 1) := by decide +kernel
theorem dX6_guess_82 : decode cX6_guess 82 = .ok (.ifCond .le 8, 3) := by decide +kernel
theorem dX6_guess_85 : decode cX6_guess 85 = .ok (.iload 8, 2) := by decide +kernel
theorem dX6_guess_87 : decode cX6_guess 87 = .ok (.goto 5, 3) := by decide +kernel
theorem dX6_guess_90 : decode cX6_guess 90 = .ok (.iload 6, 2) := by decide +kernel
theorem dX6_guess_92 : decode cX6_guess 92 = .ok (.istore 6, 2) := by decide +kernel
theorem dX6_guess_94 : decode cX6_guess 94 = .ok (.iload 7, 2) := by decide +kernel
theorem dX6_guess_96 : decode cX6_guess 96 = .ok (.ifCond .eq 24, 3) := by decide +kernel
theorem dX6_guess_99 : decode cX6_guess 99 = .ok (.aload_n 0, 1) := by decide +kernel
theorem dX6_guess_100 : decode cX6_guess 100 = .ok (.getfield 41, 3) := by decide +kernel
theorem dX6_guess_103 : decode cX6_guess 103 = .ok (.iload 8, 2) := by decide +kernel
theorem dX6_guess_105 : decode cX6_guess 105 = .ok (.laload, 1) := by decide +kernel
theorem dX6_guess_106 : decode cX6_guess 106 = .ok (.aload_n 0, 1) := by decide +kernel
theorem dX6_guess_107 : decode cX6_guess 107 = .ok (.getfield 41, 3) := by decide +kernel
theorem dX6_guess_110 : decode cX6_guess 110 = .ok (.iconst 0, 1) := by decide +kernel
theorem dX6_guess_111 : decode cX6_guess 111 = .ok (.laload, 1) := by decide +kernel
theorem dX6_guess_112 : decode cX6_guess 112 = .ok (.lcmp, 1) := by decide +kernel
theorem dX6_guess_113 : decode cX6_guess 113 = .ok (.ifCond .ne 7, 3) := by decide +kernel
theorem dX6_guess_116 : decode cX6_guess 116 = .ok (.iconst 1, 1) := by decide +kernel
theorem dX6_guess_117 : decode cX6_guess 117 = .ok (.goto 4, 3) := by decide +kernel
theorem dX6_guess_120 : decode cX6_guess 120 = .ok (.iconst 0, 1) := by decide +kernel
theorem dX6_guess_121 : decode cX6_guess 121 = .ok (.istore 7, 2) := by decide +kernel
theorem dX6_guess_123 : decode cX6_guess 123 = .ok (.iinc 8 1, 3) := by decide +kernel
theorem dX6_guess_126 : decode cX6_guess 126 = .ok (.goto (-66), 3) := by decide +kernel
theorem dX6_guess_129 : decode cX6_guess 129 = .ok (.iload_n 3, 1) := by decide +kernel
theorem dX6_guess_130 : decode cX6_guess 130 = .ok (.iconst 1, 1) := by decide +kernel
theorem dX6_guess_131 : decode cX6_guess 131 = .ok (.if_icmp .ne 16, 3) := by decide +kernel
theorem dX6_guess_134 : decode cX6_guess 134 = .ok (.iload 7, 2) := by decide +kernel
theorem dX6_guess_136 : decode cX6_guess 136 = .ok (.ifCond .eq 7, 3) := by decide +kernel
theorem dX6_guess_139 : decode cX6_guess 139 = .ok (.iconst 1, 1) := by decide +kernel
theorem dX6_guess_140 : decode cX6_guess 140 = .ok (.goto 21, 3) := by decide +kernel
theorem dX6_guess_143 : decode cX6_guess 143 = .ok (.iconst 0, 1) := by decide +kernel
theorem dX6_guess_144 : decode cX6_guess 144 = .ok (.goto 17, 3) := by decide +kernel
theorem dX6_guess_147 : decode cX6_guess 147 = .ok (.lload 4, 2) := by decide +kernel
theorem dX6_guess_149 : decode cX6_guess 149 = .ok (.lconst 0, 1) := by decide +kernel
theorem dX6_guess_150 : decode cX6_guess 150 = .ok (.lcmp, 1) := by decide +kernel
theorem dX6_guess_151 : decode cX6_guess 151 = .ok (.ifCond .ne 8, 3) := by decide +kernel
theorem dX6_guess_154 : decode cX6_guess 154 = .ok (.bipush (-6), 2) := by decide +kernel
theorem dX6_guess_156 : decode cX6_guess 156 = .ok (.goto 5, 3) := by decide +kernel
theorem dX6_guess_159 : decode cX6_guess 159 = .ok (.iload 6, 2) := by decide +kernel
theorem dX6_guess_161 : decode cX6_guess 161 = .ok (.ireturn, 1) := by decide +kernel
theorem dX6_told_0 : decode cX6_told 0 = .ok (.iload_n 1, 1) := by decide +kernel
theorem dX6_told_1 : decode cX6_told 1 = .ok (.i2l, 1) := by decide +kernel
theorem dX6_told_2 : decode cX6_told 2 = .ok (.ldc2_w 182, 3) := by decide +kernel
theorem dX6_told_5 : decode cX6_told 5 = .ok (.ldc2_w 137, 3) := by decide +kernel
theorem dX6_told_8 : decode cX6_told 8 = .ok (.invokestatic 53, 3) := by decide +kernel
theorem dX6_told_11 : decode cX6_told 11 = .ok (.ifCond .eq 13, 3) := by decide +kernel
theorem dX6_told_14 : decode cX6_told 14 = .ok (.aload_n 0, 1) := by decide +kernel
theorem dX6_told_15 : decode cX6_told 15 = .ok (.getfield 7, 3) := by decide +kernel
theorem dX6_told_18 : decode cX6_told 18 = .ok (.iload_n 1, 1) := by decide +kernel
theorem dX6_told_19 : decode cX6_told 19 = .ok (.bipush 10, 2) := by decide +kernel
theorem dX6_told_21 : decode cX6_told 21 = .ok (.isub, 1) := by decide +kernel
theorem dX6_told_22 : decode cX6_told 22 = .ok (.iaload, 1) := by decide +kernel
theorem dX6_told_23 : decode cX6_told 23 = .ok (.ireturn, 1) := by decide +kernel
theorem dX6_told_24 : decode cX6_told 24 = .ok (.iload_n 1, 1) := by decide +kernel
theorem dX6_told_25 : decode cX6_told 25 = .ok (.i2l, 1) := by decide +kernel
theorem dX6_told_26 : decode cX6_told 26 = .ok (.lconst 0, 1) := by decide +kernel
theorem dX6_told_27 : decode cX6_told 27 = .ok (.ldc2_w 51, 3) := by decide +kernel
theorem dX6_told_30 : decode cX6_told 30 = .ok (.invokestatic 53, 3) := by decide +kernel
theorem dX6_told_33 : decode cX6_told 33 = .ok (.ifCond .eq 11, 3) := by decide +kernel
theorem dX6_told_36 : decode cX6_told 36 = .ok (.aload_n 0, 1) := by decide +kernel
theorem dX6_told_37 : decode cX6_told 37 = .ok (.iload_n 1, 1) := by decide +kernel
theorem dX6_told_38 : decode cX6_told 38 = .ok (.invokevirtual 70, 3) := by decide +kernel
theorem dX6_told_41 : decode cX6_told 41 = .ok (.goto 29, 3) := by decide +kernel
theorem dX6_told_44 : decode cX6_told 44 = .ok (.iload_n 1, 1) := by decide +kernel
theorem dX6_told_45 : decode cX6_told 45 = .ok (.iconst 3, 1) := by decide +kernel
theorem dX6_told_46 : decode cX6_told 46 = .ok (.if_icmp .ne 10, 3) := by decide +kernel
theorem dX6_told_49 : decode cX6_told 49 = .ok (.aload_n 0, 1) := by decide +kernel
theorem dX6_told_50 : decode cX6_told 50 = .ok (.getfield 78, 3) := by decide +kernel
theorem dX6_told_53 : decode cX6_told 53 = .ok (.goto 17, 3) := by decide +kernel
theorem dX6_told_56 : decode cX6_told 56 = .ok (.iload_n 1, 1) := by decide +kernel
theorem dX6_told_57 : decode cX6_told 57 = .ok (.iconst 4, 1) := by decide +kernel
theorem dX6_told_58 : decode cX6_told 58 = .ok (.if_icmp .ne 10, 3) := by decide +kernel
theorem dX6_told_61 : decode cX6_told 61 = .ok (.aload_n 0, 1) := by decide +kernel
theorem dX6_told_62 : decode cX6_told 62 = .ok (.getfield 98, 3) := by decide +kernel
theorem dX6_told_65 : decode cX6_told 65 = .ok (.goto 5, 3) := by decide +kernel
theorem dX6_told_68 : decode cX6_told 68 = .ok (.bipush (-2), 2) := by decide +kernel
theorem dX6_told_70 : decode cX6_told 70 = .ok (.ireturn, 1) := by decide +kernel
theorem dJ6_bitCount_0f7a4_0 : decode cJ6_bitCount_0f7a4 0 = .ok (.iload_n 0, 1) := by decide +kernel
theorem dJ6_bitCount_0f7a4_1 : decode cJ6_bitCount_0f7a4 1 = .ok (.iload_n 0, 1) := by decide +kernel
theorem dJ6_bitCount_0f7a4_2 : decode cJ6_bitCount_0f7a4 2 = .ok (.iconst 1, 1) := by decide +kernel
theorem dJ6_bitCount_0f7a4_3 : decode cJ6_bitCount_0f7a4 3 = .ok (.iushr, 1) := by decide +kernel
theorem dJ6_bitCount_0f7a4_4 : decode cJ6_bitCount_0f7a4 4 = .ok (.ldc_w 265, 3) := by decide +kernel
theorem dJ6_bitCount_0f7a4_7 : decode cJ6_bitCount_0f7a4 7 = .ok (.iand, 1) := by decide +kernel
theorem dJ6_bitCount_0f7a4_8 : decode cJ6_bitCount_0f7a4 8 = .ok (.isub, 1) := by decide +kernel
theorem dJ6_bitCount_0f7a4_9 : decode cJ6_bitCount_0f7a4 9 = .ok (.istore_n 0, 1) := by decide +kernel
theorem dJ6_bitCount_0f7a4_10 : decode cJ6_bitCount_0f7a4 10 = .ok (.iload_n 0, 1) := by decide +kernel
theorem dJ6_bitCount_0f7a4_11 : decode cJ6_bitCount_0f7a4 11 = .ok (.ldc_w 266, 3) := by decide +kernel
theorem dJ6_bitCount_0f7a4_14 : decode cJ6_bitCount_0f7a4 14 = .ok (.iand, 1) := by decide +kernel
theorem dJ6_bitCount_0f7a4_15 : decode cJ6_bitCount_0f7a4 15 = .ok (.iload_n 0, 1) := by decide +kernel
theorem dJ6_bitCount_0f7a4_16 : decode cJ6_bitCount_0f7a4 16 = .ok (.iconst 2, 1) := by decide +kernel
theorem dJ6_bitCount_0f7a4_17 : decode cJ6_bitCount_0f7a4 17 = .ok (.iushr, 1) := by decide +kernel
theorem dJ6_bitCount_0f7a4_18 : decode cJ6_bitCount_0f7a4 18 = .ok (.ldc_w 266, 3) := by decide +kernel
theorem dJ6_bitCount_0f7a4_21 : decode cJ6_bitCount_0f7a4 21 = .ok (.iand, 1) := by decide +kernel
theorem dJ6_bitCount_0f7a4_22 : decode cJ6_bitCount_0f7a4 22 = .ok (.iadd, 1) := by decide +kernel
theorem dJ6_bitCount_0f7a4_23 : decode cJ6_bitCount_0f7a4 23 = .ok (.istore_n 0, 1) := by decide +kernel
theorem dJ6_bitCount_0f7a4_24 : decode cJ6_bitCount_0f7a4 24 = .ok (.iload_n 0, 1) := by decide +kernel
theorem dJ6_bitCount_0f7a4_25 : decode cJ6_bitCount_0f7a4 25 = .ok (.iload_n 0, 1) := by decide +kernel
theorem dJ6_bitCount_0f7a4_26 : decode cJ6_bitCount_0f7a4 26 = .ok (.iconst 4, 1) := by decide +kernel
theorem dJ6_bitCount_0f7a4_27 : decode cJ6_bitCount_0f7a4 27 = .ok (.iushr, 1) := by decide +kernel
theorem dJ6_bitCount_0f7a4_28 : decode cJ6_bitCount_0f7a4 28 = .ok (.iadd, 1) := by decide +kernel
theorem dJ6_bitCount_0f7a4_29 : decode cJ6_bitCount_0f7a4 29 = .ok (.ldc_w 267, 3) := by decide +kernel
theorem dJ6_bitCount_0f7a4_32 : decode cJ6_bitCount_0f7a4 32 = .ok (.iand, 1) := by decide +kernel
theorem dJ6_bitCount_0f7a4_33 : decode cJ6_bitCount_0f7a4 33 = .ok (.istore_n 0, 1) := by decide +kernel
theorem dJ6_bitCount_0f7a4_34 : decode cJ6_bitCount_0f7a4 34 = .ok (.iload_n 0, 1) := by decide +kernel
theorem dJ6_bitCount_0f7a4_35 : decode cJ6_bitCount_0f7a4 35 = .ok (.iload_n 0, 1) := by decide +kernel
theorem dJ6_bitCount_0f7a4_36 : decode cJ6_bitCount_0f7a4 36 = .ok (.bipush 8, 2) := by decide +kernel
theorem dJ6_bitCount_0f7a4_38 : decode cJ6_bitCount_0f7a4 38 = .ok (.iushr, 1) := by decide +kernel
theorem dJ6_bitCount_0f7a4_39 : decode cJ6_bitCount_0f7a4 39 = .ok (.iadd, 1) := by decide +kernel
theorem dJ6_bitCount_0f7a4_40 : decode cJ6_bitCount_0f7a4 40 = .ok (.istore_n 0, 1) := by decide +kernel
theorem dJ6_bitCount_0f7a4_41 : decode cJ6_bitCount_0f7a4 41 = .ok (.iload_n 0, 1) := by decide +kernel
theorem dJ6_bitCount_0f7a4_42 : decode cJ6_bitCount_0f7a4 42 = .ok (.iload_n 0, 1) := by decide +kernel
theorem dJ6_bitCount_0f7a4_43 : decode cJ6_bitCount_0f7a4 43 = .ok (.bipush 16, 2) := by decide +kernel
theorem dJ6_bitCount_0f7a4_45 : decode cJ6_bitCount_0f7a4 45 = .ok (.iushr, 1) := by decide +kernel
theorem dJ6_bitCount_0f7a4_46 : decode cJ6_bitCount_0f7a4 46 = .ok (.iadd, 1) := by decide +kernel
theorem dJ6_bitCount_0f7a4_47 : decode cJ6_bitCount_0f7a4 47 = .ok (.istore_n 0, 1) := by decide +kernel
theorem dJ6_bitCount_0f7a4_48 : decode cJ6_bitCount_0f7a4 48 = .ok (.iload_n 0, 1) := by decide +kernel
theorem dJ6_bitCount_0f7a4_49 : decode cJ6_bitCount_0f7a4 49 = .ok (.bipush 63, 2) := by decide +kernel
theorem dJ6_bitCount_0f7a4_51 : decode cJ6_bitCount_0f7a4 51 = .ok (.iand, 1) := by decide +kernel
theorem dJ6_bitCount_0f7a4_52 : decode cJ6_bitCount_0f7a4 52 = .ok (.ireturn, 1) := by decide +kernel
theorem dJ7_fill_d0a16_0 : decode cJ7_fill_d0a16 0 = .ok (.iconst 0, 1) := by decide +kernel
theorem dJ7_fill_d0a16_1 : decode cJ7_fill_d0a16 1 = .ok (.istore_n 3, 1) := by decide +kernel
theorem dJ7_fill_d0a16_2 : decode cJ7_fill_d0a16 2 = .ok (.aload_n 0, 1) := by decide +kernel
theorem dJ7_fill_d0a16_3 : decode cJ7_fill_d0a16 3 = .ok (.arraylength, 1) := by decide +kernel
theorem dJ7_fill_d0a16_4 : decode cJ7_fill_d0a16 4 = .ok (.istore 4, 2) := by decide +kernel
theorem dJ7_fill_d0a16_6 : decode cJ7_fill_d0a16 6 = .ok (.iload_n 3, 1) := by decide +kernel
theorem dJ7_fill_d0a16_7 : decode cJ7_fill_d0a16 7 = .ok (.iload 4, 2) := by decide +kernel
theorem dJ7_fill_d0a16_9 : decode cJ7_fill_d0a16 9 = .ok (.if_icmp .ge 13, 3) := by decide +kernel
theorem dJ7_fill_d0a16_12 : decode cJ7_fill_d0a16 12 = .ok (.aload_n 0, 1) := by decide +kernel
theorem dJ7_fill_d0a16_13 : decode cJ7_fill_d0a16 13 = .ok (.iload_n 3, 1) := by decide +kernel
theorem dJ7_fill_d0a16_14 : decode cJ7_fill_d0a16 14 = .ok (.lload_n 1, 1) := by decide +kernel
theorem dJ7_fill_d0a16_15 : decode cJ7_fill_d0a16 15 = .ok (.lastore, 1) := by decide +kernel
theorem dJ7_fill_d0a16_16 : decode cJ7_fill_d0a16 16 = .ok (.iinc 3 1, 3) := by decide +kernel
theorem dJ7_fill_d0a16_19 : decode cJ7_fill_d0a16 19 = .ok (.goto (-13), 3) := by decide +kernel
theorem dJ7_fill_d0a16_22 : decode cJ7_fill_d0a16 22 = .ok (.return_, 1) := by decide +kernel
theorem dJ7_fill_53178_0 : decode cJ7_fill_53178 0 = .ok (.iconst 0, 1) := by decide +kernel
theorem dJ7_fill_53178_1 : decode cJ7_fill_53178 1 = .ok (.istore_n 2, 1) := by decide +kernel
theorem dJ7_fill_53178_2 : decode cJ7_fill_53178 2 = .ok (.aload_n 0, 1) := by decide +kernel
theorem dJ7_fill_53178_3 : decode cJ7_fill_53178 3 = .ok (.arraylength, 1) := by decide +kernel
theorem dJ7_fill_53178_4 : decode cJ7_fill_53178 4 = .ok (.istore_n 3, 1) := by decide +kernel
theorem dJ7_fill_53178_5 : decode cJ7_fill_53178 5 = .ok (.iload_n 2, 1) := by decide +kernel
theorem dJ7_fill_53178_6 : decode cJ7_fill_53178 6 = .ok (.iload_n 3, 1) := by decide +kernel
theorem dJ7_fill_53178_7 : decode cJ7_fill_53178 7 = .ok (.if_icmp .ge 13, 3) := by decide +kernel
theorem dJ7_fill_53178_10 : decode cJ7_fill_53178 10 = .ok (.aload_n 0, 1) := by decide +kernel
theorem dJ7_fill_53178_11 : decode cJ7_fill_53178 11 = .ok (.iload_n 2, 1) := by decide +kernel
theorem dJ7_fill_53178_12 : decode cJ7_fill_53178 12 = .ok (.iload_n 1, 1) := by decide +kernel
theorem dJ7_fill_53178_13 : decode cJ7_fill_53178 13 = .ok (.iastore, 1) := by decide +kernel
theorem dJ7_fill_53178_14 : decode cJ7_fill_53178 14 = .ok (.iinc 2 1, 3) := by decide +kernel
theorem dJ7_fill_53178_17 : decode cJ7_fill_53178 17 = .ok (.goto (-12), 3) := by decide +kernel
theorem dJ7_fill_53178_20 : decode cJ7_fill_53178 20 = .ok (.return_, 1) := by decide +kernel
end
section
/-! my rows: small naturals, knowledge bundle, calls of readers and writers -/
def bI (b : Bool) : Int32 := if b then 1 else 0
theorem bI_t : bI true = nI 1 := rfl
theorem bI_f : bI false = nI 0 := rfl
theorem bI_inj {a b : Bool} (h : bI a = bI b) : a = b := by cases a <;> cases b <;> first | rfl | exact absurd h (by decide)
theorem narrow_bI (b : Bool) : narrow .boolean (.int (bI b)) = .int (bI b) := by cases b <;> rfl
def NA : Nat → Prop := fun _ => False
def inR (v : Int32) (lo hi : Nat) : Bool := decide (nI lo ≤ v) && decide (v ≤ nI hi)
theorem inR_t {v : Int32} {lo hi : Nat} (hh : hi < 2 ^ 31) (hl : lo ≤ hi) (h : inR v lo hi = true) : ∃ T : Nat, lo ≤ T ∧ T ≤ hi ∧ v = nI T := by
  simp only [inR, Bool.and_eq_true, decide_eq_true_eq] at h
  obtain ⟨h1, h2⟩ := h
  have h0 : ¬ v < 0 := by
    intro q
    have a1 : (nI lo).toInt ≤ v.toInt := Int32.le_iff_toInt_le.mp h1
    have a2 : v.toInt < (0 : Int32).toInt := Int32.lt_iff_toInt_lt.mp q
    rw [nI_toInt (by omega)] at a1
    have a3 : (0 : Int32).toInt = 0 := rfl
    omega
  obtain ⟨j, hj, rfl⟩ := nI_of h0
  exact ⟨j, (nI_leI (by omega) hj).mp h1, (nI_leI hj hh).mp h2, rfl⟩
theorem inR_n {T lo hi : Nat} (hh : hi < 2 ^ 31) (hl : lo ≤ hi) (hT : T < 2 ^ 31) : inR (nI T) lo hi = (decide (lo ≤ T) && decide (T ≤ hi)) := by
  simp only [inR, nI_leI (show lo < 2 ^ 31 by omega) hT, nI_leI hT hh]
def inL (v lo hi : Int64) : Bool := decide (lo ≤ v) && decide (v ≤ hi)
theorem my_sl : ∀ n, n < 32 → ((nI n &&& 31).toBitVec.smod 32).toNat = n := by decide +kernel
theorem n_shr {a b : Nat} (ha : a < 2 ^ 31) (hb : b < 32) : nI a >>> (nI b &&& 31) = nI (a >>> b) := by
  rw [pk_shrN ha _ b (my_sl b hb), Nat.shiftRight_eq_div_pow]
theorem n_shl {a b : Nat} (hb : b < 32) (h : a * 2 ^ b < 2 ^ 32) : nI a <<< (nI b &&& 31) = nI (a <<< b) := by
  rw [pk_shlN _ b (my_sl b hb) h, Nat.shiftLeft_eq]
theorem n_and (a b : Nat) : nI a &&& nI b = nI (a &&& b) := by
  apply Int32.toBitVec_inj.mp
  show BitVec.ofNat 32 a &&& BitVec.ofNat 32 b = BitVec.ofNat 32 (a &&& b)
  rw [BitVec.ofNat_and]
theorem n_or (a b : Nat) : nI a ||| nI b = nI (a ||| b) := by
  apply Int32.toBitVec_inj.mp
  show BitVec.ofNat 32 a ||| BitVec.ofNat 32 b = BitVec.ofNat 32 (a ||| b)
  rw [BitVec.ofNat_or]
theorem n_xor (a b : Nat) : nI a ^^^ nI b = nI (a ^^^ b) := by
  apply Int32.toBitVec_inj.mp
  show BitVec.ofNat 32 a ^^^ BitVec.ofNat 32 b = BitVec.ofNat 32 (a ^^^ b)
  rw [BitVec.ofNat_xor]
theorem n_inc (k n : Nat) : nI k + Int32.ofInt (n : Int) = nI (k + n) := by
  rw [show Int32.ofInt (n : Int) = nI n from rfl, nI_add]
section MYR
variable {p : Program} {l : Launch} {e : Env} {R : Room} {s : State} {m : MethodId} {args : Array Value} {below : List Frame} {meth : Method} {c : Code} {H : Heap} {locs : List Loc} {cells slots : Nat} {Q : State → Prop}
variable {cc : ByteArray} {pc : Nat} {ls : Array Slot} {rest : List Value} {D : va_G} {cl : List vw_C} {A : Nat → Prop} {tys : List (ClassId × FieldType)} {ws : va_W} {H0 : Heap}
theorem r_iadd (hx : p.tables.exec = Jvm.exec) (hb : c.code = cc) {a b : Nat} (hdg : decode cc pc = .ok (.iadd, 1)) (k : W p l e R s m args below meth c H locs cells slots Q (F0 m (pc + 1) ls (.int (nI (a + b)) :: rest))) : W p l e R s m args below meth c H locs cells slots Q (F0 m pc ls (.int (nI b) :: .int (nI a) :: rest)) := lv_iadd hx hb hdg (by rw [nI_add]; exact k)
theorem r_isub (hx : p.tables.exec = Jvm.exec) (hb : c.code = cc) {a b : Nat} (hdg : decode cc pc = .ok (.isub, 1)) (h : b ≤ a) (k : W p l e R s m args below meth c H locs cells slots Q (F0 m (pc + 1) ls (.int (nI (a - b)) :: rest))) : W p l e R s m args below meth c H locs cells slots Q (F0 m pc ls (.int (nI b) :: .int (nI a) :: rest)) := lv_isub hx hb hdg (by rw [pk_sub h]; exact k)
theorem r_imul (hx : p.tables.exec = Jvm.exec) (hb : c.code = cc) {a b : Nat} (hdg : decode cc pc = .ok (.imul, 1)) (k : W p l e R s m args below meth c H locs cells slots Q (F0 m (pc + 1) ls (.int (nI (a * b)) :: rest))) : W p l e R s m args below meth c H locs cells slots Q (F0 m pc ls (.int (nI b) :: .int (nI a) :: rest)) := lv_imul hx hb hdg (by rw [pk_mul]; exact k)
theorem r_idiv (hx : p.tables.exec = Jvm.exec) (hb : c.code = cc) {a b : Nat} (hdg : decode cc pc = .ok (.idiv, 1)) (ha : a < 2 ^ 31) (h0 : 0 < b) (h1 : b < 2 ^ 31) (k : W p l e R s m args below meth c H locs cells slots Q (F0 m (pc + 1) ls (.int (nI (a / b)) :: rest))) : W p l e R s m args below meth c H locs cells slots Q (F0 m pc ls (.int (nI b) :: .int (nI a) :: rest)) := lv_idiv hx hb hdg (nI_ne0 h0 h1) (by rw [pk_div ha h0 h1]; exact k)
theorem r_irem (hx : p.tables.exec = Jvm.exec) (hb : c.code = cc) {a b : Nat} (hdg : decode cc pc = .ok (.irem, 1)) (ha : a < 2 ^ 31) (h0 : 0 < b) (h1 : b < 2 ^ 31) (k : W p l e R s m args below meth c H locs cells slots Q (F0 m (pc + 1) ls (.int (nI (a % b)) :: rest))) : W p l e R s m args below meth c H locs cells slots Q (F0 m pc ls (.int (nI b) :: .int (nI a) :: rest)) := lv_irem hx hb hdg (nI_ne0 h0 h1) (by rw [pk_rem ha h0 h1]; exact k)
theorem r_iand (hx : p.tables.exec = Jvm.exec) (hb : c.code = cc) {a b : Nat} (hdg : decode cc pc = .ok (.iand, 1)) (k : W p l e R s m args below meth c H locs cells slots Q (F0 m (pc + 1) ls (.int (nI (a &&& b)) :: rest))) : W p l e R s m args below meth c H locs cells slots Q (F0 m pc ls (.int (nI b) :: .int (nI a) :: rest)) := lv_iand hx hb hdg (by rw [n_and]; exact k)
theorem r_ior (hx : p.tables.exec = Jvm.exec) (hb : c.code = cc) {a b : Nat} (hdg : decode cc pc = .ok (.ior, 1)) (k : W p l e R s m args below meth c H locs cells slots Q (F0 m (pc + 1) ls (.int (nI (a ||| b)) :: rest))) : W p l e R s m args below meth c H locs cells slots Q (F0 m pc ls (.int (nI b) :: .int (nI a) :: rest)) := lv_ior hx hb hdg (by rw [n_or]; exact k)
theorem r_ixor (hx : p.tables.exec = Jvm.exec) (hb : c.code = cc) {a b : Nat} (hdg : decode cc pc = .ok (.ixor, 1)) (k : W p l e R s m args below meth c H locs cells slots Q (F0 m (pc + 1) ls (.int (nI (a ^^^ b)) :: rest))) : W p l e R s m args below meth c H locs cells slots Q (F0 m pc ls (.int (nI b) :: .int (nI a) :: rest)) := lv_ixor hx hb hdg (by rw [n_xor]; exact k)
theorem r_ishr (hx : p.tables.exec = Jvm.exec) (hb : c.code = cc) {a b : Nat} (hdg : decode cc pc = .ok (.ishr, 1)) (ha : a < 2 ^ 31) (h1 : b < 32) (k : W p l e R s m args below meth c H locs cells slots Q (F0 m (pc + 1) ls (.int (nI (a >>> b)) :: rest))) : W p l e R s m args below meth c H locs cells slots Q (F0 m pc ls (.int (nI b) :: .int (nI a) :: rest)) := lv_ishr hx hb hdg (by rw [n_shr ha h1]; exact k)
theorem r_ishl (hx : p.tables.exec = Jvm.exec) (hb : c.code = cc) {a b : Nat} (hdg : decode cc pc = .ok (.ishl, 1)) (h1 : b < 32) (ha : a * 2 ^ b < 2 ^ 32) (k : W p l e R s m args below meth c H locs cells slots Q (F0 m (pc + 1) ls (.int (nI (a <<< b)) :: rest))) : W p l e R s m args below meth c H locs cells slots Q (F0 m pc ls (.int (nI b) :: .int (nI a) :: rest)) := lv_ishl hx hb hdg (by rw [n_shl h1 ha]; exact k)
theorem r_ladd (hx : p.tables.exec = Jvm.exec) (hb : c.code = cc) {a b : Nat} (hdg : decode cc pc = .ok (.ladd, 1)) (k : W p l e R s m args below meth c H locs cells slots Q (F0 m (pc + 1) ls (.long (lN (a + b)) :: rest))) : W p l e R s m args below meth c H locs cells slots Q (F0 m pc ls (.long (lN b) :: .long (lN a) :: rest)) := lv_ladd hx hb hdg (by rw [lN_add]; exact k)
theorem r_lmul (hx : p.tables.exec = Jvm.exec) (hb : c.code = cc) {a b : Nat} (hdg : decode cc pc = .ok (.lmul, 1)) (k : W p l e R s m args below meth c H locs cells slots Q (F0 m (pc + 1) ls (.long (lN (a * b)) :: rest))) : W p l e R s m args below meth c H locs cells slots Q (F0 m pc ls (.long (lN b) :: .long (lN a) :: rest)) := lv_lmul hx hb hdg (by rw [lN_mul]; exact k)
theorem r_lsub (hx : p.tables.exec = Jvm.exec) (hb : c.code = cc) {a b : Nat} (hdg : decode cc pc = .ok (.lsub, 1)) (h : b ≤ a) (k : W p l e R s m args below meth c H locs cells slots Q (F0 m (pc + 1) ls (.long (lN (a - b)) :: rest))) : W p l e R s m args below meth c H locs cells slots Q (F0 m pc ls (.long (lN b) :: .long (lN a) :: rest)) := lv_lsub hx hb hdg (by rw [lN_sub h]; exact k)
theorem lN_ne0 {b : Nat} (h0 : 0 < b) (h1 : b < 2 ^ 63) : ¬ lN b = 0 := fun h => by
  have := (pk_lEQ h1 (show 0 < 2 ^ 63 by decide)).mp (h.trans (show (0 : Int64) = lN 0 from rfl))
  omega
theorem r_ldiv (hx : p.tables.exec = Jvm.exec) (hb : c.code = cc) {a b : Nat} (hdg : decode cc pc = .ok (.ldiv, 1)) (ha : a < 2 ^ 63) (h0 : 0 < b) (h1 : b < 2 ^ 63) (k : W p l e R s m args below meth c H locs cells slots Q (F0 m (pc + 1) ls (.long (lN (a / b)) :: rest))) : W p l e R s m args below meth c H locs cells slots Q (F0 m pc ls (.long (lN b) :: .long (lN a) :: rest)) := lv_ldiv hx hb hdg (lN_ne0 h0 h1) (by rw [pk_lDiv ha h0 h1]; exact k)
theorem r_lrem (hx : p.tables.exec = Jvm.exec) (hb : c.code = cc) {a b : Nat} (hdg : decode cc pc = .ok (.lrem, 1)) (ha : a < 2 ^ 63) (h0 : 0 < b) (h1 : b < 2 ^ 63) (k : W p l e R s m args below meth c H locs cells slots Q (F0 m (pc + 1) ls (.long (lN (a % b)) :: rest))) : W p l e R s m args below meth c H locs cells slots Q (F0 m pc ls (.long (lN b) :: .long (lN a) :: rest)) := lv_lrem hx hb hdg (lN_ne0 h0 h1) (by rw [pk_lRem ha h0 h1]; exact k)
theorem r_i2l (hx : p.tables.exec = Jvm.exec) (hb : c.code = cc) {a : Nat} (hdg : decode cc pc = .ok (.i2l, 1)) (ha : a < 2 ^ 31) (k : W p l e R s m args below meth c H locs cells slots Q (F0 m (pc + 1) ls (.long (lN a) :: rest))) : W p l e R s m args below meth c H locs cells slots Q (F0 m pc ls (.int (nI a) :: rest)) := lv_i2l hx hb hdg (nI_l ha) k
theorem r_icmp_ge (hx : p.tables.exec = Jvm.exec) (hb : c.code = cc) {a b : Nat} {off : Int} {tgt : Nat} (hdg : decode cc pc = .ok (.if_icmp .ge off, 3)) (ht : (pc : Int) + off = (tgt : Int)) (ha : a < 2 ^ 31) (hb2 : b < 2 ^ 31) (kt : b ≤ a → W p l e R s m args below meth c H locs cells slots Q (F0 m tgt ls rest)) (kf : a < b → W p l e R s m args below meth c H locs cells slots Q (F0 m (pc + 3) ls rest)) : W p l e R s m args below meth c H locs cells slots Q (F0 m pc ls (.int (nI b) :: .int (nI a) :: rest)) :=
  lv_icmp_ge hx hb hdg ht (fun h => kt ((nI_leI hb2 ha).mp h)) (fun h => kf (Nat.not_le.mp (fun q => h ((nI_leI hb2 ha).mpr q))))
theorem r_icmp_lt (hx : p.tables.exec = Jvm.exec) (hb : c.code = cc) {a b : Nat} {off : Int} {tgt : Nat} (hdg : decode cc pc = .ok (.if_icmp .lt off, 3)) (ht : (pc : Int) + off = (tgt : Int)) (ha : a < 2 ^ 31) (hb2 : b < 2 ^ 31) (kt : a < b → W p l e R s m args below meth c H locs cells slots Q (F0 m tgt ls rest)) (kf : b ≤ a → W p l e R s m args below meth c H locs cells slots Q (F0 m (pc + 3) ls rest)) : W p l e R s m args below meth c H locs cells slots Q (F0 m pc ls (.int (nI b) :: .int (nI a) :: rest)) :=
  lv_icmp_lt hx hb hdg ht (fun h => kt ((nI_ltI ha hb2).mp h)) (fun h => kf (Nat.not_lt.mp (fun q => h ((nI_ltI ha hb2).mpr q))))
theorem r_icmp_gt (hx : p.tables.exec = Jvm.exec) (hb : c.code = cc) {a b : Nat} {off : Int} {tgt : Nat} (hdg : decode cc pc = .ok (.if_icmp .gt off, 3)) (ht : (pc : Int) + off = (tgt : Int)) (ha : a < 2 ^ 31) (hb2 : b < 2 ^ 31) (kt : b < a → W p l e R s m args below meth c H locs cells slots Q (F0 m tgt ls rest)) (kf : a ≤ b → W p l e R s m args below meth c H locs cells slots Q (F0 m (pc + 3) ls rest)) : W p l e R s m args below meth c H locs cells slots Q (F0 m pc ls (.int (nI b) :: .int (nI a) :: rest)) :=
  lv_icmp_gt hx hb hdg ht (fun h => kt ((nI_ltI hb2 ha).mp h)) (fun h => kf (Nat.not_lt.mp (fun q => h ((nI_ltI hb2 ha).mpr q))))
theorem r_icmp_le (hx : p.tables.exec = Jvm.exec) (hb : c.code = cc) {a b : Nat} {off : Int} {tgt : Nat} (hdg : decode cc pc = .ok (.if_icmp .le off, 3)) (ht : (pc : Int) + off = (tgt : Int)) (ha : a < 2 ^ 31) (hb2 : b < 2 ^ 31) (kt : a ≤ b → W p l e R s m args below meth c H locs cells slots Q (F0 m tgt ls rest)) (kf : b < a → W p l e R s m args below meth c H locs cells slots Q (F0 m (pc + 3) ls rest)) : W p l e R s m args below meth c H locs cells slots Q (F0 m pc ls (.int (nI b) :: .int (nI a) :: rest)) :=
  lv_icmp_le hx hb hdg ht (fun h => kt ((nI_leI ha hb2).mp h)) (fun h => kf (Nat.not_le.mp (fun q => h ((nI_leI ha hb2).mpr q))))
theorem r_icmp_eq (hx : p.tables.exec = Jvm.exec) (hb : c.code = cc) {a b : Nat} {off : Int} {tgt : Nat} (hdg : decode cc pc = .ok (.if_icmp .eq off, 3)) (ht : (pc : Int) + off = (tgt : Int)) (ha : a < 2 ^ 31) (hb2 : b < 2 ^ 31) (kt : a = b → W p l e R s m args below meth c H locs cells slots Q (F0 m tgt ls rest)) (kf : ¬ a = b → W p l e R s m args below meth c H locs cells slots Q (F0 m (pc + 3) ls rest)) : W p l e R s m args below meth c H locs cells slots Q (F0 m pc ls (.int (nI b) :: .int (nI a) :: rest)) :=
  lv_icmp_eq hx hb hdg ht (fun h => kt ((nI_eq ha hb2).mp h)) (fun h => kf (fun q => h ((nI_eq ha hb2).mpr q)))
theorem r_icmp_ne (hx : p.tables.exec = Jvm.exec) (hb : c.code = cc) {a b : Nat} {off : Int} {tgt : Nat} (hdg : decode cc pc = .ok (.if_icmp .ne off, 3)) (ht : (pc : Int) + off = (tgt : Int)) (ha : a < 2 ^ 31) (hb2 : b < 2 ^ 31) (kt : ¬ a = b → W p l e R s m args below meth c H locs cells slots Q (F0 m tgt ls rest)) (kf : a = b → W p l e R s m args below meth c H locs cells slots Q (F0 m (pc + 3) ls rest)) : W p l e R s m args below meth c H locs cells slots Q (F0 m pc ls (.int (nI b) :: .int (nI a) :: rest)) :=
  lv_icmp_ne hx hb hdg ht (fun h => kt (fun q => h ((nI_eq ha hb2).mpr q))) (fun h => kf ((nI_eq ha hb2).mp h))
theorem r_if_eq (hx : p.tables.exec = Jvm.exec) (hb : c.code = cc) {a : Nat} {off : Int} {tgt : Nat} (hdg : decode cc pc = .ok (.ifCond .eq off, 3)) (ht : (pc : Int) + off = (tgt : Int)) (ha : a < 2 ^ 31) (kt : a = 0 → W p l e R s m args below meth c H locs cells slots Q (F0 m tgt ls rest)) (kf : ¬ a = 0 → W p l e R s m args below meth c H locs cells slots Q (F0 m (pc + 3) ls rest)) : W p l e R s m args below meth c H locs cells slots Q (F0 m pc ls (.int (nI a) :: rest)) :=
  lv_if_eq hx hb hdg ht (fun h => kt ((nI_eq ha (by decide)).mp h)) (fun h => kf (fun q => h ((nI_eq (b := 0) ha (by decide)).mpr q)))
theorem r_if_ne (hx : p.tables.exec = Jvm.exec) (hb : c.code = cc) {a : Nat} {off : Int} {tgt : Nat} (hdg : decode cc pc = .ok (.ifCond .ne off, 3)) (ht : (pc : Int) + off = (tgt : Int)) (ha : a < 2 ^ 31) (kt : ¬ a = 0 → W p l e R s m args below meth c H locs cells slots Q (F0 m tgt ls rest)) (kf : a = 0 → W p l e R s m args below meth c H locs cells slots Q (F0 m (pc + 3) ls rest)) : W p l e R s m args below meth c H locs cells slots Q (F0 m pc ls (.int (nI a) :: rest)) :=
  lv_if_ne hx hb hdg ht (fun h => kt (fun q => h ((nI_eq (b := 0) ha (by decide)).mpr q))) (fun h => kf ((nI_eq ha (by decide)).mp h))
theorem r_if_gt (hx : p.tables.exec = Jvm.exec) (hb : c.code = cc) {a : Nat} {off : Int} {tgt : Nat} (hdg : decode cc pc = .ok (.ifCond .gt off, 3)) (ht : (pc : Int) + off = (tgt : Int)) (ha : a < 2 ^ 31) (kt : 0 < a → W p l e R s m args below meth c H locs cells slots Q (F0 m tgt ls rest)) (kf : a = 0 → W p l e R s m args below meth c H locs cells slots Q (F0 m (pc + 3) ls rest)) : W p l e R s m args below meth c H locs cells slots Q (F0 m pc ls (.int (nI a) :: rest)) :=
  lv_if_gt hx hb hdg ht (fun h => kt ((nI_ltI (a := 0) (by decide) ha).mp h)) (fun h => kf (Nat.eq_zero_of_not_pos (fun q => h ((nI_ltI (a := 0) (by decide) ha).mpr q))))
theorem r_if_le (hx : p.tables.exec = Jvm.exec) (hb : c.code = cc) {a : Nat} {off : Int} {tgt : Nat} (hdg : decode cc pc = .ok (.ifCond .le off, 3)) (ht : (pc : Int) + off = (tgt : Int)) (ha : a < 2 ^ 31) (kt : a = 0 → W p l e R s m args below meth c H locs cells slots Q (F0 m tgt ls rest)) (kf : 0 < a → W p l e R s m args below meth c H locs cells slots Q (F0 m (pc + 3) ls rest)) : W p l e R s m args below meth c H locs cells slots Q (F0 m pc ls (.int (nI a) :: rest)) :=
  lv_if_le hx hb hdg ht (fun h => kt (Nat.le_zero.mp ((nI_leI (b := 0) ha (by decide)).mp h))) (fun h => kf (Nat.pos_of_ne_zero (fun q => h (by rw [q]; decide))))
theorem r_if_ge (hx : p.tables.exec = Jvm.exec) (hb : c.code = cc) {a : Nat} {off : Int} {tgt : Nat} (hdg : decode cc pc = .ok (.ifCond .ge off, 3)) (ht : (pc : Int) + off = (tgt : Int)) (ha : a < 2 ^ 31) (kt : W p l e R s m args below meth c H locs cells slots Q (F0 m tgt ls rest)) : W p l e R s m args below meth c H locs cells slots Q (F0 m pc ls (.int (nI a) :: rest)) :=
  lv_if_ge hx hb hdg ht (fun _ => kt) (fun h => absurd (nI_pos' ha) h)
theorem r_if_lt (hx : p.tables.exec = Jvm.exec) (hb : c.code = cc) {a : Nat} {off : Int} {tgt : Nat} (hdg : decode cc pc = .ok (.ifCond .lt off, 3)) (ht : (pc : Int) + off = (tgt : Int)) (ha : a < 2 ^ 31) (kf : W p l e R s m args below meth c H locs cells slots Q (F0 m (pc + 3) ls rest)) : W p l e R s m args below meth c H locs cells slots Q (F0 m pc ls (.int (nI a) :: rest)) :=
  lv_if_lt hx hb hdg ht (fun h => absurd h (nI_pos ha)) (fun _ => kf)
theorem r_bif_eq (hx : p.tables.exec = Jvm.exec) (hb : c.code = cc) {b : Bool} {off : Int} {tgt : Nat} (hdg : decode cc pc = .ok (.ifCond .eq off, 3)) (ht : (pc : Int) + off = (tgt : Int)) (kt : b = false → W p l e R s m args below meth c H locs cells slots Q (F0 m tgt ls rest)) (kf : b = true → W p l e R s m args below meth c H locs cells slots Q (F0 m (pc + 3) ls rest)) : W p l e R s m args below meth c H locs cells slots Q (F0 m pc ls (.int (bI b) :: rest)) :=
  lv_if_eq hx hb hdg ht (fun h => kt (by cases b with | false => rfl | true => exact absurd h (by decide))) (fun h => kf (by cases b with | false => exact absurd rfl h | true => rfl))
theorem r_bif_ne (hx : p.tables.exec = Jvm.exec) (hb : c.code = cc) {b : Bool} {off : Int} {tgt : Nat} (hdg : decode cc pc = .ok (.ifCond .ne off, 3)) (ht : (pc : Int) + off = (tgt : Int)) (kt : b = true → W p l e R s m args below meth c H locs cells slots Q (F0 m tgt ls rest)) (kf : b = false → W p l e R s m args below meth c H locs cells slots Q (F0 m (pc + 3) ls rest)) : W p l e R s m args below meth c H locs cells slots Q (F0 m pc ls (.int (bI b) :: rest)) :=
  lv_if_ne hx hb hdg ht (fun h => kt (by cases b with | false => exact absurd rfl h | true => rfl)) (fun h => kf (by cases b with | false => rfl | true => exact absurd h (by decide)))
theorem r_lcmp_lt (hx : p.tables.exec = Jvm.exec) (hb : c.code = cc) {x y : Int64} {off : Int} {tgt : Nat} (hdg : decode cc pc = .ok (.lcmp, 1)) (hd2 : decode cc (pc + 1) = .ok (.ifCond .lt off, 3)) (ht : ((pc + 1 : Nat) : Int) + off = (tgt : Int)) (kt : x < y → W p l e R s m args below meth c H locs cells slots Q (F0 m tgt ls rest)) (kf : ¬ x < y → W p l e R s m args below meth c H locs cells slots Q (F0 m (pc + 4) ls rest)) : W p l e R s m args below meth c H locs cells slots Q (F0 m pc ls (.long y :: .long x :: rest)) :=
  W.lcmp hx hb hdg (lv_if_lt hx hb hd2 ht (fun h => kt ((lg_cmp_lt x y).mp h)) (fun h => kf (fun q => h ((lg_cmp_lt x y).mpr q))))
theorem r_lcmp_ge (hx : p.tables.exec = Jvm.exec) (hb : c.code = cc) {x y : Int64} {off : Int} {tgt : Nat} (hdg : decode cc pc = .ok (.lcmp, 1)) (hd2 : decode cc (pc + 1) = .ok (.ifCond .ge off, 3)) (ht : ((pc + 1 : Nat) : Int) + off = (tgt : Int)) (kt : y ≤ x → W p l e R s m args below meth c H locs cells slots Q (F0 m tgt ls rest)) (kf : ¬ y ≤ x → W p l e R s m args below meth c H locs cells slots Q (F0 m (pc + 4) ls rest)) : W p l e R s m args below meth c H locs cells slots Q (F0 m pc ls (.long y :: .long x :: rest)) :=
  W.lcmp hx hb hdg (lv_if_ge hx hb hd2 ht (fun h => kt ((lg_cmp_ge x y).mp h)) (fun h => kf (fun q => h ((lg_cmp_ge x y).mpr q))))
theorem r_lcmp_gt (hx : p.tables.exec = Jvm.exec) (hb : c.code = cc) {x y : Int64} {off : Int} {tgt : Nat} (hdg : decode cc pc = .ok (.lcmp, 1)) (hd2 : decode cc (pc + 1) = .ok (.ifCond .gt off, 3)) (ht : ((pc + 1 : Nat) : Int) + off = (tgt : Int)) (kt : y < x → W p l e R s m args below meth c H locs cells slots Q (F0 m tgt ls rest)) (kf : ¬ y < x → W p l e R s m args below meth c H locs cells slots Q (F0 m (pc + 4) ls rest)) : W p l e R s m args below meth c H locs cells slots Q (F0 m pc ls (.long y :: .long x :: rest)) :=
  W.lcmp hx hb hdg (lv_if_gt hx hb hd2 ht (fun h => kt ((lg_cmp_gt x y).mp h)) (fun h => kf (fun q => h ((lg_cmp_gt x y).mpr q))))
theorem r_lcmp_le (hx : p.tables.exec = Jvm.exec) (hb : c.code = cc) {x y : Int64} {off : Int} {tgt : Nat} (hdg : decode cc pc = .ok (.lcmp, 1)) (hd2 : decode cc (pc + 1) = .ok (.ifCond .le off, 3)) (ht : ((pc + 1 : Nat) : Int) + off = (tgt : Int)) (kt : x ≤ y → W p l e R s m args below meth c H locs cells slots Q (F0 m tgt ls rest)) (kf : ¬ x ≤ y → W p l e R s m args below meth c H locs cells slots Q (F0 m (pc + 4) ls rest)) : W p l e R s m args below meth c H locs cells slots Q (F0 m pc ls (.long y :: .long x :: rest)) :=
  W.lcmp hx hb hdg (lv_if_le hx hb hd2 ht (fun h => kt ((lg_cmp_le x y).mp h)) (fun h => kf (fun q => h ((lg_cmp_le x y).mpr q))))
theorem r_lcmp_eq (hx : p.tables.exec = Jvm.exec) (hb : c.code = cc) {x y : Int64} {off : Int} {tgt : Nat} (hdg : decode cc pc = .ok (.lcmp, 1)) (hd2 : decode cc (pc + 1) = .ok (.ifCond .eq off, 3)) (ht : ((pc + 1 : Nat) : Int) + off = (tgt : Int)) (kt : x = y → W p l e R s m args below meth c H locs cells slots Q (F0 m tgt ls rest)) (kf : ¬ x = y → W p l e R s m args below meth c H locs cells slots Q (F0 m (pc + 4) ls rest)) : W p l e R s m args below meth c H locs cells slots Q (F0 m pc ls (.long y :: .long x :: rest)) :=
  W.lcmp hx hb hdg (lv_if_eq hx hb hd2 ht (fun h => kt ((lg_cmp_eq x y).mp h)) (fun h => kf (fun q => h ((lg_cmp_eq x y).mpr q))))
theorem r_lcmp_ne (hx : p.tables.exec = Jvm.exec) (hb : c.code = cc) {x y : Int64} {off : Int} {tgt : Nat} (hdg : decode cc pc = .ok (.lcmp, 1)) (hd2 : decode cc (pc + 1) = .ok (.ifCond .ne off, 3)) (ht : ((pc + 1 : Nat) : Int) + off = (tgt : Int)) (kt : ¬ x = y → W p l e R s m args below meth c H locs cells slots Q (F0 m tgt ls rest)) (kf : x = y → W p l e R s m args below meth c H locs cells slots Q (F0 m (pc + 4) ls rest)) : W p l e R s m args below meth c H locs cells slots Q (F0 m pc ls (.long y :: .long x :: rest)) :=
  W.lcmp hx hb hdg (lv_if_ne hx hb hd2 ht (fun h => kt (fun q => h ((lg_cmp_eq x y).mpr q))) (fun h => kf ((lg_cmp_eq x y).mp h)))
theorem r_iald (hx : p.tables.exec = Jvm.exec) (hb : c.code = cc) (hK : va_K D cl tys s) (hP : va_P D cl ws H) (q0 t0 : Nat) {a : Nat} {cA : ClassId} {n : Nat} {f : Nat → Int32} (ha : ws[q0]? = some (a, .inl (cA, n, .inl f))) (ht : tys[t0]? = some (cA, .int)) {i : Nat} (hi : i < n) (hn : n < 2 ^ 31) {v : Int32} (hv : f i = v) (hdg : decode cc pc = .ok (.iaload, 1))
    (kk : W p l e R s m args below meth c H locs cells slots Q (F0 m (pc + 1) ls (.int v :: rest))) : W p l e R s m args below meth c H locs cells slots Q (F0 m pc ls (.int (nI i) :: .ref a :: rest)) :=
  va_iald hx hb hK hP q0 t0 ha ht (vp_in_nI hi hn) hdg (by rw [nI_clamp (by omega), hv]; exact kk)
theorem r_lald (hx : p.tables.exec = Jvm.exec) (hb : c.code = cc) (hK : va_K D cl tys s) (hP : va_P D cl ws H) (q0 t0 : Nat) {a : Nat} {cA : ClassId} {n : Nat} {f : Nat → Int64} (ha : ws[q0]? = some (a, .inl (cA, n, .inr (.inl f)))) (ht : tys[t0]? = some (cA, .long)) {i : Nat} (hi : i < n) (hn : n < 2 ^ 31) {v : Int64} (hv : f i = v) (hdg : decode cc pc = .ok (.laload, 1))
    (kk : W p l e R s m args below meth c H locs cells slots Q (F0 m (pc + 1) ls (.long v :: rest))) : W p l e R s m args below meth c H locs cells slots Q (F0 m pc ls (.int (nI i) :: .ref a :: rest)) :=
  va_lald hx hb hK hP q0 t0 ha ht (vp_in_nI hi hn) hdg (by rw [nI_clamp (by omega), hv]; exact kk)
theorem r_iast (hx : p.tables.exec = Jvm.exec) (hb : c.code = cc) (hK : va_K D cl tys s) (hP : va_P D cl ws H) (hD : va_D A ws) (hS : va_S A H0 H locs) (q0 t0 : Nat) {a : Nat} {cA : ClassId} {n : Nat} {f : Nat → Int32} (ha : ws[q0]? = some (a, .inl (cA, n, .inl f))) (ht : tys[t0]? = some (cA, .int)) {i : Nat} {x : Int32} (hi : i < n) (hn : n < 2 ^ 31) (hdg : decode cc pc = .ok (.iastore, 1))
    (kk : ∀ (H1 : Heap) (locs1 : List Loc), va_P D cl (ws.set q0 (a, .inl (cA, n, .inl (upd f i x)))) H1 → va_D A (ws.set q0 (a, .inl (cA, n, .inl (upd f i x)))) → va_S A H0 H1 locs1 → W p l e R s m args below meth c H1 locs1 cells slots Q (F0 m (pc + 1) ls rest)) : W p l e R s m args below meth c H locs cells slots Q (F0 m pc ls (.int x :: .int (nI i) :: .ref a :: rest)) :=
  va_iast hx hb hK hP hD hS q0 t0 ha ht (vp_in_nI hi hn) hdg (by
    intro H1 locs1 h1 h2 h3
    rw [nI_clamp (by omega)] at h1 h2
    exact kk H1 locs1 h1 h2 h3)
theorem r_last (hx : p.tables.exec = Jvm.exec) (hb : c.code = cc) (hK : va_K D cl tys s) (hP : va_P D cl ws H) (hD : va_D A ws) (hS : va_S A H0 H locs) (q0 t0 : Nat) {a : Nat} {cA : ClassId} {n : Nat} {f : Nat → Int64} (ha : ws[q0]? = some (a, .inl (cA, n, .inr (.inl f)))) (ht : tys[t0]? = some (cA, .long)) {i : Nat} {x : Int64} (hi : i < n) (hn : n < 2 ^ 31) (hdg : decode cc pc = .ok (.lastore, 1))
    (kk : ∀ (H1 : Heap) (locs1 : List Loc), va_P D cl (ws.set q0 (a, .inl (cA, n, .inr (.inl (vp_updL f i x))))) H1 → va_D A (ws.set q0 (a, .inl (cA, n, .inr (.inl (vp_updL f i x))))) → va_S A H0 H1 locs1 → W p l e R s m args below meth c H1 locs1 cells slots Q (F0 m (pc + 1) ls rest)) : W p l e R s m args below meth c H locs cells slots Q (F0 m pc ls (.long x :: .int (nI i) :: .ref a :: rest)) :=
  va_last hx hb hK hP hD hS q0 t0 ha ht (vp_in_nI hi hn) hdg (by
    intro H1 locs1 h1 h2 h3
    rw [nI_clamp (by omega)] at h1 h2
    exact kk H1 locs1 h1 h2 h3)
end MYR
end
section
/-! the knowledge bundle: classes, the two array classes, links of nest mates -/
def nw_F : List (String × Nat × String × String × String) := [("TaughtTongues", 109, "TaughtTongues$Counts", "all", "I"), ("TaughtTongues", 148, "TaughtTongues$Steps", "hears", "I"), ("TaughtTongues", 196, "TaughtTongues$Learner", "slip", "I"), ("TaughtTongues", 199, "TaughtTongues$Learner", "kind", "I"), ("TaughtTongues", 60, "TaughtTongues$Steps", "weights", "[I"), ("TaughtTongues", 63, "TaughtTongues$Steps", "known", "Z"), ("TaughtTongues", 80, "TaughtTongues$Signs", "count", "I"), ("TaughtTongues", 94, "TaughtTongues$Learner", "numbers", "[I"), ("TaughtTongues$Learner", 28, "TaughtTongues$Counts", "all", "I"), ("TaughtTongues$Lots", 73, "TaughtTongues$Counts", "all", "I"), ("TaughtTongues$Steps", 72, "TaughtTongues$Lots", "FIRST", "[I"), ("TaughtTongues$Steps", 83, "TaughtTongues$Learner", "slip", "I"), ("TaughtTongues$Steps", 88, "TaughtTongues$Lots", "greater", "[I")]
def nw_M : List (String × Nat × MethodName) := [("TaughtTongues", 18, yX0_init), ("TaughtTongues", 25, yX1_init), ("TaughtTongues", 9, yX3_init), ("TaughtTongues$Counts", 25, yX5_formOf), ("TaughtTongues$Learner", 35, yX5_power), ("TaughtTongues$Lots", 29, yX0_init), ("TaughtTongues$Signs", 26, yX5_formOf), ("TaughtTongues$Steps", 55, yX5_power), ("TaughtTongues$Steps", 79, yX5_formOf)]
def NW (U : State) : Prop := (∀ q ∈ nw_F, va_Nw (.fieldLinkNest q.1 q.2.1 q.2.2.1 q.2.2.2.1 q.2.2.2.2 "TaughtTongues") U) ∧ ∀ q ∈ nw_M, va_Nw (.methodLinkNest q.1 q.2.1 q.2.2 "TaughtTongues") U
theorem NW.warm {s U : State} (hW : s.WarmedH U.vm) (h : NW s) : NW U := ⟨fun q hq => va_Nw.warmF hW (h.1 q hq), fun q hq => va_Nw.warmM hW (h.2 q hq)⟩
theorem NW.same {u U : State} (e : u.vm = U.vm) (h : NW u) : NW U := ⟨fun q hq => va_Nw.same rfl e (h.1 q hq), fun q hq => va_Nw.same rfl e (h.2 q hq)⟩
theorem NW.f {U : State} (h : NW U) (k : Nat) {q : String × Nat × String × String × String} (hk : nw_F[k]? = some q) {A : Array Value} : (Cond.fieldLinkNest q.1 q.2.1 q.2.2.1 q.2.2.2.1 q.2.2.2.2 "TaughtTongues").before A U = true := va_Nw.use rfl (h.1 q (List.mem_of_getElem? hk))
theorem NW.m {U : State} (h : NW U) (k : Nat) {q : String × Nat × MethodName} (hk : nw_M[k]? = some q) : va_Nw (.methodLinkNest q.1 q.2.1 q.2.2 "TaughtTongues") U := h.2 q (List.mem_of_getElem? hk)
def KB (D : va_G) (cI cJ : ClassId) (U : State) : Prop := va_K D vwCl [(cI, .int), (cJ, .long)] U ∧ NW U
theorem KB.warm {D : va_G} {cI cJ : ClassId} {s U : State} (h : KB D cI cJ s) (hW : s.WarmedH U.vm) : KB D cI cJ U := ⟨va_K.moved hW.alike h.1, h.2.warm hW⟩
theorem KB.same {D : va_G} {cI cJ : ClassId} {u U : State} (e : u.vm = U.vm) (h : KB D cI cJ u) : KB D cI cJ U := ⟨va_K.moved (by rw [e]; exact Vm.Alike.refl _) h.1, h.2.same e⟩
/-- the static table of Lots -/
def fT : Nat → Nat := fun k => [0, 1, 7, 28, 84, 210].getD k 0
def FT (t : Nat) (A : Nat → Prop) (U : State) : Prop := va_Z "TaughtTongues$Lots" "FIRST" "[I" (.ref t) A U U.heap ∧ va_T .int t 6 (fun k => .int (nI (fT k))) A U U.heap
theorem FT.calling {t : Nat} {A : Nat → Prop} {u U : State} (e : u.vm = U.vm) (eh : U.heap = u.heap) (h : FT t A u) : FT t A U := by
  unfold FT
  rw [eh]
  exact ⟨va_Z.moved (by rw [e]; exact Vm.Alike.refl _) h.1, va_T.moved (by rw [e]; exact Vm.Alike.refl _) h.2⟩
theorem FT.go {t : Nat} {A B : Nat → Prop} {s U : State} {locs : List Loc} (h : FT t A s) (hW : s.WarmedH U.vm) (hS : va_S A s.heap U.heap locs) (hAB : ∀ q, B q → A q) : FT t B U :=
  ⟨va_Z.narrow (va_Z.moved hW.alike (va_Z.kept h.1 hS.2.1)) hAB, va_T.narrow (va_T.moved hW.alike (va_T.kept h.2 hS.2.1)) hAB⟩
theorem FT.narrow {t : Nat} {A B : Nat → Prop} {s : State} (h : FT t A s) (hAB : ∀ q, B q → A q) : FT t B s := ⟨va_Z.narrow h.1 hAB, va_T.narrow h.2 hAB⟩
/-- what a method knows at its start: nothing but the bundle; with a world that it reads; with one that it writes -/
def PN (D : va_G) (cI cJ : ClassId) (av : List Value) : Array Value → State → Prop := va_Pc av (fun U => KB D cI cJ U)
def PR (D : va_G) (cI cJ : ClassId) (ws : va_W) (av : List Value) : Array Value → State → Prop := va_Pc av (fun U => KB D cI cJ U ∧ va_P D vwCl ws U.heap)
def PX (D : va_G) (cI cJ : ClassId) (ws : va_W) (sz : Nat) (av : List Value) : Array Value → State → Prop := va_Pc av (fun U => U.heap.size = sz ∧ KB D cI cJ U ∧ va_P D vwCl ws U.heap ∧ va_D (fun _ => True) ws)
def PRT (D : va_G) (cI cJ : ClassId) (t : Nat) (ws : va_W) (av : List Value) : Array Value → State → Prop := va_Pc av (fun U => KB D cI cJ U ∧ FT t NA U ∧ va_P D vwCl ws U.heap)
def PXT (D : va_G) (cI cJ : ClassId) (t : Nat) (ws : va_W) (sz : Nat) (av : List Value) : Array Value → State → Prop := va_Pc av (fun U => U.heap.size = sz ∧ KB D cI cJ U ∧ FT t (va_A ws sz) U ∧ va_P D vwCl ws U.heap ∧ va_D (fun _ => True) ws)
theorem PN.blind {D : va_G} {cI cJ : ClassId} {av : List Value} : FrameBlind (PN D cI cJ av) := fun _ _ _ _ q => ⟨q.1, KB.same rfl q.2⟩
theorem PR.blind {D : va_G} {cI cJ : ClassId} {ws : va_W} {av : List Value} : FrameBlind (PR D cI cJ ws av) := fun _ _ _ _ q => ⟨q.1, KB.same rfl q.2.1, q.2.2⟩
theorem PX.blind {D : va_G} {cI cJ : ClassId} {ws : va_W} {sz : Nat} {av : List Value} : FrameBlind (PX D cI cJ ws sz av) := fun _ _ _ _ q => ⟨q.1, q.2.1, KB.same rfl q.2.2.1, q.2.2.2⟩
theorem PRT.blind {D : va_G} {cI cJ : ClassId} {t : Nat} {ws : va_W} {av : List Value} : FrameBlind (PRT D cI cJ t ws av) := fun _ _ _ _ q => ⟨q.1, KB.same rfl q.2.1, FT.calling rfl rfl q.2.2.1, q.2.2.2⟩
theorem PXT.blind {D : va_G} {cI cJ : ClassId} {t : Nat} {ws : va_W} {sz : Nat} {av : List Value} : FrameBlind (PXT D cI cJ t ws sz av) := fun _ _ _ _ q => ⟨q.1, q.2.1, KB.same rfl q.2.2.1, FT.calling rfl rfl q.2.2.2.1, q.2.2.2.2⟩
/-- the ends: a reader's answer; a writer's, whose world behind it is w2 u -/
def QRi (post : Int32 → Prop) : Array Value → State → Outcome → State → Prop := va_Qi (fun r (_ : Unit) => post r) (fun _ _ => True) NA
def QRl (post : Int64 → Prop) : Array Value → State → Outcome → State → Prop := va_Ql (fun r (_ : Unit) => post r) (fun _ _ => True) NA
def QWi (D : va_G) {S : Type} (ws : va_W) (sz : Nat) (post : Int32 → S → Prop) (w2 : S → va_W) : Array Value → State → Outcome → State → Prop := va_Qi post (fun u t => va_P D vwCl (w2 u) t.heap ∧ va_D (va_A ws sz) (w2 u)) (va_A ws sz)
def QWl (D : va_G) {S : Type} (ws : va_W) (sz : Nat) (post : Int64 → S → Prop) (w2 : S → va_W) : Array Value → State → Outcome → State → Prop := va_Ql post (fun u t => va_P D vwCl (w2 u) t.heap ∧ va_D (va_A ws sz) (w2 u)) (va_A ws sz)
def QWv (D : va_G) {S : Type} (ws : va_W) (sz : Nat) (post : S → Prop) (w2 : S → va_W) : Array Value → State → Outcome → State → Prop := va_Qv post (fun u t => va_P D vwCl (w2 u) t.heap ∧ va_D (va_A ws sz) (w2 u)) (va_A ws sz)
def QWr (D : va_G) {S : Type} (ws : va_W) (sz : Nat) (post : S → Prop) (w2 : S → va_W) (rf : Nat) : Array Value → State → Outcome → State → Prop := va_Qr post (fun u a t => a = rf ∧ va_P D vwCl (w2 u) t.heap ∧ va_D (va_A ws sz) (w2 u)) (va_A ws sz)
section MYC
variable {p : Program} {l : Launch} {e : Env} {R : Room} {s : State} {m : MethodId} {args : Array Value} {below : List Frame} {meth : Method} {c : Code} {H : Heap} {locs : List Loc} {cells slots : Nat} {Q : State → Prop}
variable {pc : Nat} {ls : Array Slot} {rest st0 : List Value} {a : Array Value} {A0 : Nat → Prop} {H0 : Heap} {D : va_G} {ws : va_W} {mc ms : Nat}
theorem r_calli {post : Int32 → Prop} (hP : va_P D vwCl ws H) (hS : va_S A0 H0 H locs) (hr : va_Run p l e R s m args below meth c H locs cells slots 0 0 (F0 m pc ls st0) rest (QRi post a) NA)
    (kk : ∀ (r : Int32) (H1 : Heap) (locs1 : List Loc), post r → va_P D vwCl ws H1 → va_S A0 H0 H1 locs1 → W p l e R s m args below meth c H1 locs1 cells slots Q (F0 m (pc + 3) ls (.int r :: rest))) : W p l e R s m args below meth c H locs cells slots Q (F0 m pc ls st0) :=
  va_calli (A1 := NA) (free := NA) hr hS (fun _ _ h => h.elim) (fun _ h => h.elim) (fun r _ _ H1 locs1 _ _ hw _ _ hk hS1 => kk r H1 locs1 hw (hP.kept (fun k q hq => hk q.1 (hP k q hq).lt (fun h => h))) hS1)
theorem r_calll {post : Int64 → Prop} (hP : va_P D vwCl ws H) (hS : va_S A0 H0 H locs) (hr : va_Run p l e R s m args below meth c H locs cells slots 0 0 (F0 m pc ls st0) rest (QRl post a) NA)
    (kk : ∀ (r : Int64) (H1 : Heap) (locs1 : List Loc), post r → va_P D vwCl ws H1 → va_S A0 H0 H1 locs1 → W p l e R s m args below meth c H1 locs1 cells slots Q (F0 m (pc + 3) ls (.long r :: rest))) : W p l e R s m args below meth c H locs cells slots Q (F0 m pc ls st0) :=
  va_calll (A1 := NA) (free := NA) hr hS (fun _ _ h => h.elim) (fun _ h => h.elim) (fun r _ _ H1 locs1 _ _ hw _ _ hk hS1 => kk r H1 locs1 hw (hP.kept (fun k q hq => hk q.1 (hP k q hq).lt (fun h => h))) hS1)
theorem w_calli {S : Type} {post : Int32 → S → Prop} {w2 : S → va_W} {wc wr : va_W} (hP : va_P D vwCl ws H) (hD : va_D A0 ws) (hS : va_S A0 H0 H locs) (isC isR : List Nat) (hC : isC.map (fun i => ws[i]?) = wc.map some) (hR : isR.map (fun i => ws[i]?) = wr.map some) (hn : va_nd isR = true) (hdis : ∀ i ∈ isR, i ∉ isC) (hF : ∀ q, va_A wc H.size q → A0 q)
    (hr : va_Run p l e R s m args below meth c H locs cells slots mc ms (F0 m pc ls st0) rest (QWi D wc H.size post w2 a) (va_A wc H.size))
    (kk : ∀ (r : Int32) (u : S) (H1 : Heap) (locs1 : List Loc), post r u → va_P D vwCl (wr ++ w2 u) H1 → va_D A0 (wr ++ w2 u) → va_S A0 H0 H1 locs1 → W p l e R s m args below meth c H1 locs1 (cells + mc) (slots + ms) Q (F0 m (pc + 3) ls (.int r :: rest))) : W p l e R s m args below meth c H locs cells slots Q (F0 m pc ls st0) :=
  va_calli (A1 := va_A wc H.size) (free := va_A wc H.size) hr hS (fun q _ h => hF q h) hF (fun r u t H1 locs1 ht _ hw hB _ hk hS1 => by
    obtain ⟨hP1, hD1⟩ := hB
    rw [ht] at hP1
    obtain ⟨h1, h2⟩ := va_join hP hD isC isR hC hR hn hdis hk hF hP1 hD1
    exact kk r u H1 locs1 hw h1 h2 hS1)
theorem w_calll {S : Type} {post : Int64 → S → Prop} {w2 : S → va_W} {wc wr : va_W} (hP : va_P D vwCl ws H) (hD : va_D A0 ws) (hS : va_S A0 H0 H locs) (isC isR : List Nat) (hC : isC.map (fun i => ws[i]?) = wc.map some) (hR : isR.map (fun i => ws[i]?) = wr.map some) (hn : va_nd isR = true) (hdis : ∀ i ∈ isR, i ∉ isC) (hF : ∀ q, va_A wc H.size q → A0 q)
    (hr : va_Run p l e R s m args below meth c H locs cells slots mc ms (F0 m pc ls st0) rest (QWl D wc H.size post w2 a) (va_A wc H.size))
    (kk : ∀ (r : Int64) (u : S) (H1 : Heap) (locs1 : List Loc), post r u → va_P D vwCl (wr ++ w2 u) H1 → va_D A0 (wr ++ w2 u) → va_S A0 H0 H1 locs1 → W p l e R s m args below meth c H1 locs1 (cells + mc) (slots + ms) Q (F0 m (pc + 3) ls (.long r :: rest))) : W p l e R s m args below meth c H locs cells slots Q (F0 m pc ls st0) :=
  va_calll (A1 := va_A wc H.size) (free := va_A wc H.size) hr hS (fun q _ h => hF q h) hF (fun r u t H1 locs1 ht _ hw hB _ hk hS1 => by
    obtain ⟨hP1, hD1⟩ := hB
    rw [ht] at hP1
    obtain ⟨h1, h2⟩ := va_join hP hD isC isR hC hR hn hdis hk hF hP1 hD1
    exact kk r u H1 locs1 hw h1 h2 hS1)
theorem w_callv {S : Type} {post : S → Prop} {w2 : S → va_W} {wc wr : va_W} (hP : va_P D vwCl ws H) (hD : va_D A0 ws) (hS : va_S A0 H0 H locs) (isC isR : List Nat) (hC : isC.map (fun i => ws[i]?) = wc.map some) (hR : isR.map (fun i => ws[i]?) = wr.map some) (hn : va_nd isR = true) (hdis : ∀ i ∈ isR, i ∉ isC) (hF : ∀ q, va_A wc H.size q → A0 q)
    (hr : va_Run p l e R s m args below meth c H locs cells slots mc ms (F0 m pc ls st0) rest (QWv D wc H.size post w2 a) (va_A wc H.size))
    (kk : ∀ (u : S) (H1 : Heap) (locs1 : List Loc), post u → va_P D vwCl (wr ++ w2 u) H1 → va_D A0 (wr ++ w2 u) → va_S A0 H0 H1 locs1 → W p l e R s m args below meth c H1 locs1 (cells + mc) (slots + ms) Q (F0 m (pc + 3) ls rest)) : W p l e R s m args below meth c H locs cells slots Q (F0 m pc ls st0) :=
  va_callv (A1 := va_A wc H.size) (free := va_A wc H.size) hr hS (fun q _ h => hF q h) hF (fun u t H1 locs1 ht _ hw hB _ hk hS1 => by
    obtain ⟨hP1, hD1⟩ := hB
    rw [ht] at hP1
    obtain ⟨h1, h2⟩ := va_join hP hD isC isR hC hR hn hdis hk hF hP1 hD1
    exact kk u H1 locs1 hw h1 h2 hS1)
theorem w_callr {S : Type} {post : S → Prop} {w2 : S → va_W} {rf : Nat} {wc wr : va_W} (hP : va_P D vwCl ws H) (hD : va_D A0 ws) (hS : va_S A0 H0 H locs) (isC isR : List Nat) (hC : isC.map (fun i => ws[i]?) = wc.map some) (hR : isR.map (fun i => ws[i]?) = wr.map some) (hn : va_nd isR = true) (hdis : ∀ i ∈ isR, i ∉ isC) (hF : ∀ q, va_A wc H.size q → A0 q)
    (hr : va_Run p l e R s m args below meth c H locs cells slots mc ms (F0 m pc ls st0) rest (QWr D wc H.size post w2 rf a) (va_A wc H.size))
    (kk : ∀ (u : S) (H1 : Heap) (locs1 : List Loc), post u → va_P D vwCl (wr ++ w2 u) H1 → va_D A0 (wr ++ w2 u) → va_S A0 H0 H1 locs1 → W p l e R s m args below meth c H1 locs1 (cells + mc) (slots + ms) Q (F0 m (pc + 3) ls (.ref rf :: rest))) : W p l e R s m args below meth c H locs cells slots Q (F0 m pc ls st0) :=
  va_callr (A1 := va_A wc H.size) (free := va_A wc H.size) hr hS (fun q _ h => hF q h) hF (fun u b t H1 locs1 ht _ hw hB _ hk hS1 => by
    obtain ⟨rfl, hP1, hD1⟩ := hB
    rw [ht] at hP1
    obtain ⟨h1, h2⟩ := va_join hP hD isC isR hC hR hn hdis hk hF hP1 hD1
    exact kk u H1 locs1 hw h1 h2 hS1)
end MYC
end
section
/-! a method's entry and its ends, in the words of the bundle -/
def AtE (p : Program) (y : MethodName) (ws : List Cond) (cc : ByteArray) (maxL : Nat) (ret : Option FieldType) (s : State) (m : MethodId) (args : Array Value) (meth : Method) (c : Code) : Prop :=
  p.tables.exec = Jvm.exec ∧ c.code = cc ∧ meth.sig.returnType = ret ∧ c.maxLocals = maxL ∧ meth.locks = false ∧ (∀ w ∈ ws, w.before args s = true) ∧ s.vm.findClass y.cls = some m.cls ∧ meth.name = y.name
section MET
variable {l : Launch} {y : MethodName} {ws ws' : List Cond} {rm : Room} {D : va_G} {cI cJ : ClassId} {wd : va_W} {sz t : Nat} {av : List Value} {Qc : Array Value → State → Outcome → State → Prop} {mc ms : Nat} {free : Addr → Prop} {cc : ByteArray} {maxL : Nat} {ret : Option FieldType}
theorem met_R (hy : plainName y.cls = true) (hw : ws = Cond.code y cc maxL ret :: ws') (hlen : (lg_sl av).length ≤ maxL)
    (body : ∀ (p : Program) (e : Env) (s : State) (m : MethodId) (args : Array Value) (below : List Frame) (meth : Method) (c : Code) (Q : State → Prop) (ls : Array Slot), Q = MQ below Qc args s mc ms free → AtE p y ws cc maxL ret s m args meth c → KB D cI cJ s → va_P D vwCl wd s.heap → lv_has ls maxL (lv_args 0 av) → W p l e rm s m args below meth c s.heap [] 0 0 Q (F0 m 0 ls [])) : Met l y ws rm (PR D cI cJ wd av) Qc mc ms free := by
  refine Met.ofW (cc := cc) (maxL := maxL) (ret := ret) hy hw ?_
  intro p e s m args below meth c s₁ B hml hv
  obtain ⟨ha, hK, hP⟩ := hv
  have hl := lv_entry av (n := maxL) hlen
  subst ha
  rw [lg_entry_eq]
  exact body p e s m _ below meth c _ _ rfl ⟨B.exec, B.bytes, B.returns, hml, B.notSynchronized, atoms_spec (ws := ws) B.pre, findClass_of_methodNamed B.named, (name_of_methodNamed B.named B.method).1⟩ hK hP hl
theorem met_X (hy : plainName y.cls = true) (hw : ws = Cond.code y cc maxL ret :: ws') (hlen : (lg_sl av).length ≤ maxL)
    (body : ∀ (p : Program) (e : Env) (s : State) (m : MethodId) (args : Array Value) (below : List Frame) (meth : Method) (c : Code) (Q : State → Prop) (ls : Array Slot) (A : Nat → Prop), Q = MQ below Qc args s mc ms free → A = va_A wd sz → AtE p y ws cc maxL ret s m args meth c → KB D cI cJ s → va_P D vwCl wd s.heap → va_D A wd → (∀ q : Nat, s.heap.size ≤ q → A q) → lv_has ls maxL (lv_args 0 av) → W p l e rm s m args below meth c s.heap [] 0 0 Q (F0 m 0 ls [])) : Met l y ws rm (PX D cI cJ wd sz av) Qc mc ms free := by
  refine Met.ofW (cc := cc) (maxL := maxL) (ret := ret) hy hw ?_
  intro p e s m args below meth c s₁ B hml hv
  obtain ⟨ha, hsz, hK, hP, hD⟩ := hv
  have hl := lv_entry av (n := maxL) hlen
  subst ha
  rw [lg_entry_eq]
  exact body p e s m _ below meth c _ _ _ rfl rfl ⟨B.exec, B.bytes, B.returns, hml, B.notSynchronized, atoms_spec (ws := ws) B.pre, findClass_of_methodNamed B.named, (name_of_methodNamed B.named B.method).1⟩ hK hP hD.self (fun q h => Or.inr (by rw [← hsz]; exact h)) hl
theorem met_RT (hy : plainName y.cls = true) (hw : ws = Cond.code y cc maxL ret :: ws') (hlen : (lg_sl av).length ≤ maxL)
    (body : ∀ (p : Program) (e : Env) (s : State) (m : MethodId) (args : Array Value) (below : List Frame) (meth : Method) (c : Code) (Q : State → Prop) (ls : Array Slot), Q = MQ below Qc args s mc ms free → FT t NA s → AtE p y ws cc maxL ret s m args meth c → KB D cI cJ s → va_P D vwCl wd s.heap → lv_has ls maxL (lv_args 0 av) → W p l e rm s m args below meth c s.heap [] 0 0 Q (F0 m 0 ls [])) : Met l y ws rm (PRT D cI cJ t wd av) Qc mc ms free := by
  refine Met.ofW (cc := cc) (maxL := maxL) (ret := ret) hy hw ?_
  intro p e s m args below meth c s₁ B hml hv
  obtain ⟨ha, hK, hT, hP⟩ := hv
  have hl := lv_entry av (n := maxL) hlen
  subst ha
  rw [lg_entry_eq]
  exact body p e s m _ below meth c _ _ rfl hT ⟨B.exec, B.bytes, B.returns, hml, B.notSynchronized, atoms_spec (ws := ws) B.pre, findClass_of_methodNamed B.named, (name_of_methodNamed B.named B.method).1⟩ hK hP hl
theorem met_XT (hy : plainName y.cls = true) (hw : ws = Cond.code y cc maxL ret :: ws') (hlen : (lg_sl av).length ≤ maxL)
    (body : ∀ (p : Program) (e : Env) (s : State) (m : MethodId) (args : Array Value) (below : List Frame) (meth : Method) (c : Code) (Q : State → Prop) (ls : Array Slot) (A : Nat → Prop), Q = MQ below Qc args s mc ms free → A = va_A wd sz → FT t A s → AtE p y ws cc maxL ret s m args meth c → KB D cI cJ s → va_P D vwCl wd s.heap → va_D A wd → (∀ q : Nat, s.heap.size ≤ q → A q) → lv_has ls maxL (lv_args 0 av) → W p l e rm s m args below meth c s.heap [] 0 0 Q (F0 m 0 ls [])) : Met l y ws rm (PXT D cI cJ t wd sz av) Qc mc ms free := by
  refine Met.ofW (cc := cc) (maxL := maxL) (ret := ret) hy hw ?_
  intro p e s m args below meth c s₁ B hml hv
  obtain ⟨ha, hsz, hK, hT, hP, hD⟩ := hv
  have hl := lv_entry av (n := maxL) hlen
  subst ha
  rw [lg_entry_eq]
  exact body p e s m _ below meth c _ _ _ rfl rfl hT ⟨B.exec, B.bytes, B.returns, hml, B.notSynchronized, atoms_spec (ws := ws) B.pre, findClass_of_methodNamed B.named, (name_of_methodNamed B.named B.method).1⟩ hK hP hD.self (fun q h => Or.inr (by rw [← hsz]; exact h)) hl
end MET
section RET
variable {p : Program} {l : Launch} {e : Env} {R : Room} {s : State} {m : MethodId} {args : Array Value} {below : List Frame} {meth : Method} {c : Code} {H : Heap} {locs : List Loc} {Q : State → Prop}
variable {cc : ByteArray} {pc : Nat} {ls : Array Slot} {D : va_G} {A : Nat → Prop} {wd : va_W} {sz mc ms : Nat}
theorem r_iret (hx : p.tables.exec = Jvm.exec) (hb : c.code = cc) (hr : meth.sig.returnType = some .int) (hlk : meth.locks = false) {post : Int32 → Prop} (hQ : Q = MQ below (QRi post) args s 0 0 NA) (hS : va_S NA s.heap H locs) {v : Int32} (hp : post v) (hdg : decode cc pc = .ok (.ireturn, 1)) : W p l e R s m args below meth c H locs 0 0 Q (F0 m pc ls [.int v]) := by
  subst hQ
  exact W.iret hx hb hr (fun t ht hW => ⟨⟨v, (), rfl, hp, trivial⟩, hS.F ht⟩) hS.2.2 hdg hlk
theorem r_zret (hx : p.tables.exec = Jvm.exec) (hb : c.code = cc) (hr : meth.sig.returnType = some .boolean) (hlk : meth.locks = false) {post : Int32 → Prop} (hQ : Q = MQ below (QRi post) args s 0 0 NA) (hS : va_S NA s.heap H locs) {b : Bool} {v : Int32} (hv : v = bI b) (hp : post (bI b)) (hdg : decode cc pc = .ok (.ireturn, 1)) : W p l e R s m args below meth c H locs 0 0 Q (F0 m pc ls [.int v]) := by
  subst hQ
  subst hv
  exact W.zret hx hb hr (narrow_bI b) (fun t ht hW => ⟨⟨_, (), rfl, hp, trivial⟩, hS.F ht⟩) hS.2.2 hdg hlk
theorem r_lret (hx : p.tables.exec = Jvm.exec) (hb : c.code = cc) (hr : meth.sig.returnType = some .long) (hlk : meth.locks = false) {post : Int64 → Prop} (hQ : Q = MQ below (QRl post) args s 0 0 NA) (hS : va_S NA s.heap H locs) {v : Int64} (hp : post v) (hdg : decode cc pc = .ok (.lreturn, 1)) : W p l e R s m args below meth c H locs 0 0 Q (F0 m pc ls [.long v]) := by
  subst hQ
  exact W.lret hx hb hr (fun t ht hW => ⟨⟨v, (), rfl, hp, trivial⟩, hS.F ht⟩) hS.2.2 hdg hlk
theorem w_iret (hx : p.tables.exec = Jvm.exec) (hb : c.code = cc) (hr : meth.sig.returnType = some .int) (hlk : meth.locks = false) {S : Type} {post : Int32 → S → Prop} {w2 : S → va_W} (hQ : Q = MQ below (QWi D wd sz post w2) args s mc ms (va_A wd sz)) (hA : A = va_A wd sz) {v : Int32} (u : S) (hP : va_P D vwCl (w2 u) H) (hD : va_D A (w2 u)) (hS : va_S A s.heap H locs) (hp : post v u) (hdg : decode cc pc = .ok (.ireturn, 1)) : W p l e R s m args below meth c H locs mc ms Q (F0 m pc ls [.int v]) := by
  subst hQ
  subst hA
  exact W.iret hx hb hr (fun t ht hW => ⟨⟨v, u, rfl, hp, by rw [ht]; exact hP, hD⟩, hS.F ht⟩) hS.2.2 hdg hlk
theorem w_zret (hx : p.tables.exec = Jvm.exec) (hb : c.code = cc) (hr : meth.sig.returnType = some .boolean) (hlk : meth.locks = false) {S : Type} {post : Int32 → S → Prop} {w2 : S → va_W} (hQ : Q = MQ below (QWi D wd sz post w2) args s mc ms (va_A wd sz)) (hA : A = va_A wd sz) {b : Bool} {v : Int32} (hv : v = bI b) (u : S) (hP : va_P D vwCl (w2 u) H) (hD : va_D A (w2 u)) (hS : va_S A s.heap H locs) (hp : post (bI b) u) (hdg : decode cc pc = .ok (.ireturn, 1)) : W p l e R s m args below meth c H locs mc ms Q (F0 m pc ls [.int v]) := by
  subst hQ
  subst hA
  subst hv
  exact W.zret hx hb hr (narrow_bI b) (fun t ht hW => ⟨⟨_, u, rfl, hp, by rw [ht]; exact hP, hD⟩, hS.F ht⟩) hS.2.2 hdg hlk
theorem w_lret (hx : p.tables.exec = Jvm.exec) (hb : c.code = cc) (hr : meth.sig.returnType = some .long) (hlk : meth.locks = false) {S : Type} {post : Int64 → S → Prop} {w2 : S → va_W} (hQ : Q = MQ below (QWl D wd sz post w2) args s mc ms (va_A wd sz)) (hA : A = va_A wd sz) {v : Int64} (u : S) (hP : va_P D vwCl (w2 u) H) (hD : va_D A (w2 u)) (hS : va_S A s.heap H locs) (hp : post v u) (hdg : decode cc pc = .ok (.lreturn, 1)) : W p l e R s m args below meth c H locs mc ms Q (F0 m pc ls [.long v]) := by
  subst hQ
  subst hA
  exact W.lret hx hb hr (fun t ht hW => ⟨⟨v, u, rfl, hp, by rw [ht]; exact hP, hD⟩, hS.F ht⟩) hS.2.2 hdg hlk
theorem w_vret (hx : p.tables.exec = Jvm.exec) (hb : c.code = cc) (hr : meth.sig.returnType = none) (hlk : meth.locks = false) {S : Type} {post : S → Prop} {w2 : S → va_W} (hQ : Q = MQ below (QWv D wd sz post w2) args s mc ms (va_A wd sz)) (hA : A = va_A wd sz) (u : S) (hP : va_P D vwCl (w2 u) H) (hD : va_D A (w2 u)) (hS : va_S A s.heap H locs) (hp : post u) (hdg : decode cc pc = .ok (.return_, 1)) : W p l e R s m args below meth c H locs mc ms Q (F0 m pc ls []) := by
  subst hQ
  subst hA
  exact W.vret hx hb hr (fun t ht hW => ⟨⟨u, rfl, hp, by rw [ht]; exact hP, hD⟩, hS.F ht⟩) hS.2.2 hdg hlk
theorem w_aret (hx : p.tables.exec = Jvm.exec) (hb : c.code = cc) {rt : FieldType} (hr : meth.sig.returnType = some rt) (hrt : (∃ n, rt = .object n) ∨ ∃ t, rt = .array t) (hlk : meth.locks = false) {S : Type} {post : S → Prop} {w2 : S → va_W} {rf : Nat} (hQ : Q = MQ below (QWr D wd sz post w2 rf) args s mc ms (va_A wd sz)) (hA : A = va_A wd sz) (u : S) (hP : va_P D vwCl (w2 u) H) (hD : va_D A (w2 u)) (hS : va_S A s.heap H locs) (hp : post u) (hdg : decode cc pc = .ok (.areturn, 1)) : W p l e R s m args below meth c H locs mc ms Q (F0 m pc ls [.ref rf]) := by
  subst hQ
  subst hA
  exact W.aret hx hb hr hrt (Or.inr ⟨rf, rfl⟩) (fun t ht hW => ⟨⟨u, rf, rfl, hp, rfl, by rw [ht]; exact hP, hD⟩, hS.F ht⟩) hS.2.2 hdg hlk
end RET
section TAB
variable {p : Program} {l : Launch} {e : Env} {R : Room} {s : State} {m : MethodId} {args : Array Value} {below : List Frame} {meth : Method} {c : Code} {H : Heap} {locs : List Loc} {cells slots : Nat} {Q : State → Prop}
variable {cc : ByteArray} {pc : Nat} {ls : Array Slot} {rest : List Value} {A : Nat → Prop}
theorem r_ti (hx : p.tables.exec = Jvm.exec) (hb : c.code = cc) {t : Nat} (hT : FT t A s) (hS : va_S A s.heap H locs) {i : Nat} (hi : i < 6) (hdg : decode cc pc = .ok (.iaload, 1))
    (kk : W p l e R s m args below meth c H locs cells slots Q (F0 m (pc + 1) ls (.int (nI (fT i)) :: rest))) : W p l e R s m args below meth c H locs cells slots Q (F0 m pc ls (.int (nI i) :: .ref t :: rest)) :=
  va_ti hx hb hT.2 hS (vp_in_nI hi (by decide)) (v := .int (nI (fT i))) (by rw [nI_clamp (by omega)]) hdg kk
end TAB
end
section
/-! small pure words -/
def fo (t m : Nat) : Nat := (t >>> m) &&& 1
theorem fo_le (t m : Nat) : fo t m ≤ 1 := Nat.and_le_right
def hasF (t s : Nat) : Bool := decide (fo t (s / 2) = s % 2)
def pw (b : Nat) : Nat → Nat
  | 0 => 1
  | n + 1 => pw b n * b
def on (t : Nat) : Nat := (t &&& 1) + ((t >>> 1) &&& 1) + ((t >>> 2) &&& 1)
def rfo (k i : Bool) : Int32 := if k then (if i then 0 else -2) else -1
def lwst (a b pt : Nat) : Nat := if b = 0 then pt else if pt = 0 then a / Nat.gcd a b else b / Nat.gcd a b
theorem inR_f1 {v : Int32} {lo hi : Nat} (h : v < nI lo) : inR v lo hi = false := by
  have : ¬ nI lo ≤ v := fun q => absurd h (Int32.not_lt.mpr q)
  simp [inR, this]
theorem inR_f2 {v : Int32} {lo hi : Nat} (h : nI hi < v) : inR v lo hi = false := by
  have : ¬ v ≤ nI hi := fun q => absurd h (Int32.not_lt.mpr q)
  simp [inR, this]
theorem inR_tt {v : Int32} {lo hi : Nat} (h1 : ¬ v < nI lo) (h2 : ¬ nI hi < v) : inR v lo hi = true := by
  simp [inR, Int32.not_lt.mp h1, Int32.not_lt.mp h2]
theorem inL_f1 {v lo hi : Int64} (h : v < lo) : inL v lo hi = false := by
  have : ¬ lo ≤ v := fun q => absurd h (Int64.not_lt.mpr q)
  simp [inL, this]
theorem inL_f2 {v lo hi : Int64} (h : hi < v) : inL v lo hi = false := by
  have : ¬ v ≤ hi := fun q => absurd h (Int64.not_lt.mpr q)
  simp [inL, this]
theorem inL_tt {v lo hi : Int64} (h1 : ¬ v < lo) (h2 : ¬ hi < v) : inL v lo hi = true := by
  simp [inL, Int64.not_lt.mp h1, Int64.not_lt.mp h2]
theorem wide_le (a b : Int32) : a.toInt64 ≤ b.toInt64 ↔ a ≤ b := by
  rw [Int64.le_iff_toInt_le, Int32.le_iff_toInt_le, Int32.toInt_toInt64, Int32.toInt_toInt64]
theorem inL_R {v : Int32} {lo hi : Nat} (hl : lo < 2 ^ 31) (hh : hi < 2 ^ 31) : inL v.toInt64 (lN lo) (lN hi) = inR v lo hi := by
  simp only [inL, inR, ← nI_l hl, ← nI_l hh, wide_le]
theorem eu_gcd (x y : Nat) : Nat.gcd y (x % y) = Nat.gcd x y := by
  rw [Nat.gcd_comm x y, Nat.gcd_rec y x, Nat.gcd_comm]
theorem eu_bd {x y k : Nat} (hy : 0 < y) (h1 : 0 < k → x * y * 2 ^ k < 2 ^ 127) (h0 : k = 0 → x * y < 2 ^ 126) (hle : 0 < k → y ≤ x) : y * (x % y) * 2 ^ (k + 1) < 2 ^ 127 := by
  rcases Nat.eq_zero_or_pos k with rfl | hk
  · have h2 : y * (x % y) ≤ x * y := by rw [Nat.mul_comm x y]; exact Nat.mul_le_mul_left y (Nat.mod_le x y)
    have := h0 rfl
    omega
  · have h2 : 2 * (x % y) ≤ x := by
      have h3 := Nat.mod_lt x hy
      have h4 := Nat.div_add_mod x y
      have h5 : 1 ≤ x / y := (Nat.one_le_div_iff hy).mpr (hle hk)
      have h6 : y * 1 ≤ y * (x / y) := Nat.mul_le_mul_left y h5
      omega
    have h3 : y * (x % y) * 2 ^ (k + 1) ≤ x * y * 2 ^ k := by
      have e1 : y * (x % y) * 2 ^ (k + 1) = y * (2 * (x % y)) * 2 ^ k := by rw [Nat.pow_succ]; simp only [Nat.mul_assoc, Nat.mul_comm, Nat.mul_left_comm]
      rw [e1, Nat.mul_comm x y]
      exact Nat.mul_le_mul_right _ (Nat.mul_le_mul_left y h2)
    exact Nat.lt_of_le_of_lt h3 (h1 hk)
theorem eu_end {x y k : Nat} (hk : 1000 ≤ k) (h1 : 0 < k → x * y * 2 ^ k < 2 ^ 127) (hle : 0 < k → y ≤ x) : y = 0 := by
  rcases Nat.eq_zero_or_pos y with h | h
  · exact h
  · exfalso
    have hx : 0 < x := Nat.lt_of_lt_of_le h (hle (by omega))
    have h2 : 1 ≤ x * y := Nat.mul_pos hx h
    have h3 : 2 ^ 127 ≤ 2 ^ k := Nat.pow_le_pow_right (by decide) (by omega)
    have h4 : 1 * 2 ^ k ≤ x * y * 2 ^ k := Nat.mul_le_mul_right _ h2
    have := h1 (by omega)
    omega
theorem gcd_lt {a b N : Nat} (hb : 0 < b) (h : b < N) : Nat.gcd a b < N := Nat.lt_of_le_of_lt (Nat.gcd_le_right a hb) h
theorem gcd_pos {a b : Nat} (hb : 0 < b) : 0 < Nat.gcd a b := Nat.gcd_pos_of_pos_right a hb
theorem lwst_a0 {b pt : Nat} (hpt : pt ≤ 1) : lwst 0 b pt = pt := by
  unfold lwst
  rcases Nat.eq_zero_or_pos b with rfl | hb
  · simp
  · rw [if_neg (by omega)]
    rcases (show pt = 0 ∨ pt = 1 by omega) with rfl | rfl
    · simp
    · simp [Nat.gcd_zero_left, Nat.div_self hb]
theorem lwst_b0 {a pt : Nat} : lwst a 0 pt = pt := by simp [lwst]
theorem lN_le0 {a : Nat} (ha : a < 2 ^ 63) (h : lN a ≤ lN 0) : a = 0 := Nat.le_zero.mp ((pk_lLE ha (by decide)).mp h)
theorem lN_gt0 {a : Nat} (ha : a < 2 ^ 63) (h : lN 0 < lN a) : 0 < a := (pk_lLT (by decide) ha).mp h
theorem lN_eq0 {a : Nat} (ha : a < 2 ^ 63) (h : lN a = lN 0) : a = 0 := (pk_lEQ ha (by decide)).mp h
theorem lN_ne {a : Nat} (h : ¬ lN a = lN 0) : 0 < a := Nat.pos_of_ne_zero (fun q => h (by rw [q]))
theorem n_bit {p : Nat → Prop} : True := trivial
def fillN (f : Nat → Int32) (x : Int32) (k : Nat) : Nat → Int32 := fun j => if j < k then x else f j
theorem fillN_0 (f : Nat → Int32) (x : Int32) : fillN f x 0 = f := by funext j; simp [fillN]
theorem fillN_s (f : Nat → Int32) (x : Int32) (k : Nat) : upd (fillN f x k) k x = fillN f x (k + 1) := by
  funext j
  by_cases h : j = k
  · subst h; simp [upd, fillN]
  · have e : (j < k + 1) = (j < k) := by simp only [eq_iff_iff]; omega
    simp [upd, fillN, h, e]
def fillL (f : Nat → Int64) (x : Int64) (k : Nat) : Nat → Int64 := fun j => if j < k then x else f j
theorem fillL_0 (f : Nat → Int64) (x : Int64) : fillL f x 0 = f := by funext j; simp [fillL]
theorem fillL_s (f : Nat → Int64) (x : Int64) (k : Nat) : vp_updL (fillL f x k) k x = fillL f x (k + 1) := by
  funext j
  by_cases h : j = k
  · subst h; simp [vp_updL, fillL]
  · have e : (j < k + 1) = (j < k) := by simp only [eq_iff_iff]; omega
    simp [vp_updL, fillL, h, e]
section NEWA
variable {p : Program} {l : Launch} {e : Env} {R : Room} {s : State} {m : MethodId} {args : Array Value} {below : List Frame} {meth : Method} {c : Code} {H : Heap} {locs : List Loc} {cells slots : Nat} {Q : State → Prop}
variable {cc : ByteArray} {pc : Nat} {ls : Array Slot} {rest : List Value} {D : va_G} {A : Nat → Prop} {ws : va_W} {H0 : Heap} {cI cJ : ClassId}
theorem r_newI (hx : p.tables.exec = Jvm.exec) (hb : c.code = cc) (harr : (Cond.arrayClass .int).before args s = true) (hK : va_K D vwCl [(cI, .int), (cJ, .long)] s) (hP : va_P D vwCl ws H) (hD : va_D A ws) (hS : va_S A H0 H locs) (hA : ∀ q, H0.size ≤ q → A q) {n : Nat} (hn : n < 2 ^ 31) (hbytes : n * componentBytes .int ≤ 536870912) (hcells : cells + 1 ≤ R.cells) (hslots : slots + n ≤ R.slots) (hdg : decode cc pc = .ok (.newarray .int, 2))
    (kk : ∀ (q : Nat) (H1 : Heap), va_P D vwCl (ws ++ [(q, .inl (cI, n, .inl (fun _ => 0)))]) H1 → va_D A (ws ++ [(q, .inl (cI, n, .inl (fun _ => 0)))]) → va_S A H0 H1 locs → W p l e R s m args below meth c H1 locs (cells + 1) (slots + n) Q (F0 m (pc + 2) ls (.ref q :: rest))) : W p l e R s m args below meth c H locs cells slots Q (F0 m pc ls (.int (nI n) :: rest)) := by
  refine va_newa (atype := .int) (ty := .int) (a0 := (n, .inl (fun _ => 0))) hx hb harr rfl hK hP hD hS hA (fun _ => by rw [vp_cell_i]; rfl) (nI_pos hn) (nI_clamp hn) hbytes hcells hslots hdg (fun q cA H1 hK1 hP1 hD1 hS1 => ?_)
  have e1 := (hK1.2 2 (cA, .int) rfl).2
  have e2 := (hK1.2 0 (cI, .int) rfl).2
  have e3 : cA = cI := Option.some.inj (e1.symm.trans e2)
  subst e3
  exact kk q H1 hP1 hD1 hS1
theorem r_newJ (hx : p.tables.exec = Jvm.exec) (hb : c.code = cc) (harr : (Cond.arrayClass .long).before args s = true) (hK : va_K D vwCl [(cI, .int), (cJ, .long)] s) (hP : va_P D vwCl ws H) (hD : va_D A ws) (hS : va_S A H0 H locs) (hA : ∀ q, H0.size ≤ q → A q) {n : Nat} (hn : n < 2 ^ 31) (hbytes : n * componentBytes .long ≤ 536870912) (hcells : cells + 1 ≤ R.cells) (hslots : slots + n ≤ R.slots) (hdg : decode cc pc = .ok (.newarray .long, 2))
    (kk : ∀ (q : Nat) (H1 : Heap), va_P D vwCl (ws ++ [(q, .inl (cJ, n, .inr (.inl (fun _ => 0))))]) H1 → va_D A (ws ++ [(q, .inl (cJ, n, .inr (.inl (fun _ => 0))))]) → va_S A H0 H1 locs → W p l e R s m args below meth c H1 locs (cells + 1) (slots + n) Q (F0 m (pc + 2) ls (.ref q :: rest))) : W p l e R s m args below meth c H locs cells slots Q (F0 m pc ls (.int (nI n) :: rest)) := by
  refine va_newa (atype := .long) (ty := .long) (a0 := (n, .inr (.inl (fun _ => 0)))) hx hb harr rfl hK hP hD hS hA (fun _ => by rw [vp_cell_l]; rfl) (nI_pos hn) (nI_clamp hn) hbytes hcells hslots hdg (fun q cA H1 hK1 hP1 hD1 hS1 => ?_)
  have e1 := (hK1.2 2 (cA, .long) rfl).2
  have e2 := (hK1.2 1 (cJ, .long) rfl).2
  have e3 : cA = cJ := Option.some.inj (e1.symm.trans e2)
  subst e3
  exact kk q H1 hP1 hD1 hS1
end NEWA
end
section
set_option maxHeartbeats 4000000 in
set_option maxRecDepth 100000 in
theorem m_X5_formOf (l : Launch) (D : va_G) (cI cJ : ClassId) (t : Nat) (m2 : Nat) (ht : t < 2 ^ 31) (hm2 : m2 < 32) : Met l yX5_formOf wsX5_formOf ({ frames := 0, cells := 0, slots := 0, locals := 0 }) (PR D cI cJ [] [.int (nI t), .int (nI m2)]) (QRi (fun r => r = nI (fo t m2))) 0 0 NA := by
  refine met_R (cc := cX5_formOf) (maxL := 2) (ret := (some .int)) (by decide) rfl (Nat.le_of_ble_eq_true rfl) ?_
  intro p e s m args below meth c Q ls hQ hAt hKB hP hl
  obtain ⟨hx, hb, hr, hml, hlk, hts, hown, hnm⟩ := hAt
  have hown : s.vm.findClass RX5 = some m.cls := hown
  have hS : va_S NA s.heap s.heap [] := va_S.rf
  have hl : lv_has ls 2 [(0, .int (nI t)), (1, .int (nI m2))] := hl
  refine lv_iload_n hx hb dX5_formOf_0 rfl (lv_at hl 0 rfl) ?_
  refine lv_iload_n hx hb dX5_formOf_1 rfl (lv_at hl 1 rfl) ?_
  refine r_ishr (a := t) (b := m2) hx hb dX5_formOf_2 (by omega) (by omega) ?_
  refine lv_iconst (v := nI (1)) hx hb dX5_formOf_3 (by decide) ?_
  refine r_iand (a := t >>> m2) (b := 1) hx hb dX5_formOf_4  ?_
  exact r_iret hx hb hr hlk hQ hS (rfl) dX5_formOf_5

set_option maxHeartbeats 4000000 in
set_option maxRecDepth 100000 in
theorem m_X5_isBetween (l : Launch) (D : va_G) (cI cJ : ClassId) (v : Int32) (lo : Nat) (hi : Nat) : Met l yX5_isBetween wsX5_isBetween ({ frames := 0, cells := 0, slots := 0, locals := 0 }) (PR D cI cJ [] [.int v, .int (nI lo), .int (nI hi)]) (QRi (fun r => r = bI (inR v lo hi))) 0 0 NA := by
  refine met_R (cc := cX5_isBetween) (maxL := 3) (ret := (some .boolean)) (by decide) rfl (Nat.le_of_ble_eq_true rfl) ?_
  intro p e s m args below meth c Q ls hQ hAt hKB hP hl
  obtain ⟨hx, hb, hr, hml, hlk, hts, hown, hnm⟩ := hAt
  have hown : s.vm.findClass RX5 = some m.cls := hown
  have hS : va_S NA s.heap s.heap [] := va_S.rf
  have hl : lv_has ls 3 [(0, .int v), (1, .int (nI lo)), (2, .int (nI hi))] := hl
  refine lv_iload_n hx hb dX5_isBetween_0 rfl (lv_at hl 0 rfl) ?_
  refine lv_iload_n hx hb dX5_isBetween_1 rfl (lv_at hl 1 rfl) ?_
  refine lv_icmp_lt (tgt := 14) hx hb dX5_isBetween_2 (by decide) (fun c2 => ?_) (fun c2 => ?_)
  · skip
    refine lv_iconst (v := nI (0)) hx hb dX5_isBetween_14 (by decide) ?_
    exact r_zret (b := false) hx hb hr hlk hQ hS rfl (by first | rw [inR_f1 c2] | rw [inR_f2 c7]) dX5_isBetween_15
  refine lv_iload_n hx hb dX5_isBetween_5 rfl (lv_at hl 0 rfl) ?_
  refine lv_iload_n hx hb dX5_isBetween_6 rfl (lv_at hl 2 rfl) ?_
  refine lv_icmp_gt (tgt := 14) hx hb dX5_isBetween_7 (by decide) (fun c7 => ?_) (fun c7 => ?_)
  · skip
    refine lv_iconst (v := nI (0)) hx hb dX5_isBetween_14 (by decide) ?_
    exact r_zret (b := false) hx hb hr hlk hQ hS rfl (by first | rw [inR_f1 c2] | rw [inR_f2 c7]) dX5_isBetween_15
  refine lv_iconst (v := nI (1)) hx hb dX5_isBetween_10 (by decide) ?_
  refine lv_goto (tgt := 15) hx hb dX5_isBetween_11 (by decide) ?_
  exact r_zret (b := true) hx hb hr hlk hQ hS rfl (by rw [inR_tt c2 c7]) dX5_isBetween_15

set_option maxHeartbeats 4000000 in
set_option maxRecDepth 100000 in
theorem m_X5_isTongue (l : Launch) (D : va_G) (cI cJ : ClassId) (v : Int32) : Met l yX5_isTongue wsX5_isTongue ({ frames := 1, cells := 0, slots := 0, locals := 22 }) (PR D cI cJ [] [.int v]) (QRi (fun r => r = bI (inR v 0 7))) 0 0 NA := by
  refine met_R (cc := cX5_isTongue) (maxL := 1) (ret := (some .boolean)) (by decide) rfl (Nat.le_of_ble_eq_true rfl) ?_
  intro p e s m args below meth c Q ls hQ hAt hKB hP hl
  obtain ⟨hx, hb, hr, hml, hlk, hts, hown, hnm⟩ := hAt
  have hown : s.vm.findClass RX5 = some m.cls := hown
  have hS : va_S NA s.heap s.heap [] := va_S.rf
  have hl : lv_has ls 1 [(0, .int v)] := hl
  refine lv_iload_n hx hb dX5_isTongue_0 rfl (lv_at hl 0 rfl) ?_
  refine lv_iconst (v := nI (0)) hx hb dX5_isTongue_1 (by decide) ?_
  refine lv_bipush (v := nI (7)) hx hb dX5_isTongue_2 (by decide) ?_
  have hPc := hP.sub (ws' := []) [] rfl
  refine r_calli hP hS (va_runS (As := [.int v, .int (nI 0), .int (nI 7)]) (rest := []) ⟨hx, hb, hml, hown, hts⟩ (m_X5_isBetween l D cI cJ v 0 7) (va_cwS 3 hts gX5_isTongue_X5_isBetween rfl rfl rfl (by decide +kernel) ⟨Nat.le_of_ble_eq_true rfl, Nat.le_of_ble_eq_true rfl⟩) ⟨PR.blind, fun U hU hW => ⟨rfl, hKB.warm hW, by rw [hU]; exact hPc⟩⟩ rfl rfl hl.1 rfl (lv_room (Nat.le_of_ble_eq_true rfl)) dX5_isTongue_4 ⟨Nat.le_of_ble_eq_true rfl, Nat.le_of_ble_eq_true rfl⟩) (fun r1 H locs hw4 hP hS => ?_)
  have hw4 : r1 = bI (inR v 0 7) := hw4
  subst hw4
  exact r_zret (b := inR v 0 7) hx hb hr hlk hQ hS rfl (rfl) dX5_isTongue_7

set_option maxHeartbeats 4000000 in
set_option maxRecDepth 100000 in
theorem m_X5_isMeaning (l : Launch) (D : va_G) (cI cJ : ClassId) (v : Int32) : Met l yX5_isMeaning wsX5_isMeaning ({ frames := 1, cells := 0, slots := 0, locals := 22 }) (PR D cI cJ [] [.int v]) (QRi (fun r => r = bI (inR v 0 2))) 0 0 NA := by
  refine met_R (cc := cX5_isMeaning) (maxL := 1) (ret := (some .boolean)) (by decide) rfl (Nat.le_of_ble_eq_true rfl) ?_
  intro p e s m args below meth c Q ls hQ hAt hKB hP hl
  obtain ⟨hx, hb, hr, hml, hlk, hts, hown, hnm⟩ := hAt
  have hown : s.vm.findClass RX5 = some m.cls := hown
  have hS : va_S NA s.heap s.heap [] := va_S.rf
  have hl : lv_has ls 1 [(0, .int v)] := hl
  refine lv_iload_n hx hb dX5_isMeaning_0 rfl (lv_at hl 0 rfl) ?_
  refine lv_iconst (v := nI (0)) hx hb dX5_isMeaning_1 (by decide) ?_
  refine lv_iconst (v := nI (2)) hx hb dX5_isMeaning_2 (by decide) ?_
  have hPc := hP.sub (ws' := []) [] rfl
  refine r_calli hP hS (va_runS (As := [.int v, .int (nI 0), .int (nI 2)]) (rest := []) ⟨hx, hb, hml, hown, hts⟩ (m_X5_isBetween l D cI cJ v 0 2) (va_cwS 3 hts gX5_isMeaning_X5_isBetween rfl rfl rfl (by decide +kernel) ⟨Nat.le_of_ble_eq_true rfl, Nat.le_of_ble_eq_true rfl⟩) ⟨PR.blind, fun U hU hW => ⟨rfl, hKB.warm hW, by rw [hU]; exact hPc⟩⟩ rfl rfl hl.1 rfl (lv_room (Nat.le_of_ble_eq_true rfl)) dX5_isMeaning_3 ⟨Nat.le_of_ble_eq_true rfl, Nat.le_of_ble_eq_true rfl⟩) (fun r1 H locs hw3 hP hS => ?_)
  have hw3 : r1 = bI (inR v 0 2) := hw3
  subst hw3
  exact r_zret (b := inR v 0 2) hx hb hr hlk hQ hS rfl (rfl) dX5_isMeaning_6

set_option maxHeartbeats 4000000 in
set_option maxRecDepth 100000 in
theorem m_X5_isForm (l : Launch) (D : va_G) (cI cJ : ClassId) (v : Int32) : Met l yX5_isForm wsX5_isForm ({ frames := 1, cells := 0, slots := 0, locals := 22 }) (PR D cI cJ [] [.int v]) (QRi (fun r => r = bI (inR v 0 1))) 0 0 NA := by
  refine met_R (cc := cX5_isForm) (maxL := 1) (ret := (some .boolean)) (by decide) rfl (Nat.le_of_ble_eq_true rfl) ?_
  intro p e s m args below meth c Q ls hQ hAt hKB hP hl
  obtain ⟨hx, hb, hr, hml, hlk, hts, hown, hnm⟩ := hAt
  have hown : s.vm.findClass RX5 = some m.cls := hown
  have hS : va_S NA s.heap s.heap [] := va_S.rf
  have hl : lv_has ls 1 [(0, .int v)] := hl
  refine lv_iload_n hx hb dX5_isForm_0 rfl (lv_at hl 0 rfl) ?_
  refine lv_iconst (v := nI (0)) hx hb dX5_isForm_1 (by decide) ?_
  refine lv_iconst (v := nI (1)) hx hb dX5_isForm_2 (by decide) ?_
  have hPc := hP.sub (ws' := []) [] rfl
  refine r_calli hP hS (va_runS (As := [.int v, .int (nI 0), .int (nI 1)]) (rest := []) ⟨hx, hb, hml, hown, hts⟩ (m_X5_isBetween l D cI cJ v 0 1) (va_cwS 3 hts gX5_isForm_X5_isBetween rfl rfl rfl (by decide +kernel) ⟨Nat.le_of_ble_eq_true rfl, Nat.le_of_ble_eq_true rfl⟩) ⟨PR.blind, fun U hU hW => ⟨rfl, hKB.warm hW, by rw [hU]; exact hPc⟩⟩ rfl rfl hl.1 rfl (lv_room (Nat.le_of_ble_eq_true rfl)) dX5_isForm_3 ⟨Nat.le_of_ble_eq_true rfl, Nat.le_of_ble_eq_true rfl⟩) (fun r1 H locs hw3 hP hS => ?_)
  have hw3 : r1 = bI (inR v 0 1) := hw3
  subst hw3
  exact r_zret (b := inR v 0 1) hx hb hr hlk hQ hS rfl (rfl) dX5_isForm_6

set_option maxHeartbeats 4000000 in
set_option maxRecDepth 100000 in
theorem m_X5_isPart (l : Launch) (D : va_G) (cI cJ : ClassId) (v : Int32) : Met l yX5_isPart wsX5_isPart ({ frames := 1, cells := 0, slots := 0, locals := 22 }) (PR D cI cJ [] [.int v]) (QRi (fun r => r = bI (inR v 0 1))) 0 0 NA := by
  refine met_R (cc := cX5_isPart) (maxL := 1) (ret := (some .boolean)) (by decide) rfl (Nat.le_of_ble_eq_true rfl) ?_
  intro p e s m args below meth c Q ls hQ hAt hKB hP hl
  obtain ⟨hx, hb, hr, hml, hlk, hts, hown, hnm⟩ := hAt
  have hown : s.vm.findClass RX5 = some m.cls := hown
  have hS : va_S NA s.heap s.heap [] := va_S.rf
  have hl : lv_has ls 1 [(0, .int v)] := hl
  refine lv_iload_n hx hb dX5_isPart_0 rfl (lv_at hl 0 rfl) ?_
  refine lv_iconst (v := nI (0)) hx hb dX5_isPart_1 (by decide) ?_
  refine lv_iconst (v := nI (1)) hx hb dX5_isPart_2 (by decide) ?_
  have hPc := hP.sub (ws' := []) [] rfl
  refine r_calli hP hS (va_runS (As := [.int v, .int (nI 0), .int (nI 1)]) (rest := []) ⟨hx, hb, hml, hown, hts⟩ (m_X5_isBetween l D cI cJ v 0 1) (va_cwS 3 hts gX5_isPart_X5_isBetween rfl rfl rfl (by decide +kernel) ⟨Nat.le_of_ble_eq_true rfl, Nat.le_of_ble_eq_true rfl⟩) ⟨PR.blind, fun U hU hW => ⟨rfl, hKB.warm hW, by rw [hU]; exact hPc⟩⟩ rfl rfl hl.1 rfl (lv_room (Nat.le_of_ble_eq_true rfl)) dX5_isPart_3 ⟨Nat.le_of_ble_eq_true rfl, Nat.le_of_ble_eq_true rfl⟩) (fun r1 H locs hw3 hP hS => ?_)
  have hw3 : r1 = bI (inR v 0 1) := hw3
  subst hw3
  exact r_zret (b := inR v 0 1) hx hb hr hlk hQ hS rfl (rfl) dX5_isPart_6

set_option maxHeartbeats 4000000 in
set_option maxRecDepth 100000 in
theorem m_X5_refusalOf (l : Launch) (D : va_G) (cI cJ : ClassId) (kn : Bool) (ins : Bool) : Met l yX5_refusalOf wsX5_refusalOf ({ frames := 0, cells := 0, slots := 0, locals := 0 }) (PR D cI cJ [] [.int (bI kn), .int (bI ins)]) (QRi (fun r => r = rfo kn ins)) 0 0 NA := by
  refine met_R (cc := cX5_refusalOf) (maxL := 2) (ret := (some .int)) (by decide) rfl (Nat.le_of_ble_eq_true rfl) ?_
  intro p e s m args below meth c Q ls hQ hAt hKB hP hl
  obtain ⟨hx, hb, hr, hml, hlk, hts, hown, hnm⟩ := hAt
  have hown : s.vm.findClass RX5 = some m.cls := hown
  have hS : va_S NA s.heap s.heap [] := va_S.rf
  have hl : lv_has ls 2 [(0, .int (bI kn)), (1, .int (bI ins))] := hl
  refine lv_iload_n hx hb dX5_refusalOf_0 rfl (lv_at hl 0 rfl) ?_
  refine r_bif_ne (b := kn) (tgt := 6) hx hb dX5_refusalOf_1 (by decide) (fun c1 => ?_) (fun c1 => ?_)
  · skip
    refine lv_iload_n hx hb dX5_refusalOf_6 rfl (lv_at hl 1 rfl) ?_
    refine r_bif_eq (b := ins) (tgt := 14) hx hb dX5_refusalOf_7 (by decide) (fun c7 => ?_) (fun c7 => ?_)
    · skip
      refine lv_bipush (v := (-2)) hx hb dX5_refusalOf_14 (by decide) ?_
      exact r_iret hx hb hr hlk hQ hS (by rw [c1, c7]; rfl) dX5_refusalOf_16
    refine lv_iconst (v := nI (0)) hx hb dX5_refusalOf_10 (by decide) ?_
    refine lv_goto (tgt := 16) hx hb dX5_refusalOf_11 (by decide) ?_
    exact r_iret hx hb hr hlk hQ hS (by rw [c1, c7]; rfl) dX5_refusalOf_16
  refine lv_iconst (v := (-1)) hx hb dX5_refusalOf_4 (by decide) ?_
  exact r_iret hx hb hr hlk hQ hS (by rw [c1]; rfl) dX5_refusalOf_5

set_option maxHeartbeats 4000000 in
set_option maxRecDepth 100000 in
theorem m_X5_power (l : Launch) (D : va_G) (cI cJ : ClassId) (bs : Nat) (tm : Nat) (htm : tm < 2 ^ 31) : Met l yX5_power wsX5_power ({ frames := 0, cells := 0, slots := 0, locals := 0 }) (PR D cI cJ [] [.long (lN bs), .int (nI tm)]) (QRl (fun r => r = lN (pw bs tm))) 0 0 NA := by
  refine met_R (cc := cX5_power) (maxL := 6) (ret := (some .long)) (by decide) rfl (Nat.le_of_ble_eq_true rfl) ?_
  intro p e s m args below meth c Q ls hQ hAt hKB hP hl
  obtain ⟨hx, hb, hr, hml, hlk, hts, hown, hnm⟩ := hAt
  have hown : s.vm.findClass RX5 = some m.cls := hown
  have hS : va_S NA s.heap s.heap [] := va_S.rf
  have hl : lv_has ls 6 [(0, .long (lN bs)), (2, .int (nI tm))] := hl
  refine lv_lconst (v := lN (1)) hx hb dX5_power_0 (by decide) ?_
  refine lv_lstore_n (lv' := [(3, .long (lN 1)), (0, .long (lN bs)), (2, .int (nI tm))]) hx hb dX5_power_1 rfl hl (by decide) rfl (fun ls hl => ?_)
  refine lv_iconst (v := nI (0)) hx hb dX5_power_2 (by decide) ?_
  refine lv_istore (lv' := [(5, .int (nI 0)), (3, .long (lN 1)), (0, .long (lN bs)), (2, .int (nI tm))]) hx hb dX5_power_3 hl (by decide) rfl (fun ls hl => ?_)
  have L5 : ∀ (n : Nat) (k : Nat) (H : Heap) (locs : List Loc) (ls : Array Slot), tm - k < n → (k ≤ tm) → va_P D vwCl [] H → va_S NA s.heap H locs → lv_has ls 6 [(5, .int (nI k)), (3, .long (lN (pw bs k))), (0, .long (lN bs)), (2, .int (nI tm))] → W p l e ({ frames := 0, cells := 0, slots := 0, locals := 0 }) s m args below meth c H locs 0 0 Q (F0 m 5 ls []) := by
    intro n
    induction n with
    | zero => intro k H locs ls hm; exact absurd hm (Nat.not_lt_zero _)
    | succ n ih5 =>
      intro k H locs ls hm hk hP hS hl
      refine lv_iload hx hb dX5_power_5 (lv_at hl 0 rfl) ?_
      refine lv_iload_n hx hb dX5_power_7 rfl (lv_at hl 3 rfl) ?_
      refine r_icmp_ge (a := k) (b := tm) (tgt := 21) hx hb dX5_power_8 (by decide) (by omega) (by omega)  (fun c8 => ?_) (fun c8 => ?_)
      · skip
        refine lv_lload_n hx hb dX5_power_21 rfl (lv_at hl 1 rfl) ?_
        exact r_lret hx hb hr hlk hQ hS (by rw [show k = tm by omega]) dX5_power_22
      refine lv_lload_n hx hb dX5_power_11 rfl (lv_at hl 1 rfl) ?_
      refine lv_lload_n hx hb dX5_power_12 rfl (lv_at hl 2 rfl) ?_
      refine r_lmul (a := pw bs k) (b := bs) hx hb dX5_power_13  ?_
      refine lv_lstore_n (lv' := [(3, .long (lN ((pw bs k) * bs))), (5, .int (nI k)), (0, .long (lN bs)), (2, .int (nI tm))]) hx hb dX5_power_14 rfl hl (by decide) rfl (fun ls hl => ?_)
      refine lv_iinc (v := nI (k + 1)) (lv' := [(5, .int (nI (k + 1))), (3, .long (lN ((pw bs k) * bs))), (0, .long (lN bs)), (2, .int (nI tm))]) hx hb dX5_power_15 hl (k := 1) rfl (n_inc _ 1) (by decide) rfl (fun ls hl => ?_)
      refine lv_goto (tgt := 5) hx hb dX5_power_18 (by decide) ?_
      exact ih5 (k + 1) _ _ _ (by omega) (by omega) hP hS hl
  exact L5 (tm - 0 + 1) 0 _ _ _ (Nat.lt_succ_self _) (by omega) hP hS hl

set_option maxHeartbeats 4000000 in
set_option maxRecDepth 100000 in
theorem m_X5_commonDivisor (l : Launch) (D : va_G) (cI cJ : ClassId) (a : Nat) (b : Nat) (ha : a < 2 ^ 63) (hb2 : b < 2 ^ 63) : Met l yX5_commonDivisor wsX5_commonDivisor ({ frames := 0, cells := 0, slots := 0, locals := 0 }) (PR D cI cJ [] [.long (lN a), .long (lN b)]) (QRl (fun r => r = lN (Nat.gcd a b))) 0 0 NA := by
  refine met_R (cc := cX5_commonDivisor) (maxL := 11) (ret := (some .long)) (by decide) rfl (Nat.le_of_ble_eq_true rfl) ?_
  intro p e s m args below meth c Q ls hQ hAt hKB hP hl
  obtain ⟨hx, hb, hr, hml, hlk, hts, hown, hnm⟩ := hAt
  have hown : s.vm.findClass RX5 = some m.cls := hown
  have hS : va_S NA s.heap s.heap [] := va_S.rf
  have hl : lv_has ls 11 [(0, .long (lN a)), (2, .long (lN b))] := hl
  refine lv_lload_n hx hb dX5_commonDivisor_0 rfl (lv_at hl 0 rfl) ?_
  refine lv_lstore (lv' := [(4, .long (lN a)), (0, .long (lN a)), (2, .long (lN b))]) hx hb dX5_commonDivisor_1 hl (by decide) rfl (fun ls hl => ?_)
  refine lv_lload_n hx hb dX5_commonDivisor_3 rfl (lv_at hl 2 rfl) ?_
  refine lv_lstore (lv' := [(6, .long (lN b)), (4, .long (lN a)), (0, .long (lN a)), (2, .long (lN b))]) hx hb dX5_commonDivisor_4 hl (by decide) rfl (fun ls hl => ?_)
  refine lv_iconst (v := nI (0)) hx hb dX5_commonDivisor_6 (by decide) ?_
  refine lv_istore (lv' := [(8, .int (nI 0)), (6, .long (lN b)), (4, .long (lN a)), (0, .long (lN a)), (2, .long (lN b))]) hx hb dX5_commonDivisor_7 hl (by decide) rfl (fun ls hl => ?_)
  have L9 : ∀ (n : Nat) (x : Nat) (y : Nat) (k : Nat) (H : Heap) (locs : List Loc) (ls : Array Slot), 1000 - k < n → (k ≤ 1000) → (x < 2 ^ 63) → (y < 2 ^ 63) → (Nat.gcd x y = Nat.gcd a b) → (0 < k → x * y * 2 ^ k < 2 ^ 127) → (k = 0 → x * y < 2 ^ 126) → (0 < k → y ≤ x) → va_P D vwCl [] H → va_S NA s.heap H locs → lv_has ls 11 [(8, .int (nI k)), (6, .long (lN y)), (4, .long (lN x)), (0, .long (lN a)), (2, .long (lN b))] → W p l e ({ frames := 0, cells := 0, slots := 0, locals := 0 }) s m args below meth c H locs 0 0 Q (F0 m 9 ls []) := by
    intro n
    induction n with
    | zero => intro x y k H locs ls hm; exact absurd hm (Nat.not_lt_zero _)
    | succ n ih9 =>
      intro x y k H locs ls hm hk hxb hyb hg h1 h0 hle hP hS hl
      refine lv_iload hx hb dX5_commonDivisor_9 (lv_at hl 0 rfl) ?_
      refine lv_sipush (v := nI (1000)) hx hb dX5_commonDivisor_11 (by decide) ?_
      refine r_icmp_ge (a := k) (b := 1000) (tgt := 45) hx hb dX5_commonDivisor_14 (by decide) (by omega) (by omega)  (fun c14 => ?_) (fun c14 => ?_)
      · skip
        refine lv_lload hx hb dX5_commonDivisor_45 (lv_at hl 2 rfl) ?_
        exact r_lret hx hb hr hlk hQ hS (by first | (have hy0 := lN_eq0 hyb c20; subst hy0; rw [← hg, Nat.gcd_zero_right]) | (have hy0 := eu_end c14 h1 hle; subst hy0; rw [← hg, Nat.gcd_zero_right])) dX5_commonDivisor_47
      refine lv_lload hx hb dX5_commonDivisor_17 (lv_at hl 1 rfl) ?_
      refine lv_lconst (v := lN (0)) hx hb dX5_commonDivisor_19 (by decide) ?_
      refine r_lcmp_eq (x := lN (y)) (y := lN (0)) (tgt := 45) hx hb dX5_commonDivisor_20 dX5_commonDivisor_21 (by decide) (fun c20 => ?_) (fun c20 => ?_)
      · skip
        refine lv_lload hx hb dX5_commonDivisor_45 (lv_at hl 2 rfl) ?_
        exact r_lret hx hb hr hlk hQ hS (by first | (have hy0 := lN_eq0 hyb c20; subst hy0; rw [← hg, Nat.gcd_zero_right]) | (have hy0 := eu_end c14 h1 hle; subst hy0; rw [← hg, Nat.gcd_zero_right])) dX5_commonDivisor_47
      refine lv_lload hx hb dX5_commonDivisor_24 (lv_at hl 2 rfl) ?_
      refine lv_lload hx hb dX5_commonDivisor_26 (lv_at hl 1 rfl) ?_
      refine r_lrem (a := x) (b := y) hx hb dX5_commonDivisor_28 hxb (lN_ne c20) hyb ?_
      refine lv_lstore (lv' := [(9, .long (lN (x % y))), (8, .int (nI k)), (6, .long (lN y)), (4, .long (lN x)), (0, .long (lN a)), (2, .long (lN b))]) hx hb dX5_commonDivisor_29 hl (by decide) rfl (fun ls hl => ?_)
      refine lv_lload hx hb dX5_commonDivisor_31 (lv_at hl 2 rfl) ?_
      refine lv_lstore (lv' := [(4, .long (lN y)), (9, .long (lN (x % y))), (8, .int (nI k)), (6, .long (lN y)), (0, .long (lN a)), (2, .long (lN b))]) hx hb dX5_commonDivisor_33 hl (by decide) rfl (fun ls hl => ?_)
      refine lv_lload hx hb dX5_commonDivisor_35 (lv_at hl 1 rfl) ?_
      refine lv_lstore (lv' := [(6, .long (lN (x % y))), (4, .long (lN y)), (9, .long (lN (x % y))), (8, .int (nI k)), (0, .long (lN a)), (2, .long (lN b))]) hx hb dX5_commonDivisor_37 hl (by decide) rfl (fun ls hl => ?_)
      refine lv_iinc (v := nI (k + 1)) (lv' := [(8, .int (nI (k + 1))), (6, .long (lN (x % y))), (4, .long (lN y)), (9, .long (lN (x % y))), (0, .long (lN a)), (2, .long (lN b))]) hx hb dX5_commonDivisor_39 hl (k := 3) rfl (n_inc _ 1) (by decide) rfl (fun ls hl => ?_)
      refine lv_goto (tgt := 9) hx hb dX5_commonDivisor_42 (by decide) ?_
      exact ih9 y (x % y) (k + 1) _ _ _ (by omega) (by omega) (hyb) (Nat.lt_trans (Nat.mod_lt _ (lN_ne c20)) hyb) ((eu_gcd x y).trans hg) (fun _ => eu_bd (lN_ne c20) h1 h0 hle) (fun h => absurd h (by omega)) (fun _ => Nat.le_of_lt (Nat.mod_lt _ (lN_ne c20))) hP hS (lv_sub hl [0, 1, 2, 4, 5] rfl)
  exact L9 (1000 - 0 + 1) a b 0 _ _ _ (Nat.lt_succ_self _) (by omega) (ha) (hb2) (rfl) (fun h => absurd h (Nat.lt_irrefl 0)) (fun _ => Nat.lt_of_lt_of_le (Nat.mul_lt_mul_of_lt_of_lt ha hb2) (by decide)) (fun h => absurd h (Nat.lt_irrefl 0)) hP hS hl

set_option maxHeartbeats 4000000 in
set_option maxRecDepth 100000 in
theorem m_X5_fraction (l : Launch) (D : va_G) (cI cJ : ClassId) (a : Nat) (b : Nat) (pt : Nat) (ha : a < 2 ^ 63) (hb2 : b < 2 ^ 63) (hpt : pt ≤ 1) : Met l yX5_fraction wsX5_fraction ({ frames := 1, cells := 0, slots := 0, locals := 30 }) (PR D cI cJ [] [.long (lN a), .long (lN b), .int (nI pt)]) (QRl (fun r => r = lN (lwst a b pt))) 0 0 NA := by
  refine met_R (cc := cX5_fraction) (maxL := 7) (ret := (some .long)) (by decide) rfl (Nat.le_of_ble_eq_true rfl) ?_
  intro p e s m args below meth c Q ls hQ hAt hKB hP hl
  obtain ⟨hx, hb, hr, hml, hlk, hts, hown, hnm⟩ := hAt
  have hown : s.vm.findClass RX5 = some m.cls := hown
  have hS : va_S NA s.heap s.heap [] := va_S.rf
  have hl : lv_has ls 7 [(0, .long (lN a)), (2, .long (lN b)), (4, .int (nI pt))] := hl
  refine lv_lload_n hx hb dX5_fraction_0 rfl (lv_at hl 0 rfl) ?_
  refine lv_lconst (v := lN (0)) hx hb dX5_fraction_1 (by decide) ?_
  refine r_lcmp_le (x := lN (a)) (y := lN (0)) (tgt := 12) hx hb dX5_fraction_2 dX5_fraction_3 (by decide) (fun c2 => ?_) (fun c2 => ?_)
  · skip
    have hpt0 : lwst a b pt = pt := by first | (have h0 := lN_le0 ha c2; subst h0; exact lwst_a0 hpt) | (have h0 : b = 0 := lN_le0 hb2 (Int64.not_lt.mp c8); subst h0; exact lwst_b0)
    refine lv_iload hx hb dX5_fraction_12 (lv_at hl 2 rfl) ?_
    refine r_if_ne (a := pt) (tgt := 21) hx hb dX5_fraction_14 (by decide) (by omega) (fun c14 => ?_) (fun c14 => ?_)
    · skip
      refine lv_lconst (v := lN (1)) hx hb dX5_fraction_21 (by decide) ?_
      exact r_lret hx hb hr hlk hQ hS (by rw [hpt0, show pt = 1 by omega]) dX5_fraction_22
    refine lv_lconst (v := lN (0)) hx hb dX5_fraction_17 (by decide) ?_
    refine lv_goto (tgt := 22) hx hb dX5_fraction_18 (by decide) ?_
    exact r_lret hx hb hr hlk hQ hS (by rw [hpt0, show pt = 0 by omega]) dX5_fraction_22
  refine lv_lload_n hx hb dX5_fraction_6 rfl (lv_at hl 1 rfl) ?_
  refine lv_lconst (v := lN (0)) hx hb dX5_fraction_7 (by decide) ?_
  refine r_lcmp_gt (x := lN (b)) (y := lN (0)) (tgt := 23) hx hb dX5_fraction_8 dX5_fraction_9 (by decide) (fun c8 => ?_) (fun c8 => ?_)
  · skip
    have ha0 : 0 < a := lN_gt0 ha (Int64.not_le.mp c2)
    have hb0 : 0 < b := lN_gt0 hb2 c8
    have hgp := gcd_pos (a := a) hb0
    have hgl := gcd_lt (a := a) hb0 hb2
    refine lv_lload_n hx hb dX5_fraction_23 rfl (lv_at hl 0 rfl) ?_
    refine lv_lload_n hx hb dX5_fraction_24 rfl (lv_at hl 1 rfl) ?_
    have hPc := hP.sub (ws' := []) [] rfl
    refine r_calll hP hS (va_runS (As := [.long (lN a), .long (lN b)]) (rest := []) ⟨hx, hb, hml, hown, hts⟩ (m_X5_commonDivisor l D cI cJ a b (by omega) (by omega)) (va_cwS 2 hts gX5_fraction_X5_commonDivisor rfl rfl rfl (by decide +kernel) ⟨Nat.le_of_ble_eq_true rfl, Nat.le_of_ble_eq_true rfl⟩) ⟨PR.blind, fun U hU hW => ⟨rfl, hKB.warm hW, by rw [hU]; exact hPc⟩⟩ rfl rfl hl.1 rfl (lv_room (Nat.le_of_ble_eq_true rfl)) dX5_fraction_25 ⟨Nat.le_of_ble_eq_true rfl, Nat.le_of_ble_eq_true rfl⟩) (fun r1 H locs hw25 hP hS => ?_)
    have hw25 : r1 = lN (Nat.gcd a b) := hw25
    subst hw25
    refine lv_lstore (lv' := [(5, .long (lN (Nat.gcd a b))), (0, .long (lN a)), (2, .long (lN b)), (4, .int (nI pt))]) hx hb dX5_fraction_28 hl (by decide) rfl (fun ls hl => ?_)
    refine lv_lload hx hb dX5_fraction_30 (lv_at hl 0 rfl) ?_
    refine lv_lconst (v := lN (0)) hx hb dX5_fraction_32 (by decide) ?_
    refine r_lcmp_gt (x := lN (Nat.gcd a b)) (y := lN (0)) (tgt := 41) hx hb dX5_fraction_33 dX5_fraction_34 (by decide) (fun c33 => ?_) (fun c33 => ?_)
    · skip
      refine lv_iload hx hb dX5_fraction_41 (lv_at hl 3 rfl) ?_
      refine r_if_ne (a := pt) (tgt := 50) hx hb dX5_fraction_43 (by decide) (by omega) (fun c43 => ?_) (fun c43 => ?_)
      · skip
        refine lv_lload_n hx hb dX5_fraction_50 rfl (lv_at hl 2 rfl) ?_
        refine lv_lload hx hb dX5_fraction_51 (lv_at hl 0 rfl) ?_
        refine r_ldiv (a := b) (b := Nat.gcd a b) hx hb dX5_fraction_53 (by assumption) hgp hgl ?_
        exact r_lret hx hb hr hlk hQ hS (by simp only [lwst]; rw [if_neg (by omega)]; first | rw [if_pos c43] | rw [if_neg c43]) dX5_fraction_54
      refine lv_lload_n hx hb dX5_fraction_46 rfl (lv_at hl 1 rfl) ?_
      refine lv_goto (tgt := 51) hx hb dX5_fraction_47 (by decide) ?_
      refine lv_lload hx hb dX5_fraction_51 (lv_at hl 0 rfl) ?_
      refine r_ldiv (a := a) (b := Nat.gcd a b) hx hb dX5_fraction_53 (by assumption) hgp hgl ?_
      exact r_lret hx hb hr hlk hQ hS (by simp only [lwst]; rw [if_neg (by omega)]; first | rw [if_pos c43] | rw [if_neg c43]) dX5_fraction_54
    exact absurd ((pk_lLT (by decide) hgl).mpr hgp) c33
  have hpt0 : lwst a b pt = pt := by first | (have h0 := lN_le0 ha c2; subst h0; exact lwst_a0 hpt) | (have h0 : b = 0 := lN_le0 hb2 (Int64.not_lt.mp c8); subst h0; exact lwst_b0)
  refine lv_iload hx hb dX5_fraction_12 (lv_at hl 2 rfl) ?_
  refine r_if_ne (a := pt) (tgt := 21) hx hb dX5_fraction_14 (by decide) (by omega) (fun c14 => ?_) (fun c14 => ?_)
  · skip
    refine lv_lconst (v := lN (1)) hx hb dX5_fraction_21 (by decide) ?_
    exact r_lret hx hb hr hlk hQ hS (by rw [hpt0, show pt = 1 by omega]) dX5_fraction_22
  refine lv_lconst (v := lN (0)) hx hb dX5_fraction_17 (by decide) ?_
  refine lv_goto (tgt := 22) hx hb dX5_fraction_18 (by decide) ?_
  exact r_lret hx hb hr hlk hQ hS (by rw [hpt0, show pt = 0 by omega]) dX5_fraction_22

set_option maxHeartbeats 4000000 in
set_option maxRecDepth 100000 in
theorem m_X6_in (l : Launch) (D : va_G) (cI cJ : ClassId) (v : Int64) (lo : Int64) (hi : Int64) : Met l yX6_in wsX6_in ({ frames := 0, cells := 0, slots := 0, locals := 0 }) (PR D cI cJ [] [.long v, .long lo, .long hi]) (QRi (fun r => r = bI (inL v lo hi))) 0 0 NA := by
  refine met_R (cc := cX6_in) (maxL := 6) (ret := (some .boolean)) (by decide) rfl (Nat.le_of_ble_eq_true rfl) ?_
  intro p e s m args below meth c Q ls hQ hAt hKB hP hl
  obtain ⟨hx, hb, hr, hml, hlk, hts, hown, hnm⟩ := hAt
  have hown : s.vm.findClass RX6 = some m.cls := hown
  have hS : va_S NA s.heap s.heap [] := va_S.rf
  have hl : lv_has ls 6 [(0, .long v), (2, .long lo), (4, .long hi)] := hl
  refine lv_lload_n hx hb dX6_in_0 rfl (lv_at hl 0 rfl) ?_
  refine lv_lload_n hx hb dX6_in_1 rfl (lv_at hl 1 rfl) ?_
  refine r_lcmp_lt (x := v) (y := lo) (tgt := 17) hx hb dX6_in_2 dX6_in_3 (by decide) (fun c2 => ?_) (fun c2 => ?_)
  · skip
    refine lv_iconst (v := nI (0)) hx hb dX6_in_17 (by decide) ?_
    exact r_zret (b := false) hx hb hr hlk hQ hS rfl (by first | rw [inL_f1 c2] | rw [inL_f2 c9]) dX6_in_18
  refine lv_lload_n hx hb dX6_in_6 rfl (lv_at hl 0 rfl) ?_
  refine lv_lload hx hb dX6_in_7 (lv_at hl 2 rfl) ?_
  refine r_lcmp_gt (x := v) (y := hi) (tgt := 17) hx hb dX6_in_9 dX6_in_10 (by decide) (fun c9 => ?_) (fun c9 => ?_)
  · skip
    refine lv_iconst (v := nI (0)) hx hb dX6_in_17 (by decide) ?_
    exact r_zret (b := false) hx hb hr hlk hQ hS rfl (by first | rw [inL_f1 c2] | rw [inL_f2 c9]) dX6_in_18
  refine lv_iconst (v := nI (1)) hx hb dX6_in_13 (by decide) ?_
  refine lv_goto (tgt := 18) hx hb dX6_in_14 (by decide) ?_
  exact r_zret (b := true) hx hb hr hlk hQ hS rfl (by rw [inL_tt c2 c9]) dX6_in_18

set_option maxHeartbeats 4000000 in
set_option maxRecDepth 100000 in
theorem m_X6_isTongue (l : Launch) (D : va_G) (cI cJ : ClassId) (v : Int32) : Met l yX6_isTongue wsX6_isTongue ({ frames := 1, cells := 0, slots := 0, locals := 25 }) (PR D cI cJ [] [.int v]) (QRi (fun r => r = bI (inR v 0 7))) 0 0 NA := by
  refine met_R (cc := cX6_isTongue) (maxL := 1) (ret := (some .boolean)) (by decide) rfl (Nat.le_of_ble_eq_true rfl) ?_
  intro p e s m args below meth c Q ls hQ hAt hKB hP hl
  obtain ⟨hx, hb, hr, hml, hlk, hts, hown, hnm⟩ := hAt
  have hown : s.vm.findClass RX6 = some m.cls := hown
  have hS : va_S NA s.heap s.heap [] := va_S.rf
  have hl : lv_has ls 1 [(0, .int v)] := hl
  have kl57 := hts (.constantLong RX6 57 (lN (7))) (by decide +kernel)
  refine lv_iload_n hx hb dX6_isTongue_0 rfl (lv_at hl 0 rfl) ?_
  refine lv_i2l (v := v.toInt64) hx hb dX6_isTongue_1 rfl ?_
  refine lv_lconst (v := lN (0)) hx hb dX6_isTongue_2 (by decide) ?_
  refine lv_ldc2 hx hb hown kl57 dX6_isTongue_3 ?_
  have hPc := hP.sub (ws' := []) [] rfl
  refine r_calli hP hS (va_runS (As := [.long (v.toInt64), .long (lN 0), .long (lN 7)]) (rest := []) ⟨hx, hb, hml, hown, hts⟩ (m_X6_in l D cI cJ (v.toInt64) (lN (0)) (lN (7))) (va_cwS 3 hts gX6_isTongue_X6_in rfl rfl rfl (by decide +kernel) ⟨Nat.le_of_ble_eq_true rfl, Nat.le_of_ble_eq_true rfl⟩) ⟨PR.blind, fun U hU hW => ⟨rfl, hKB.warm hW, by rw [hU]; exact hPc⟩⟩ rfl rfl hl.1 rfl (lv_room (Nat.le_of_ble_eq_true rfl)) dX6_isTongue_6 ⟨Nat.le_of_ble_eq_true rfl, Nat.le_of_ble_eq_true rfl⟩) (fun r1 H locs hw6 hP hS => ?_)
  have hw6 : r1 = bI (inL (v.toInt64) (lN (0)) (lN (7))) := hw6
  subst hw6
  exact r_zret (b := inL (v.toInt64) (lN (0)) (lN (7))) hx hb hr hlk hQ hS rfl (by rw [inL_R (by decide) (by decide)]) dX6_isTongue_9

set_option maxHeartbeats 4000000 in
set_option maxRecDepth 100000 in
theorem m_X6_isMeaning (l : Launch) (D : va_G) (cI cJ : ClassId) (v : Int32) : Met l yX6_isMeaning wsX6_isMeaning ({ frames := 1, cells := 0, slots := 0, locals := 25 }) (PR D cI cJ [] [.int v]) (QRi (fun r => r = bI (inR v 0 2))) 0 0 NA := by
  refine met_R (cc := cX6_isMeaning) (maxL := 1) (ret := (some .boolean)) (by decide) rfl (Nat.le_of_ble_eq_true rfl) ?_
  intro p e s m args below meth c Q ls hQ hAt hKB hP hl
  obtain ⟨hx, hb, hr, hml, hlk, hts, hown, hnm⟩ := hAt
  have hown : s.vm.findClass RX6 = some m.cls := hown
  have hS : va_S NA s.heap s.heap [] := va_S.rf
  have hl : lv_has ls 1 [(0, .int v)] := hl
  have kl51 := hts (.constantLong RX6 51 (lN (2))) (by decide +kernel)
  refine lv_iload_n hx hb dX6_isMeaning_0 rfl (lv_at hl 0 rfl) ?_
  refine lv_i2l (v := v.toInt64) hx hb dX6_isMeaning_1 rfl ?_
  refine lv_lconst (v := lN (0)) hx hb dX6_isMeaning_2 (by decide) ?_
  refine lv_ldc2 hx hb hown kl51 dX6_isMeaning_3 ?_
  have hPc := hP.sub (ws' := []) [] rfl
  refine r_calli hP hS (va_runS (As := [.long (v.toInt64), .long (lN 0), .long (lN 2)]) (rest := []) ⟨hx, hb, hml, hown, hts⟩ (m_X6_in l D cI cJ (v.toInt64) (lN (0)) (lN (2))) (va_cwS 3 hts gX6_isMeaning_X6_in rfl rfl rfl (by decide +kernel) ⟨Nat.le_of_ble_eq_true rfl, Nat.le_of_ble_eq_true rfl⟩) ⟨PR.blind, fun U hU hW => ⟨rfl, hKB.warm hW, by rw [hU]; exact hPc⟩⟩ rfl rfl hl.1 rfl (lv_room (Nat.le_of_ble_eq_true rfl)) dX6_isMeaning_6 ⟨Nat.le_of_ble_eq_true rfl, Nat.le_of_ble_eq_true rfl⟩) (fun r1 H locs hw6 hP hS => ?_)
  have hw6 : r1 = bI (inL (v.toInt64) (lN (0)) (lN (2))) := hw6
  subst hw6
  exact r_zret (b := inL (v.toInt64) (lN (0)) (lN (2))) hx hb hr hlk hQ hS rfl (by rw [inL_R (by decide) (by decide)]) dX6_isMeaning_9

set_option maxHeartbeats 4000000 in
set_option maxRecDepth 100000 in
theorem m_X6_isPart (l : Launch) (D : va_G) (cI cJ : ClassId) (v : Int32) : Met l yX6_isPart wsX6_isPart ({ frames := 1, cells := 0, slots := 0, locals := 25 }) (PR D cI cJ [] [.int v]) (QRi (fun r => r = bI (inR v 0 1))) 0 0 NA := by
  refine met_R (cc := cX6_isPart) (maxL := 1) (ret := (some .boolean)) (by decide) rfl (Nat.le_of_ble_eq_true rfl) ?_
  intro p e s m args below meth c Q ls hQ hAt hKB hP hl
  obtain ⟨hx, hb, hr, hml, hlk, hts, hown, hnm⟩ := hAt
  have hown : s.vm.findClass RX6 = some m.cls := hown
  have hS : va_S NA s.heap s.heap [] := va_S.rf
  have hl : lv_has ls 1 [(0, .int v)] := hl
  refine lv_iload_n hx hb dX6_isPart_0 rfl (lv_at hl 0 rfl) ?_
  refine lv_i2l (v := v.toInt64) hx hb dX6_isPart_1 rfl ?_
  refine lv_lconst (v := lN (0)) hx hb dX6_isPart_2 (by decide) ?_
  refine lv_lconst (v := lN (1)) hx hb dX6_isPart_3 (by decide) ?_
  have hPc := hP.sub (ws' := []) [] rfl
  refine r_calli hP hS (va_runS (As := [.long (v.toInt64), .long (lN 0), .long (lN 1)]) (rest := []) ⟨hx, hb, hml, hown, hts⟩ (m_X6_in l D cI cJ (v.toInt64) (lN (0)) (lN (1))) (va_cwS 3 hts gX6_isPart_X6_in rfl rfl rfl (by decide +kernel) ⟨Nat.le_of_ble_eq_true rfl, Nat.le_of_ble_eq_true rfl⟩) ⟨PR.blind, fun U hU hW => ⟨rfl, hKB.warm hW, by rw [hU]; exact hPc⟩⟩ rfl rfl hl.1 rfl (lv_room (Nat.le_of_ble_eq_true rfl)) dX6_isPart_4 ⟨Nat.le_of_ble_eq_true rfl, Nat.le_of_ble_eq_true rfl⟩) (fun r1 H locs hw4 hP hS => ?_)
  have hw4 : r1 = bI (inL (v.toInt64) (lN (0)) (lN (1))) := hw4
  subst hw4
  exact r_zret (b := inL (v.toInt64) (lN (0)) (lN (1))) hx hb hr hlk hQ hS rfl (by rw [inL_R (by decide) (by decide)]) dX6_isPart_7

set_option maxHeartbeats 4000000 in
set_option maxRecDepth 100000 in
theorem m_X6_isLives (l : Launch) (D : va_G) (cI cJ : ClassId) (v : Int32) : Met l yX6_isLives wsX6_isLives ({ frames := 1, cells := 0, slots := 0, locals := 25 }) (PR D cI cJ [] [.int v]) (QRi (fun r => r = bI (inR v 1 4))) 0 0 NA := by
  refine met_R (cc := cX6_isLives) (maxL := 1) (ret := (some .boolean)) (by decide) rfl (Nat.le_of_ble_eq_true rfl) ?_
  intro p e s m args below meth c Q ls hQ hAt hKB hP hl
  obtain ⟨hx, hb, hr, hml, hlk, hts, hown, hnm⟩ := hAt
  have hown : s.vm.findClass RX6 = some m.cls := hown
  have hS : va_S NA s.heap s.heap [] := va_S.rf
  have hl : lv_has ls 1 [(0, .int v)] := hl
  have kl63 := hts (.constantLong RX6 63 (lN (4))) (by decide +kernel)
  refine lv_iload_n hx hb dX6_isLives_0 rfl (lv_at hl 0 rfl) ?_
  refine lv_i2l (v := v.toInt64) hx hb dX6_isLives_1 rfl ?_
  refine lv_lconst (v := lN (1)) hx hb dX6_isLives_2 (by decide) ?_
  refine lv_ldc2 hx hb hown kl63 dX6_isLives_3 ?_
  have hPc := hP.sub (ws' := []) [] rfl
  refine r_calli hP hS (va_runS (As := [.long (v.toInt64), .long (lN 1), .long (lN 4)]) (rest := []) ⟨hx, hb, hml, hown, hts⟩ (m_X6_in l D cI cJ (v.toInt64) (lN (1)) (lN (4))) (va_cwS 3 hts gX6_isLives_X6_in rfl rfl rfl (by decide +kernel) ⟨Nat.le_of_ble_eq_true rfl, Nat.le_of_ble_eq_true rfl⟩) ⟨PR.blind, fun U hU hW => ⟨rfl, hKB.warm hW, by rw [hU]; exact hPc⟩⟩ rfl rfl hl.1 rfl (lv_room (Nat.le_of_ble_eq_true rfl)) dX6_isLives_6 ⟨Nat.le_of_ble_eq_true rfl, Nat.le_of_ble_eq_true rfl⟩) (fun r1 H locs hw6 hP hS => ?_)
  have hw6 : r1 = bI (inL (v.toInt64) (lN (1)) (lN (4))) := hw6
  subst hw6
  exact r_zret (b := inL (v.toInt64) (lN (1)) (lN (4))) hx hb hr hlk hQ hS rfl (by rw [inL_R (by decide) (by decide)]) dX6_isLives_9

set_option maxHeartbeats 4000000 in
set_option maxRecDepth 100000 in
theorem m_X6_ones (l : Launch) (D : va_G) (cI cJ : ClassId) (t : Nat) (ht : t < 2 ^ 31) : Met l yX6_ones wsX6_ones ({ frames := 0, cells := 0, slots := 0, locals := 0 }) (PR D cI cJ [] [.int (nI t)]) (QRi (fun r => r = nI (on t))) 0 0 NA := by
  refine met_R (cc := cX6_ones) (maxL := 1) (ret := (some .int)) (by decide) rfl (Nat.le_of_ble_eq_true rfl) ?_
  intro p e s m args below meth c Q ls hQ hAt hKB hP hl
  obtain ⟨hx, hb, hr, hml, hlk, hts, hown, hnm⟩ := hAt
  have hown : s.vm.findClass RX6 = some m.cls := hown
  have hS : va_S NA s.heap s.heap [] := va_S.rf
  have hl : lv_has ls 1 [(0, .int (nI t))] := hl
  refine lv_iload_n hx hb dX6_ones_0 rfl (lv_at hl 0 rfl) ?_
  refine lv_iconst (v := nI (1)) hx hb dX6_ones_1 (by decide) ?_
  refine r_iand (a := t) (b := 1) hx hb dX6_ones_2  ?_
  refine lv_iload_n hx hb dX6_ones_3 rfl (lv_at hl 0 rfl) ?_
  refine lv_iconst (v := nI (1)) hx hb dX6_ones_4 (by decide) ?_
  refine r_ishr (a := t) (b := 1) hx hb dX6_ones_5 (by omega) (by omega) ?_
  refine lv_iconst (v := nI (1)) hx hb dX6_ones_6 (by decide) ?_
  refine r_iand (a := t >>> 1) (b := 1) hx hb dX6_ones_7  ?_
  refine r_iadd (a := t &&& 1) (b := (t >>> 1) &&& 1) hx hb dX6_ones_8  ?_
  refine lv_iload_n hx hb dX6_ones_9 rfl (lv_at hl 0 rfl) ?_
  refine lv_iconst (v := nI (2)) hx hb dX6_ones_10 (by decide) ?_
  refine r_ishr (a := t) (b := 2) hx hb dX6_ones_11 (by omega) (by omega) ?_
  refine lv_iconst (v := nI (1)) hx hb dX6_ones_12 (by decide) ?_
  refine r_iand (a := t >>> 2) (b := 1) hx hb dX6_ones_13  ?_
  refine r_iadd (a := (t &&& 1) + ((t >>> 1) &&& 1)) (b := (t >>> 2) &&& 1) hx hb dX6_ones_14  ?_
  exact r_iret hx hb hr hlk hQ hS (rfl) dX6_ones_15

set_option maxHeartbeats 4000000 in
set_option maxRecDepth 100000 in
theorem m_X6_hasForm (l : Launch) (D : va_G) (cI cJ : ClassId) (t : Nat) (sy : Nat) (ht : t < 2 ^ 31) (hs : sy < 64) : Met l yX6_hasForm wsX6_hasForm ({ frames := 0, cells := 0, slots := 0, locals := 0 }) (PR D cI cJ [] [.int (nI t), .int (nI sy)]) (QRi (fun r => r = bI (hasF t sy))) 0 0 NA := by
  refine met_R (cc := cX6_hasForm) (maxL := 2) (ret := (some .boolean)) (by decide) rfl (Nat.le_of_ble_eq_true rfl) ?_
  intro p e s m args below meth c Q ls hQ hAt hKB hP hl
  obtain ⟨hx, hb, hr, hml, hlk, hts, hown, hnm⟩ := hAt
  have hown : s.vm.findClass RX6 = some m.cls := hown
  have hS : va_S NA s.heap s.heap [] := va_S.rf
  have hl : lv_has ls 2 [(0, .int (nI t)), (1, .int (nI sy))] := hl
  refine lv_iload_n hx hb dX6_hasForm_0 rfl (lv_at hl 0 rfl) ?_
  refine lv_iload_n hx hb dX6_hasForm_1 rfl (lv_at hl 1 rfl) ?_
  refine lv_iconst (v := nI (2)) hx hb dX6_hasForm_2 (by decide) ?_
  refine r_idiv (a := sy) (b := 2) hx hb dX6_hasForm_3 (by omega) (by omega) (by omega) ?_
  refine r_ishr (a := t) (b := sy / 2) hx hb dX6_hasForm_4 (by omega) (by omega) ?_
  refine lv_iconst (v := nI (1)) hx hb dX6_hasForm_5 (by decide) ?_
  refine r_iand (a := t >>> (sy / 2)) (b := 1) hx hb dX6_hasForm_6  ?_
  refine lv_iload_n hx hb dX6_hasForm_7 rfl (lv_at hl 1 rfl) ?_
  refine lv_iconst (v := nI (2)) hx hb dX6_hasForm_8 (by decide) ?_
  refine r_irem (a := sy) (b := 2) hx hb dX6_hasForm_9 (by omega) (by omega) (by omega) ?_
  refine r_icmp_ne (a := (t >>> (sy / 2)) &&& 1) (b := sy % 2) (tgt := 17) hx hb dX6_hasForm_10 (by decide) (Nat.lt_of_le_of_lt (fo_le t (sy / 2)) (by decide)) (by omega)  (fun c10 => ?_) (fun c10 => ?_)
  · skip
    refine lv_iconst (v := nI (0)) hx hb dX6_hasForm_17 (by decide) ?_
    exact r_zret (b := false) hx hb hr hlk hQ hS rfl (by rw [show hasF t sy = false from decide_eq_false c10]) dX6_hasForm_18
  refine lv_iconst (v := nI (1)) hx hb dX6_hasForm_13 (by decide) ?_
  refine lv_goto (tgt := 18) hx hb dX6_hasForm_14 (by decide) ?_
  exact r_zret (b := true) hx hb hr hlk hQ hS rfl (by rw [show hasF t sy = true from decide_eq_true c10]) dX6_hasForm_18

set_option maxHeartbeats 4000000 in
set_option maxRecDepth 100000 in
theorem m_X6_lowest (l : Launch) (D : va_G) (cI cJ : ClassId) (a : Nat) (b : Nat) (pt : Nat) (ha : a < 2 ^ 63) (hb2 : b < 2 ^ 63) (hpt : pt ≤ 1) : Met l yX6_lowest wsX6_lowest ({ frames := 0, cells := 0, slots := 0, locals := 0 }) (PR D cI cJ [] [.long (lN a), .long (lN b), .int (nI pt)]) (QRl (fun r => r = lN (lwst a b pt))) 0 0 NA := by
  refine met_R (cc := cX6_lowest) (maxL := 11) (ret := (some .long)) (by decide) rfl (Nat.le_of_ble_eq_true rfl) ?_
  intro p e s m args below meth c Q ls hQ hAt hKB hP hl
  obtain ⟨hx, hb, hr, hml, hlk, hts, hown, hnm⟩ := hAt
  have hown : s.vm.findClass RX6 = some m.cls := hown
  have hS : va_S NA s.heap s.heap [] := va_S.rf
  have hl : lv_has ls 11 [(0, .long (lN a)), (2, .long (lN b)), (4, .int (nI pt))] := hl
  refine lv_lload_n hx hb dX6_lowest_0 rfl (lv_at hl 1 rfl) ?_
  refine lv_lconst (v := lN (0)) hx hb dX6_lowest_1 (by decide) ?_
  refine r_lcmp_ne (x := lN (b)) (y := lN (0)) (tgt := 10) hx hb dX6_lowest_2 dX6_lowest_3 (by decide) (fun c2 => ?_) (fun c2 => ?_)
  · skip
    have hb0 : 0 < b := lN_ne c2
    have hgp := gcd_pos (a := a) hb0
    have hgl := gcd_lt (a := a) hb0 hb2
    refine lv_lload_n hx hb dX6_lowest_10 rfl (lv_at hl 0 rfl) ?_
    refine lv_lstore (lv' := [(5, .long (lN a)), (0, .long (lN a)), (2, .long (lN b)), (4, .int (nI pt))]) hx hb dX6_lowest_11 hl (by decide) rfl (fun ls hl => ?_)
    refine lv_lload_n hx hb dX6_lowest_13 rfl (lv_at hl 2 rfl) ?_
    refine lv_lstore (lv' := [(7, .long (lN b)), (5, .long (lN a)), (0, .long (lN a)), (2, .long (lN b)), (4, .int (nI pt))]) hx hb dX6_lowest_14 hl (by decide) rfl (fun ls hl => ?_)
    have L16 : ∀ (n : Nat) (x : Nat) (y : Nat) (H : Heap) (locs : List Loc) (ls : Array Slot), y < n → (x < 2 ^ 63) → (y < 2 ^ 63) → (Nat.gcd x y = Nat.gcd a b) → va_P D vwCl [] H → va_S NA s.heap H locs → lv_has ls 11 [(7, .long (lN y)), (5, .long (lN x)), (0, .long (lN a)), (2, .long (lN b)), (4, .int (nI pt))] → W p l e ({ frames := 0, cells := 0, slots := 0, locals := 0 }) s m args below meth c H locs 0 0 Q (F0 m 16 ls []) := by
      intro n
      induction n with
      | zero => intro x y H locs ls hm; exact absurd hm (Nat.not_lt_zero _)
      | succ n ih16 =>
        intro x y H locs ls hm hxb hyb hg hP hS hl
        refine lv_lload hx hb dX6_lowest_16 (lv_at hl 0 rfl) ?_
        refine lv_lconst (v := lN (0)) hx hb dX6_lowest_18 (by decide) ?_
        refine r_lcmp_eq (x := lN (y)) (y := lN (0)) (tgt := 41) hx hb dX6_lowest_19 dX6_lowest_20 (by decide) (fun c19 => ?_) (fun c19 => ?_)
        · skip
          have hy0 := lN_eq0 hyb c19
          subst hy0
          rw [Nat.gcd_zero_right] at hg
          subst hg
          refine lv_iload hx hb dX6_lowest_41 (lv_at hl 4 rfl) ?_
          refine r_if_ne (a := pt) (tgt := 53) hx hb dX6_lowest_43 (by decide) (by omega) (fun c43 => ?_) (fun c43 => ?_)
          · skip
            refine lv_lload_n hx hb dX6_lowest_53 rfl (lv_at hl 3 rfl) ?_
            refine lv_lload hx hb dX6_lowest_54 (lv_at hl 1 rfl) ?_
            refine r_ldiv (a := b) (b := (Nat.gcd a b)) hx hb dX6_lowest_56 hb2 hgp hgl ?_
            exact r_lret hx hb hr hlk hQ hS (by simp only [lwst]; rw [if_neg (by omega)]; first | rw [if_pos c43] | rw [if_neg c43]) dX6_lowest_57
          refine lv_lload_n hx hb dX6_lowest_46 rfl (lv_at hl 2 rfl) ?_
          refine lv_lload hx hb dX6_lowest_47 (lv_at hl 1 rfl) ?_
          refine r_ldiv (a := a) (b := (Nat.gcd a b)) hx hb dX6_lowest_49 ha hgp hgl ?_
          refine lv_goto (tgt := 57) hx hb dX6_lowest_50 (by decide) ?_
          exact r_lret hx hb hr hlk hQ hS (by simp only [lwst]; rw [if_neg (by omega)]; first | rw [if_pos c43] | rw [if_neg c43]) dX6_lowest_57
        refine lv_lload hx hb dX6_lowest_23 (lv_at hl 1 rfl) ?_
        refine lv_lload hx hb dX6_lowest_25 (lv_at hl 0 rfl) ?_
        refine r_lrem (a := x) (b := y) hx hb dX6_lowest_27 hxb (lN_ne c19) hyb ?_
        refine lv_lstore (lv' := [(9, .long (lN (x % y))), (7, .long (lN y)), (5, .long (lN x)), (0, .long (lN a)), (2, .long (lN b)), (4, .int (nI pt))]) hx hb dX6_lowest_28 hl (by decide) rfl (fun ls hl => ?_)
        refine lv_lload hx hb dX6_lowest_30 (lv_at hl 1 rfl) ?_
        refine lv_lstore (lv' := [(5, .long (lN y)), (9, .long (lN (x % y))), (7, .long (lN y)), (0, .long (lN a)), (2, .long (lN b)), (4, .int (nI pt))]) hx hb dX6_lowest_32 hl (by decide) rfl (fun ls hl => ?_)
        refine lv_lload hx hb dX6_lowest_34 (lv_at hl 1 rfl) ?_
        refine lv_lstore (lv' := [(7, .long (lN (x % y))), (5, .long (lN y)), (9, .long (lN (x % y))), (0, .long (lN a)), (2, .long (lN b)), (4, .int (nI pt))]) hx hb dX6_lowest_36 hl (by decide) rfl (fun ls hl => ?_)
        refine lv_goto (tgt := 16) hx hb dX6_lowest_38 (by decide) ?_
        exact ih16 y (x % y) _ _ _ (Nat.lt_of_lt_of_le (Nat.mod_lt _ (lN_ne c19)) (Nat.le_of_lt_succ hm)) (hyb) (Nat.lt_trans (Nat.mod_lt _ (lN_ne c19)) hyb) ((eu_gcd x y).trans hg) hP hS (lv_sub hl [0, 1, 3, 4, 5] rfl)
    exact L16 (b + 1) a b _ _ _ (Nat.lt_succ_self _) (ha) (hb2) (rfl) hP hS hl
  refine lv_iload hx hb dX6_lowest_6 (lv_at hl 2 rfl) ?_
  refine r_i2l (a := pt) hx hb dX6_lowest_8 (by omega) ?_
  exact r_lret hx hb hr hlk hQ hS (by have h0 := lN_eq0 hb2 c2; subst h0; rw [lwst_b0]) dX6_lowest_9

set_option maxHeartbeats 4000000 in
set_option maxRecDepth 100000 in
theorem m_J6_bitCount_0f7a4 (l : Launch) (D : va_G) (cI cJ : ClassId) (t : Nat) (ht : t < 8) : Met l yJ6_bitCount_0f7a4 wsJ6_bitCount_0f7a4 ({ frames := 0, cells := 0, slots := 0, locals := 0 }) (PR D cI cJ [] [.int (nI t)]) (QRi (fun r => r = nI (on t))) 0 0 NA := by
  refine met_R (cc := cJ6_bitCount_0f7a4) (maxL := 1) (ret := (some .int)) (by decide) rfl (Nat.le_of_ble_eq_true rfl) ?_
  intro p e s m args below meth c Q ls hQ hAt hKB hP hl
  obtain ⟨hx, hb, hr, hml, hlk, hts, hown, hnm⟩ := hAt
  have hown : s.vm.findClass RJ6 = some m.cls := hown
  have hS : va_S NA s.heap s.heap [] := va_S.rf
  have hl : lv_has ls 1 [(0, .int (nI t))] := hl
  have kc265 := hts (.constant RJ6 265 (nI (1431655765))) (by decide +kernel)
  have kc266 := hts (.constant RJ6 266 (nI (858993459))) (by decide +kernel)
  have kc267 := hts (.constant RJ6 267 (nI (252645135))) (by decide +kernel)
  refine lv_iload_n hx hb dJ6_bitCount_0f7a4_0 rfl (lv_at hl 0 rfl) ?_
  refine lv_iload_n hx hb dJ6_bitCount_0f7a4_1 rfl (lv_at hl 0 rfl) ?_
  refine lv_iconst (v := nI (1)) hx hb dJ6_bitCount_0f7a4_2 (by decide) ?_
  refine lv_iushr (v := ((nI (t)).toUInt32 >>> ((nI (1)).toUInt32 &&& Int32.toUInt32 31)).toInt32) hx hb dJ6_bitCount_0f7a4_3 rfl ?_
  refine lv_ldcw hx hb hown kc265 dJ6_bitCount_0f7a4_4 ?_
  refine lv_iand hx hb dJ6_bitCount_0f7a4_7  ?_
  refine lv_isub hx hb dJ6_bitCount_0f7a4_8  ?_
  refine lv_istore_n (lv' := [(0, .int ((nI (t)) - ((((nI (t)).toUInt32 >>> ((nI (1)).toUInt32 &&& Int32.toUInt32 31)).toInt32) &&& (nI (1431655765)))))]) hx hb dJ6_bitCount_0f7a4_9 rfl hl (by decide) rfl (fun ls hl => ?_)
  refine lv_iload_n hx hb dJ6_bitCount_0f7a4_10 rfl (lv_at hl 0 rfl) ?_
  refine lv_ldcw hx hb hown kc266 dJ6_bitCount_0f7a4_11 ?_
  refine lv_iand hx hb dJ6_bitCount_0f7a4_14  ?_
  refine lv_iload_n hx hb dJ6_bitCount_0f7a4_15 rfl (lv_at hl 0 rfl) ?_
  refine lv_iconst (v := nI (2)) hx hb dJ6_bitCount_0f7a4_16 (by decide) ?_
  refine lv_iushr (v := (((nI (t)) - ((((nI (t)).toUInt32 >>> ((nI (1)).toUInt32 &&& Int32.toUInt32 31)).toInt32) &&& (nI (1431655765)))).toUInt32 >>> ((nI (2)).toUInt32 &&& Int32.toUInt32 31)).toInt32) hx hb dJ6_bitCount_0f7a4_17 rfl ?_
  refine lv_ldcw hx hb hown kc266 dJ6_bitCount_0f7a4_18 ?_
  refine lv_iand hx hb dJ6_bitCount_0f7a4_21  ?_
  refine lv_iadd hx hb dJ6_bitCount_0f7a4_22  ?_
  refine lv_istore_n (lv' := [(0, .int ((((nI (t)) - ((((nI (t)).toUInt32 >>> ((nI (1)).toUInt32 &&& Int32.toUInt32 31)).toInt32) &&& (nI (1431655765)))) &&& (nI (858993459))) + (((((nI (t)) - ((((nI (t)).toUInt32 >>> ((nI (1)).toUInt32 &&& Int32.toUInt32 31)).toInt32) &&& (nI (1431655765)))).toUInt32 >>> ((nI (2)).toUInt32 &&& Int32.toUInt32 31)).toInt32) &&& (nI (858993459)))))]) hx hb dJ6_bitCount_0f7a4_23 rfl hl (by decide) rfl (fun ls hl => ?_)
  refine lv_iload_n hx hb dJ6_bitCount_0f7a4_24 rfl (lv_at hl 0 rfl) ?_
  refine lv_iload_n hx hb dJ6_bitCount_0f7a4_25 rfl (lv_at hl 0 rfl) ?_
  refine lv_iconst (v := nI (4)) hx hb dJ6_bitCount_0f7a4_26 (by decide) ?_
  refine lv_iushr (v := (((((nI (t)) - ((((nI (t)).toUInt32 >>> ((nI (1)).toUInt32 &&& Int32.toUInt32 31)).toInt32) &&& (nI (1431655765)))) &&& (nI (858993459))) + (((((nI (t)) - ((((nI (t)).toUInt32 >>> ((nI (1)).toUInt32 &&& Int32.toUInt32 31)).toInt32) &&& (nI (1431655765)))).toUInt32 >>> ((nI (2)).toUInt32 &&& Int32.toUInt32 31)).toInt32) &&& (nI (858993459)))).toUInt32 >>> ((nI (4)).toUInt32 &&& Int32.toUInt32 31)).toInt32) hx hb dJ6_bitCount_0f7a4_27 rfl ?_
  refine lv_iadd hx hb dJ6_bitCount_0f7a4_28  ?_
  refine lv_ldcw hx hb hown kc267 dJ6_bitCount_0f7a4_29 ?_
  refine lv_iand hx hb dJ6_bitCount_0f7a4_32  ?_
  refine lv_istore_n (lv' := [(0, .int ((((((nI (t)) - ((((nI (t)).toUInt32 >>> ((nI (1)).toUInt32 &&& Int32.toUInt32 31)).toInt32) &&& (nI (1431655765)))) &&& (nI (858993459))) + (((((nI (t)) - ((((nI (t)).toUInt32 >>> ((nI (1)).toUInt32 &&& Int32.toUInt32 31)).toInt32) &&& (nI (1431655765)))).toUInt32 >>> ((nI (2)).toUInt32 &&& Int32.toUInt32 31)).toInt32) &&& (nI (858993459)))) + ((((((nI (t)) - ((((nI (t)).toUInt32 >>> ((nI (1)).toUInt32 &&& Int32.toUInt32 31)).toInt32) &&& (nI (1431655765)))) &&& (nI (858993459))) + (((((nI (t)) - ((((nI (t)).toUInt32 >>> ((nI (1)).toUInt32 &&& Int32.toUInt32 31)).toInt32) &&& (nI (1431655765)))).toUInt32 >>> ((nI (2)).toUInt32 &&& Int32.toUInt32 31)).toInt32) &&& (nI (858993459)))).toUInt32 >>> ((nI (4)).toUInt32 &&& Int32.toUInt32 31)).toInt32)) &&& (nI (252645135))))]) hx hb dJ6_bitCount_0f7a4_33 rfl hl (by decide) rfl (fun ls hl => ?_)
  refine lv_iload_n hx hb dJ6_bitCount_0f7a4_34 rfl (lv_at hl 0 rfl) ?_
  refine lv_iload_n hx hb dJ6_bitCount_0f7a4_35 rfl (lv_at hl 0 rfl) ?_
  refine lv_bipush (v := nI (8)) hx hb dJ6_bitCount_0f7a4_36 (by decide) ?_
  refine lv_iushr (v := (((((((nI (t)) - ((((nI (t)).toUInt32 >>> ((nI (1)).toUInt32 &&& Int32.toUInt32 31)).toInt32) &&& (nI (1431655765)))) &&& (nI (858993459))) + (((((nI (t)) - ((((nI (t)).toUInt32 >>> ((nI (1)).toUInt32 &&& Int32.toUInt32 31)).toInt32) &&& (nI (1431655765)))).toUInt32 >>> ((nI (2)).toUInt32 &&& Int32.toUInt32 31)).toInt32) &&& (nI (858993459)))) + ((((((nI (t)) - ((((nI (t)).toUInt32 >>> ((nI (1)).toUInt32 &&& Int32.toUInt32 31)).toInt32) &&& (nI (1431655765)))) &&& (nI (858993459))) + (((((nI (t)) - ((((nI (t)).toUInt32 >>> ((nI (1)).toUInt32 &&& Int32.toUInt32 31)).toInt32) &&& (nI (1431655765)))).toUInt32 >>> ((nI (2)).toUInt32 &&& Int32.toUInt32 31)).toInt32) &&& (nI (858993459)))).toUInt32 >>> ((nI (4)).toUInt32 &&& Int32.toUInt32 31)).toInt32)) &&& (nI (252645135))).toUInt32 >>> ((nI (8)).toUInt32 &&& Int32.toUInt32 31)).toInt32) hx hb dJ6_bitCount_0f7a4_38 rfl ?_
  refine lv_iadd hx hb dJ6_bitCount_0f7a4_39  ?_
  refine lv_istore_n (lv' := [(0, .int (((((((nI (t)) - ((((nI (t)).toUInt32 >>> ((nI (1)).toUInt32 &&& Int32.toUInt32 31)).toInt32) &&& (nI (1431655765)))) &&& (nI (858993459))) + (((((nI (t)) - ((((nI (t)).toUInt32 >>> ((nI (1)).toUInt32 &&& Int32.toUInt32 31)).toInt32) &&& (nI (1431655765)))).toUInt32 >>> ((nI (2)).toUInt32 &&& Int32.toUInt32 31)).toInt32) &&& (nI (858993459)))) + ((((((nI (t)) - ((((nI (t)).toUInt32 >>> ((nI (1)).toUInt32 &&& Int32.toUInt32 31)).toInt32) &&& (nI (1431655765)))) &&& (nI (858993459))) + (((((nI (t)) - ((((nI (t)).toUInt32 >>> ((nI (1)).toUInt32 &&& Int32.toUInt32 31)).toInt32) &&& (nI (1431655765)))).toUInt32 >>> ((nI (2)).toUInt32 &&& Int32.toUInt32 31)).toInt32) &&& (nI (858993459)))).toUInt32 >>> ((nI (4)).toUInt32 &&& Int32.toUInt32 31)).toInt32)) &&& (nI (252645135))) + ((((((((nI (t)) - ((((nI (t)).toUInt32 >>> ((nI (1)).toUInt32 &&& Int32.toUInt32 31)).toInt32) &&& (nI (1431655765)))) &&& (nI (858993459))) + (((((nI (t)) - ((((nI (t)).toUInt32 >>> ((nI (1)).toUInt32 &&& Int32.toUInt32 31)).toInt32) &&& (nI (1431655765)))).toUInt32 >>> ((nI (2)).toUInt32 &&& Int32.toUInt32 31)).toInt32) &&& (nI (858993459)))) + ((((((nI (t)) - ((((nI (t)).toUInt32 >>> ((nI (1)).toUInt32 &&& Int32.toUInt32 31)).toInt32) &&& (nI (1431655765)))) &&& (nI (858993459))) + (((((nI (t)) - ((((nI (t)).toUInt32 >>> ((nI (1)).toUInt32 &&& Int32.toUInt32 31)).toInt32) &&& (nI (1431655765)))).toUInt32 >>> ((nI (2)).toUInt32 &&& Int32.toUInt32 31)).toInt32) &&& (nI (858993459)))).toUInt32 >>> ((nI (4)).toUInt32 &&& Int32.toUInt32 31)).toInt32)) &&& (nI (252645135))).toUInt32 >>> ((nI (8)).toUInt32 &&& Int32.toUInt32 31)).toInt32)))]) hx hb dJ6_bitCount_0f7a4_40 rfl hl (by decide) rfl (fun ls hl => ?_)
  refine lv_iload_n hx hb dJ6_bitCount_0f7a4_41 rfl (lv_at hl 0 rfl) ?_
  refine lv_iload_n hx hb dJ6_bitCount_0f7a4_42 rfl (lv_at hl 0 rfl) ?_
  refine lv_bipush (v := nI (16)) hx hb dJ6_bitCount_0f7a4_43 (by decide) ?_
  refine lv_iushr (v := ((((((((nI (t)) - ((((nI (t)).toUInt32 >>> ((nI (1)).toUInt32 &&& Int32.toUInt32 31)).toInt32) &&& (nI (1431655765)))) &&& (nI (858993459))) + (((((nI (t)) - ((((nI (t)).toUInt32 >>> ((nI (1)).toUInt32 &&& Int32.toUInt32 31)).toInt32) &&& (nI (1431655765)))).toUInt32 >>> ((nI (2)).toUInt32 &&& Int32.toUInt32 31)).toInt32) &&& (nI (858993459)))) + ((((((nI (t)) - ((((nI (t)).toUInt32 >>> ((nI (1)).toUInt32 &&& Int32.toUInt32 31)).toInt32) &&& (nI (1431655765)))) &&& (nI (858993459))) + (((((nI (t)) - ((((nI (t)).toUInt32 >>> ((nI (1)).toUInt32 &&& Int32.toUInt32 31)).toInt32) &&& (nI (1431655765)))).toUInt32 >>> ((nI (2)).toUInt32 &&& Int32.toUInt32 31)).toInt32) &&& (nI (858993459)))).toUInt32 >>> ((nI (4)).toUInt32 &&& Int32.toUInt32 31)).toInt32)) &&& (nI (252645135))) + ((((((((nI (t)) - ((((nI (t)).toUInt32 >>> ((nI (1)).toUInt32 &&& Int32.toUInt32 31)).toInt32) &&& (nI (1431655765)))) &&& (nI (858993459))) + (((((nI (t)) - ((((nI (t)).toUInt32 >>> ((nI (1)).toUInt32 &&& Int32.toUInt32 31)).toInt32) &&& (nI (1431655765)))).toUInt32 >>> ((nI (2)).toUInt32 &&& Int32.toUInt32 31)).toInt32) &&& (nI (858993459)))) + ((((((nI (t)) - ((((nI (t)).toUInt32 >>> ((nI (1)).toUInt32 &&& Int32.toUInt32 31)).toInt32) &&& (nI (1431655765)))) &&& (nI (858993459))) + (((((nI (t)) - ((((nI (t)).toUInt32 >>> ((nI (1)).toUInt32 &&& Int32.toUInt32 31)).toInt32) &&& (nI (1431655765)))).toUInt32 >>> ((nI (2)).toUInt32 &&& Int32.toUInt32 31)).toInt32) &&& (nI (858993459)))).toUInt32 >>> ((nI (4)).toUInt32 &&& Int32.toUInt32 31)).toInt32)) &&& (nI (252645135))).toUInt32 >>> ((nI (8)).toUInt32 &&& Int32.toUInt32 31)).toInt32)).toUInt32 >>> ((nI (16)).toUInt32 &&& Int32.toUInt32 31)).toInt32) hx hb dJ6_bitCount_0f7a4_45 rfl ?_
  refine lv_iadd hx hb dJ6_bitCount_0f7a4_46  ?_
  refine lv_istore_n (lv' := [(0, .int ((((((((nI (t)) - ((((nI (t)).toUInt32 >>> ((nI (1)).toUInt32 &&& Int32.toUInt32 31)).toInt32) &&& (nI (1431655765)))) &&& (nI (858993459))) + (((((nI (t)) - ((((nI (t)).toUInt32 >>> ((nI (1)).toUInt32 &&& Int32.toUInt32 31)).toInt32) &&& (nI (1431655765)))).toUInt32 >>> ((nI (2)).toUInt32 &&& Int32.toUInt32 31)).toInt32) &&& (nI (858993459)))) + ((((((nI (t)) - ((((nI (t)).toUInt32 >>> ((nI (1)).toUInt32 &&& Int32.toUInt32 31)).toInt32) &&& (nI (1431655765)))) &&& (nI (858993459))) + (((((nI (t)) - ((((nI (t)).toUInt32 >>> ((nI (1)).toUInt32 &&& Int32.toUInt32 31)).toInt32) &&& (nI (1431655765)))).toUInt32 >>> ((nI (2)).toUInt32 &&& Int32.toUInt32 31)).toInt32) &&& (nI (858993459)))).toUInt32 >>> ((nI (4)).toUInt32 &&& Int32.toUInt32 31)).toInt32)) &&& (nI (252645135))) + ((((((((nI (t)) - ((((nI (t)).toUInt32 >>> ((nI (1)).toUInt32 &&& Int32.toUInt32 31)).toInt32) &&& (nI (1431655765)))) &&& (nI (858993459))) + (((((nI (t)) - ((((nI (t)).toUInt32 >>> ((nI (1)).toUInt32 &&& Int32.toUInt32 31)).toInt32) &&& (nI (1431655765)))).toUInt32 >>> ((nI (2)).toUInt32 &&& Int32.toUInt32 31)).toInt32) &&& (nI (858993459)))) + ((((((nI (t)) - ((((nI (t)).toUInt32 >>> ((nI (1)).toUInt32 &&& Int32.toUInt32 31)).toInt32) &&& (nI (1431655765)))) &&& (nI (858993459))) + (((((nI (t)) - ((((nI (t)).toUInt32 >>> ((nI (1)).toUInt32 &&& Int32.toUInt32 31)).toInt32) &&& (nI (1431655765)))).toUInt32 >>> ((nI (2)).toUInt32 &&& Int32.toUInt32 31)).toInt32) &&& (nI (858993459)))).toUInt32 >>> ((nI (4)).toUInt32 &&& Int32.toUInt32 31)).toInt32)) &&& (nI (252645135))).toUInt32 >>> ((nI (8)).toUInt32 &&& Int32.toUInt32 31)).toInt32)) + (((((((((nI (t)) - ((((nI (t)).toUInt32 >>> ((nI (1)).toUInt32 &&& Int32.toUInt32 31)).toInt32) &&& (nI (1431655765)))) &&& (nI (858993459))) + (((((nI (t)) - ((((nI (t)).toUInt32 >>> ((nI (1)).toUInt32 &&& Int32.toUInt32 31)).toInt32) &&& (nI (1431655765)))).toUInt32 >>> ((nI (2)).toUInt32 &&& Int32.toUInt32 31)).toInt32) &&& (nI (858993459)))) + ((((((nI (t)) - ((((nI (t)).toUInt32 >>> ((nI (1)).toUInt32 &&& Int32.toUInt32 31)).toInt32) &&& (nI (1431655765)))) &&& (nI (858993459))) + (((((nI (t)) - ((((nI (t)).toUInt32 >>> ((nI (1)).toUInt32 &&& Int32.toUInt32 31)).toInt32) &&& (nI (1431655765)))).toUInt32 >>> ((nI (2)).toUInt32 &&& Int32.toUInt32 31)).toInt32) &&& (nI (858993459)))).toUInt32 >>> ((nI (4)).toUInt32 &&& Int32.toUInt32 31)).toInt32)) &&& (nI (252645135))) + ((((((((nI (t)) - ((((nI (t)).toUInt32 >>> ((nI (1)).toUInt32 &&& Int32.toUInt32 31)).toInt32) &&& (nI (1431655765)))) &&& (nI (858993459))) + (((((nI (t)) - ((((nI (t)).toUInt32 >>> ((nI (1)).toUInt32 &&& Int32.toUInt32 31)).toInt32) &&& (nI (1431655765)))).toUInt32 >>> ((nI (2)).toUInt32 &&& Int32.toUInt32 31)).toInt32) &&& (nI (858993459)))) + ((((((nI (t)) - ((((nI (t)).toUInt32 >>> ((nI (1)).toUInt32 &&& Int32.toUInt32 31)).toInt32) &&& (nI (1431655765)))) &&& (nI (858993459))) + (((((nI (t)) - ((((nI (t)).toUInt32 >>> ((nI (1)).toUInt32 &&& Int32.toUInt32 31)).toInt32) &&& (nI (1431655765)))).toUInt32 >>> ((nI (2)).toUInt32 &&& Int32.toUInt32 31)).toInt32) &&& (nI (858993459)))).toUInt32 >>> ((nI (4)).toUInt32 &&& Int32.toUInt32 31)).toInt32)) &&& (nI (252645135))).toUInt32 >>> ((nI (8)).toUInt32 &&& Int32.toUInt32 31)).toInt32)).toUInt32 >>> ((nI (16)).toUInt32 &&& Int32.toUInt32 31)).toInt32)))]) hx hb dJ6_bitCount_0f7a4_47 rfl hl (by decide) rfl (fun ls hl => ?_)
  refine lv_iload_n hx hb dJ6_bitCount_0f7a4_48 rfl (lv_at hl 0 rfl) ?_
  refine lv_bipush (v := nI (63)) hx hb dJ6_bitCount_0f7a4_49 (by decide) ?_
  refine lv_iand hx hb dJ6_bitCount_0f7a4_51  ?_
  exact r_iret hx hb hr hlk hQ hS (by rcases (show t = 0 ∨ t = 1 ∨ t = 2 ∨ t = 3 ∨ t = 4 ∨ t = 5 ∨ t = 6 ∨ t = 7 by omega) with rfl | rfl | rfl | rfl | rfl | rfl | rfl | rfl <;> decide +kernel) dJ6_bitCount_0f7a4_52

set_option maxHeartbeats 4000000 in
set_option maxRecDepth 100000 in
theorem m_J7_fill_53178 (l : Launch) (D : va_G) (cI cJ : ClassId) (sz : Nat) (q : Nat) (N : Nat) (f : Nat → Int32) (x : Int32) (hN : N < 2 ^ 31) : Met l yJ7_fill_53178 wsJ7_fill_53178 ({ frames := 0, cells := 0, slots := 0, locals := 0 }) (PX D cI cJ [(q, .inl (cI, N, .inl f))] sz [.ref q, .int x]) (QWv D (S := Unit) [(q, .inl (cI, N, .inl f))] sz (fun _ => True) (fun _ => [(q, .inl (cI, N, .inl (fillN f x N)))])) 0 0 (va_A [(q, .inl (cI, N, .inl f))] sz) := by
  refine met_X (cc := cJ7_fill_53178) (maxL := 4) (ret := none) (by decide) rfl (Nat.le_of_ble_eq_true rfl) ?_
  intro p e s m args below meth c Q ls A hQ hAe hAt hKB hP hD hA hl
  obtain ⟨hx, hb, hr, hml, hlk, hts, hown, hnm⟩ := hAt
  have hown : s.vm.findClass RJ7 = some m.cls := hown
  have hS : va_S A s.heap s.heap [] := va_S.rf
  have hl : lv_has ls 4 [(0, .ref q), (1, .int x)] := hl
  refine lv_iconst (v := nI (0)) hx hb dJ7_fill_53178_0 (by decide) ?_
  refine lv_istore_n (lv' := [(2, .int (nI 0)), (0, .ref q), (1, .int x)]) hx hb dJ7_fill_53178_1 rfl hl (by decide) rfl (fun ls hl => ?_)
  refine lv_aload_n hx hb dJ7_fill_53178_2 rfl (lv_at hl 1 rfl) ?_
  refine va_alen hx hb hKB.1 hP 0 0 rfl rfl (v := nI (N)) rfl dJ7_fill_53178_3 ?_
  refine lv_istore_n (lv' := [(3, .int (nI N)), (2, .int (nI 0)), (0, .ref q), (1, .int x)]) hx hb dJ7_fill_53178_4 rfl hl (by decide) rfl (fun ls hl => ?_)
  have hw1 : f = fillN f x 0 := (fillN_0 f x).symm
  rw [hw1] at hP hD
  have L5 : ∀ (n : Nat) (k : Nat) (H : Heap) (locs : List Loc) (ls : Array Slot), N - k < n → (k ≤ N) → va_P D vwCl [(q, .inl (cI, N, .inl (fillN f x k)))] H → va_D A [(q, .inl (cI, N, .inl (fillN f x k)))] → va_S A s.heap H locs → lv_has ls 4 [(3, .int (nI N)), (2, .int (nI k)), (0, .ref q), (1, .int x)] → W p l e ({ frames := 0, cells := 0, slots := 0, locals := 0 }) s m args below meth c H locs 0 0 Q (F0 m 5 ls []) := by
    intro n
    induction n with
    | zero => intro k H locs ls hm; exact absurd hm (Nat.not_lt_zero _)
    | succ n ih5 =>
      intro k H locs ls hm hk hP hD hS hl
      refine lv_iload_n hx hb dJ7_fill_53178_5 rfl (lv_at hl 1 rfl) ?_
      refine lv_iload_n hx hb dJ7_fill_53178_6 rfl (lv_at hl 0 rfl) ?_
      refine r_icmp_ge (a := k) (b := N) (tgt := 20) hx hb dJ7_fill_53178_7 (by decide) (by omega) (by omega)  (fun c7 => ?_) (fun c7 => ?_)
      · skip
        obtain rfl : k = N := by omega
        exact w_vret hx hb hr hlk hQ hAe () hP hD hS (trivial) dJ7_fill_53178_20
      refine lv_aload_n hx hb dJ7_fill_53178_10 rfl (lv_at hl 2 rfl) ?_
      refine lv_iload_n hx hb dJ7_fill_53178_11 rfl (lv_at hl 1 rfl) ?_
      refine lv_iload_n hx hb dJ7_fill_53178_12 rfl (lv_at hl 3 rfl) ?_
      refine r_iast (i := k) hx hb hKB.1 hP hD hS 0 0 rfl rfl (by omega) (by omega) dJ7_fill_53178_13 (fun H locs hP hD hS => ?_)
      have hP : va_P D vwCl [(q, .inl (cI, N, .inl (upd (fillN f x k) k x)))] _ := hP
      have hD : va_D A [(q, .inl (cI, N, .inl (upd (fillN f x k) k x)))] := hD
      have hw2 : upd (fillN f x k) k x = fillN f x (k + 1) := fillN_s f x k
      rw [hw2] at hP hD
      refine lv_iinc (v := nI (k + 1)) (lv' := [(2, .int (nI (k + 1))), (3, .int (nI N)), (0, .ref q), (1, .int x)]) hx hb dJ7_fill_53178_14 hl (k := 1) rfl (n_inc _ 1) (by decide) rfl (fun ls hl => ?_)
      refine lv_goto (tgt := 5) hx hb dJ7_fill_53178_17 (by decide) ?_
      exact ih5 (k + 1) _ _ _ (by omega) (by omega) hP hD hS (lv_sub hl [1, 0, 2, 3] rfl)
  exact L5 (N - 0 + 1) 0 _ _ _ (Nat.lt_succ_self _) (by omega) hP hD hS hl

set_option maxHeartbeats 4000000 in
set_option maxRecDepth 100000 in
theorem m_J7_fill_d0a16 (l : Launch) (D : va_G) (cI cJ : ClassId) (sz : Nat) (q : Nat) (N : Nat) (f : Nat → Int64) (x : Int64) (hN : N < 2 ^ 31) : Met l yJ7_fill_d0a16 wsJ7_fill_d0a16 ({ frames := 0, cells := 0, slots := 0, locals := 0 }) (PX D cI cJ [(q, .inl (cJ, N, .inr (.inl f)))] sz [.ref q, .long x]) (QWv D (S := Unit) [(q, .inl (cJ, N, .inr (.inl f)))] sz (fun _ => True) (fun _ => [(q, .inl (cJ, N, .inr (.inl (fillL f x N))))])) 0 0 (va_A [(q, .inl (cJ, N, .inr (.inl f)))] sz) := by
  refine met_X (cc := cJ7_fill_d0a16) (maxL := 5) (ret := none) (by decide) rfl (Nat.le_of_ble_eq_true rfl) ?_
  intro p e s m args below meth c Q ls A hQ hAe hAt hKB hP hD hA hl
  obtain ⟨hx, hb, hr, hml, hlk, hts, hown, hnm⟩ := hAt
  have hown : s.vm.findClass RJ7 = some m.cls := hown
  have hS : va_S A s.heap s.heap [] := va_S.rf
  have hl : lv_has ls 5 [(0, .ref q), (1, .long x)] := hl
  refine lv_iconst (v := nI (0)) hx hb dJ7_fill_d0a16_0 (by decide) ?_
  refine lv_istore_n (lv' := [(3, .int (nI 0)), (0, .ref q), (1, .long x)]) hx hb dJ7_fill_d0a16_1 rfl hl (by decide) rfl (fun ls hl => ?_)
  refine lv_aload_n hx hb dJ7_fill_d0a16_2 rfl (lv_at hl 1 rfl) ?_
  refine va_alen hx hb hKB.1 hP 0 1 rfl rfl (v := nI (N)) rfl dJ7_fill_d0a16_3 ?_
  refine lv_istore (lv' := [(4, .int (nI N)), (3, .int (nI 0)), (0, .ref q), (1, .long x)]) hx hb dJ7_fill_d0a16_4 hl (by decide) rfl (fun ls hl => ?_)
  have hw1 : f = fillL f x 0 := (fillL_0 f x).symm
  rw [hw1] at hP hD
  have L6 : ∀ (n : Nat) (k : Nat) (H : Heap) (locs : List Loc) (ls : Array Slot), N - k < n → (k ≤ N) → va_P D vwCl [(q, .inl (cJ, N, .inr (.inl (fillL f x k))))] H → va_D A [(q, .inl (cJ, N, .inr (.inl (fillL f x k))))] → va_S A s.heap H locs → lv_has ls 5 [(4, .int (nI N)), (3, .int (nI k)), (0, .ref q), (1, .long x)] → W p l e ({ frames := 0, cells := 0, slots := 0, locals := 0 }) s m args below meth c H locs 0 0 Q (F0 m 6 ls []) := by
    intro n
    induction n with
    | zero => intro k H locs ls hm; exact absurd hm (Nat.not_lt_zero _)
    | succ n ih6 =>
      intro k H locs ls hm hk hP hD hS hl
      refine lv_iload_n hx hb dJ7_fill_d0a16_6 rfl (lv_at hl 1 rfl) ?_
      refine lv_iload hx hb dJ7_fill_d0a16_7 (lv_at hl 0 rfl) ?_
      refine r_icmp_ge (a := k) (b := N) (tgt := 22) hx hb dJ7_fill_d0a16_9 (by decide) (by omega) (by omega)  (fun c9 => ?_) (fun c9 => ?_)
      · skip
        obtain rfl : k = N := by omega
        exact w_vret hx hb hr hlk hQ hAe () hP hD hS (trivial) dJ7_fill_d0a16_22
      refine lv_aload_n hx hb dJ7_fill_d0a16_12 rfl (lv_at hl 2 rfl) ?_
      refine lv_iload_n hx hb dJ7_fill_d0a16_13 rfl (lv_at hl 1 rfl) ?_
      refine lv_lload_n hx hb dJ7_fill_d0a16_14 rfl (lv_at hl 3 rfl) ?_
      refine r_last (i := k) hx hb hKB.1 hP hD hS 0 1 rfl rfl (by omega) (by omega) dJ7_fill_d0a16_15 (fun H locs hP hD hS => ?_)
      have hP : va_P D vwCl [(q, .inl (cJ, N, .inr (.inl (vp_updL (fillL f x k) k x))))] _ := hP
      have hD : va_D A [(q, .inl (cJ, N, .inr (.inl (vp_updL (fillL f x k) k x))))] := hD
      have hw2 : vp_updL (fillL f x k) k x = fillL f x (k + 1) := fillL_s f x k
      rw [hw2] at hP hD
      refine lv_iinc (v := nI (k + 1)) (lv' := [(3, .int (nI (k + 1))), (4, .int (nI N)), (0, .ref q), (1, .long x)]) hx hb dJ7_fill_d0a16_16 hl (k := 1) rfl (n_inc _ 1) (by decide) rfl (fun ls hl => ?_)
      refine lv_goto (tgt := 6) hx hb dJ7_fill_d0a16_19 (by decide) ?_
      exact ih6 (k + 1) _ _ _ (by omega) (by omega) hP hD hS (lv_sub hl [1, 0, 2, 3] rfl)
  exact L6 (N - 0 + 1) 0 _ _ _ (Nat.lt_succ_self _) (by omega) hP hD hS hl
end
section
/-! arrays of small naturals; what a learner takes -/
def nF (g : Nat → Nat) : Nat → Int32 := fun j => nI (g j)
def lF (g : Nat → Nat) : Nat → Int64 := fun j => lN (g j)
def nu (g : Nat → Nat) (k x : Nat) : Nat → Nat := fun j => if j = k then x else g j
def nfl (g : Nat → Nat) (v N : Nat) : Nat → Nat := fun j => if j < N then v else g j
theorem nu_s (g : Nat → Nat) (k x : Nat) : nu g k x k = x := if_pos rfl
theorem nu_n {g : Nat → Nat} {k x j : Nat} (h : j ≠ k) : nu g k x j = g j := if_neg h
theorem nF_upd (g : Nat → Nat) (k x : Nat) : upd (nF g) k (nI x) = nF (nu g k x) := by
  funext j
  by_cases h : j = k
  · subst h; simp [upd, nF, nu]
  · simp [upd, nF, nu, h]
theorem lF_upd (g : Nat → Nat) (k x : Nat) : vp_updL (lF g) k (lN x) = lF (nu g k x) := by
  funext j
  by_cases h : j = k
  · subst h; simp [vp_updL, lF, nu]
  · simp [vp_updL, lF, nu, h]
theorem nF_fill (g : Nat → Nat) (v N : Nat) : fillN (nF g) (nI v) N = nF (nfl g v N) := by
  funext j
  by_cases h : j < N <;> simp [fillN, nF, nfl, h]
theorem lF_fill (g : Nat → Nat) (v N : Nat) : fillL (lF g) (lN v) N = lF (nfl g v N) := by
  funext j
  by_cases h : j < N <;> simp [fillL, lF, nfl, h]
theorem nF_z : (fun _ => 0 : Nat → Int32) = nF (fun _ => 0) := rfl
theorem lF_z : (fun _ => 0 : Nat → Int64) = lF (fun _ => 0) := rfl
section MYN
variable {p : Program} {l : Launch} {e : Env} {R : Room} {s : State} {m : MethodId} {args : Array Value} {below : List Frame} {meth : Method} {c : Code} {H : Heap} {locs : List Loc} {cells slots : Nat} {Q : State → Prop}
variable {cc : ByteArray} {pc : Nat} {ls : Array Slot} {rest : List Value} {D : va_G} {cl : List vw_C} {A : Nat → Prop} {tys : List (ClassId × FieldType)} {ws : va_W} {H0 : Heap}
theorem r_iastN (hx : p.tables.exec = Jvm.exec) (hb : c.code = cc) (hK : va_K D cl tys s) (hP : va_P D cl ws H) (hD : va_D A ws) (hS : va_S A H0 H locs) (q0 t0 : Nat) {a : Nat} {cA : ClassId} {n : Nat} {g : Nat → Nat} (ha : ws[q0]? = some (a, .inl (cA, n, .inl (nF g)))) (ht : tys[t0]? = some (cA, .int)) {i x : Nat} (hi : i < n) (hn : n < 2 ^ 31) (hdg : decode cc pc = .ok (.iastore, 1))
    (kk : ∀ (H1 : Heap) (locs1 : List Loc), va_P D cl (ws.set q0 (a, .inl (cA, n, .inl (nF (nu g i x))))) H1 → va_D A (ws.set q0 (a, .inl (cA, n, .inl (nF (nu g i x))))) → va_S A H0 H1 locs1 → W p l e R s m args below meth c H1 locs1 cells slots Q (F0 m (pc + 1) ls rest)) : W p l e R s m args below meth c H locs cells slots Q (F0 m pc ls (.int (nI x) :: .int (nI i) :: .ref a :: rest)) :=
  r_iast hx hb hK hP hD hS q0 t0 ha ht hi hn hdg (by rw [nF_upd]; exact kk)
theorem r_lastN (hx : p.tables.exec = Jvm.exec) (hb : c.code = cc) (hK : va_K D cl tys s) (hP : va_P D cl ws H) (hD : va_D A ws) (hS : va_S A H0 H locs) (q0 t0 : Nat) {a : Nat} {cA : ClassId} {n : Nat} {g : Nat → Nat} (ha : ws[q0]? = some (a, .inl (cA, n, .inr (.inl (lF g))))) (ht : tys[t0]? = some (cA, .long)) {i x : Nat} (hi : i < n) (hn : n < 2 ^ 31) (hdg : decode cc pc = .ok (.lastore, 1))
    (kk : ∀ (H1 : Heap) (locs1 : List Loc), va_P D cl (ws.set q0 (a, .inl (cA, n, .inr (.inl (lF (nu g i x)))))) H1 → va_D A (ws.set q0 (a, .inl (cA, n, .inr (.inl (lF (nu g i x)))))) → va_S A H0 H1 locs1 → W p l e R s m args below meth c H1 locs1 cells slots Q (F0 m (pc + 1) ls rest)) : W p l e R s m args below meth c H locs cells slots Q (F0 m pc ls (.long (lN x) :: .int (nI i) :: .ref a :: rest)) :=
  r_last hx hb hK hP hD hS q0 t0 ha ht hi hn hdg (by rw [lF_upd]; exact kk)
end MYN
def shw (tn : Nat → Nat) (t : Nat) : Nat → Nat
  | 0 => 0
  | k + 1 => shw tn t k + tn (2 * k + fo t k)
def lkC (num : Nat → Nat) (slip : Nat) (tn : Nat → Nat) (al t : Nat) : Nat := num t * pw (12 - slip) (shw tn t 3) * pw slip (al - shw tn t 3)
def isR (kd t b : Nat) : Bool := decide (kd = 2) && decide (on t < on b)
def bt (lk : Nat → Nat) (kd t b : Nat) : Bool := decide (lk b < lk t) || (decide (lk t = lk b) && isR kd t b)
def bst (lk : Nat → Nat) (kd : Nat) : Nat → Nat
  | 0 => 0
  | k + 1 => if bt lk kd k (bst lk kd k) then k else bst lk kd k
def fi (p : Nat → Bool) : Nat → Nat → Nat
  | 0, k => k
  | r + 1, k => if p k then k else fi p r (k + 1)
def tk (lk : Nat → Nat) (kd : Nat) (fits : Nat → Bool) : Nat := if kd = 1 ∧ fi fits 8 0 < 8 then fi fits 8 0 else bst lk kd 8
theorem fi_go {p : Nat → Bool} : ∀ (r k : Nat), fi p r k ≤ k + r
  | 0, k => Nat.le_refl k
  | r + 1, k => by
    unfold fi
    split
    · omega
    · have := fi_go (p := p) r (k + 1); omega
theorem fi_skip {p : Nat → Bool} {N : Nat} : ∀ k : Nat, k ≤ N → (∀ j, j < k → p j = false) → fi p N 0 = fi p (N - k) k
  | 0, _, _ => rfl
  | k + 1, hk, h => by
    rw [fi_skip k (by omega) (fun j hj => h j (by omega)), show N - k = (N - (k + 1)) + 1 by omega, fi, if_neg (by rw [h k (by omega)]; decide)]
theorem fi_hit {p : Nat → Bool} {N k : Nat} (hk : k < N) (h : ∀ j, j < k → p j = false) (hp : p k = true) : fi p N 0 = k := by
  rw [fi_skip k (by omega) h, show N - k = (N - k - 1) + 1 by omega, fi, if_pos hp]
theorem fi_none {p : Nat → Bool} {N : Nat} (h : ∀ j, j < N → p j = false) : fi p N 0 = N := by
  rw [fi_skip N (Nat.le_refl N) h, Nat.sub_self]; rfl
theorem tk_lazy {lk : Nat → Nat} {kd : Nat} {fits : Nat → Bool} {k : Nat} (h1 : kd = 1) (hk : k < 8) (h : ∀ j, j < k → fits j = false) (hp : fits k = true) : tk lk kd fits = k := by
  unfold tk
  rw [fi_hit hk h hp, if_pos ⟨h1, hk⟩]
theorem tk_bst {lk : Nat → Nat} {kd : Nat} {fits : Nat → Bool} (h : kd = 1 → ∀ j, j < 8 → fits j = false) : tk lk kd fits = bst lk kd 8 := by
  unfold tk
  rw [if_neg]
  rintro ⟨h1, h2⟩
  rw [fi_none (h h1)] at h2
  omega
theorem bst_lt {lk : Nat → Nat} {kd : Nat} : ∀ k, 0 < k → bst lk kd k < k
  | 0, h => absurd h (Nat.lt_irrefl 0)
  | k + 1, _ => by
    unfold bst
    split
    · exact Nat.lt_succ_self k
    · rcases Nat.eq_zero_or_pos k with rfl | hk
      · exact Nat.lt_succ_self 0
      · exact Nat.lt_succ_of_lt (bst_lt k hk)
theorem tk_lt {lk : Nat → Nat} {kd : Nat} {fits : Nat → Bool} : tk lk kd fits < 8 := by
  unfold tk
  split
  · rename_i h; exact h.2
  · exact bst_lt 8 (by decide)
theorem lz_s {kd k : Nat} {p : Nat → Bool} (h : kd = 1 → ∀ j, j < k → p j = false) (h2 : kd = 1 → p k = false) : kd = 1 → ∀ j, j < k + 1 → p j = false := fun h1 j hj => by
  rcases Nat.lt_or_ge j k with q | q
  · exact h h1 j q
  · rw [show j = k by omega]; exact h2 h1
def chI (lk : Nat → Nat) (kd k best : Nat) (most : Int64) : Prop := (k = 0 ∧ best = 0 ∧ most = -1) ∨ (0 < k ∧ best = bst lk kd k ∧ most = lN (lk best))
theorem m1_lt {a : Nat} (h : a < 2 ^ 63) : (-1 : Int64) < lN a := by
  rw [Int64.lt_iff_toInt_lt, pk_lT h]
  have : (-1 : Int64).toInt = -1 := by decide
  omega
theorem ch_up {lk : Nat → Nat} {kd k best : Nat} {most : Int64} (hb : ∀ t, t < 8 → lk t < 2 ^ 63) (hk : k < 8) (hst : chI lk kd k best most) (h : most < lN (lk k) ∨ (lN (lk k) = most ∧ isR kd k best = true)) : chI lk kd (k + 1) k (lN (lk k)) := by
  refine Or.inr ⟨Nat.succ_pos k, ?_, rfl⟩
  unfold bst
  rcases hst with ⟨rfl, rfl, rfl⟩ | ⟨h0, e1, e2⟩
  · split
    · rfl
    · rfl
  · rw [← e1]
    have hlb : lk best < 2 ^ 63 := hb best (by rw [e1]; exact Nat.lt_trans (bst_lt k h0) hk)
    have ht : bt lk kd k best = true := by
      unfold bt
      rcases h with h | ⟨h, h'⟩
      · rw [e2] at h
        have := (pk_lLT hlb (hb k hk)).mp h
        simp [this]
      · rw [e2] at h
        have := (pk_lEQ (hb k hk) hlb).mp h
        simp [this, h']
    rw [if_pos ht]
theorem ch_no {lk : Nat → Nat} {kd k best : Nat} {most : Int64} (hb : ∀ t, t < 8 → lk t < 2 ^ 63) (hk : k < 8) (hst : chI lk kd k best most) (h1 : ¬ most < lN (lk k)) (h : ¬ lN (lk k) = most ∨ isR kd k best = false) : chI lk kd (k + 1) best most := by
  rcases hst with ⟨rfl, rfl, rfl⟩ | ⟨h0, e1, e2⟩
  · exact absurd (m1_lt (hb 0 hk)) h1
  · refine Or.inr ⟨Nat.succ_pos k, ?_, e2⟩
    unfold bst
    rw [← e1]
    have hlb : lk best < 2 ^ 63 := hb best (by rw [e1]; exact Nat.lt_trans (bst_lt k h0) hk)
    have ht : bt lk kd k best = false := by
      unfold bt
      have a1 : ¬ lk best < lk k := fun q => h1 (by rw [e2]; exact (pk_lLT hlb (hb k hk)).mpr q)
      rcases h with h | h
      · have a2 : ¬ lk k = lk best := fun q => h (by rw [e2, q])
        simp [a1, a2]
      · simp [a1, h]
    rw [ht]
    rfl
theorem pw_le {b c : Nat} (h : b ≤ c) : ∀ n, pw b n ≤ pw c n
  | 0 => Nat.le_refl 1
  | n + 1 => Nat.mul_le_mul (pw_le h n) h
theorem pw_add (b m : Nat) : ∀ n, pw b (m + n) = pw b m * pw b n
  | 0 => (Nat.mul_one _).symm
  | n + 1 => by
    show pw b (m + n) * b = pw b m * (pw b n * b)
    rw [pw_add b m n, Nat.mul_assoc]
theorem pw_pos {b : Nat} (h : 0 < b) : ∀ n, 0 < pw b n
  | 0 => Nat.one_pos
  | n + 1 => Nat.mul_pos (pw_pos h n) h
theorem pw_mono {b : Nat} (h : 0 < b) {m n : Nat} (hmn : m ≤ n) : pw b m ≤ pw b n := by
  rw [show n = m + (n - m) by omega, pw_add]
  exact Nat.le_mul_of_pos_right _ (pw_pos h _)
theorem lkC_lt {num tn : Nat → Nat} {slip al t : Nat} (hn : num t < 10) (hs : slip ≤ 12) (ha : al ≤ 6) (hsh : shw tn t 3 ≤ al) : lkC num slip tn al t < 2 ^ 63 := by
  unfold lkC
  have h1 : pw (12 - slip) (shw tn t 3) ≤ pw 12 (shw tn t 3) := pw_le (by omega) _
  have h2 : pw slip (al - shw tn t 3) ≤ pw 12 (al - shw tn t 3) := pw_le hs _
  have h3 : pw 12 (shw tn t 3) * pw 12 (al - shw tn t 3) ≤ pw 12 6 := by
    rw [← pw_add]; exact pw_mono (by decide) (by omega)
  have h4 : pw (12 - slip) (shw tn t 3) * pw slip (al - shw tn t 3) ≤ pw 12 6 := Nat.le_trans (Nat.mul_le_mul h1 h2) h3
  have h5 : num t * (pw (12 - slip) (shw tn t 3) * pw slip (al - shw tn t 3)) ≤ 9 * pw 12 6 := Nat.mul_le_mul (by omega) h4
  rw [Nat.mul_assoc]
  exact Nat.lt_of_le_of_lt h5 (by decide)
theorem on_lt (t : Nat) : on t < 2 ^ 31 := by
  unfold on
  have h1 : t &&& 1 ≤ 1 := Nat.and_le_right
  have h2 : (t >>> 1) &&& 1 ≤ 1 := Nat.and_le_right
  have h3 : (t >>> 2) &&& 1 ≤ 1 := Nat.and_le_right
  omega
theorem isR_t {kd t b : Nat} (h : kd = 2) (h2 : on t < on b) : isR kd t b = true := by simp [isR, h, h2]
theorem isR_f1 {kd t b : Nat} (h : ¬ kd = 2) : isR kd t b = false := by simp [isR, h]
theorem isR_f2 {kd t b : Nat} (h : on b ≤ on t) : isR kd t b = false := by
  have : ¬ on t < on b := by omega
  simp [isR, this]
theorem ch_end {lk : Nat → Nat} {kd k best : Nat} {most : Int64} (hst : chI lk kd k best most) (hk : k = 8) : best = bst lk kd 8 := by
  rcases hst with ⟨h0, -, -⟩ | ⟨-, e1, -⟩
  · omega
  · rw [e1, hk]
end
section
set_option maxHeartbeats 4000000 in
set_option maxRecDepth 100000 in
theorem m_X0_init (l : Launch) (D : va_G) (cI cJ : ClassId) (sz : Nat) (q : Nat) : Met l yX0_init wsX0_init ({ frames := 1, cells := 1, slots := 6, locals := 12 }) (PX D cI cJ [(q, .inr (0, [.null, .int 0]))] sz [.ref q]) (QWv D (S := Nat) [(q, .inr (0, [.null, .int 0]))] sz (fun _ => True) (fun qt => [(q, .inr (0, [.ref qt, .int (nI 0)])), (qt, .inl (cI, 6, .inl (nF (fun _ => 0))))])) 1 6 (va_A [(q, .inr (0, [.null, .int 0]))] sz) := by
  refine met_X (cc := cX0_init) (maxL := 1) (ret := none) (by decide) rfl (Nat.le_of_ble_eq_true rfl) ?_
  intro p e s m args below meth c Q ls A hQ hAe hAt hKB hP hD hA hl
  obtain ⟨hx, hb, hr, hml, hlk, hts, hown, hnm⟩ := hAt
  have hown : s.vm.findClass RX0 = some m.cls := hown
  have hS : va_S A s.heap s.heap [] := va_S.rf
  have hl : lv_has ls 1 [(0, .ref q)] := hl
  have oi1 := hts (.methodLink RX0 3 objectInit) (by decide +kernel)
  have oi2 := hts (.instanceMethod objectInit) (by decide +kernel)
  have oi3 := hts (.code objectInit ⟨#[0xb1]⟩ 1 none) (by decide +kernel)
  have acI := hts (.arrayClass .int) (by decide +kernel)
  have hiX0 : ∀ w ∈ u_ws RX0 TX0 2, w ∈ wsX0_init := by decide +kernel
  have fl9 := hts (.fieldLink RX0 9 "TaughtTongues$Counts" "times" "[I") (by decide +kernel)
  have fl15 := hts (.fieldLink RX0 15 "TaughtTongues$Counts" "all" "I") (by decide +kernel)
  refine lv_aload_n hx hb dX0_init_0 rfl (lv_at hl 0 rfl) ?_
  refine W.objInit hx hb hown oi1 oi2 oi3 rfl (by rw [hml]; exact hl.1) rfl dX0_init_1 (Nat.le_of_ble_eq_true rfl) (Nat.le_of_ble_eq_true rfl) ?_
  refine W.eq (g2 := F0 m 4 ls []) rfl ?_
  refine lv_aload_n hx hb dX0_init_4 rfl (lv_at hl 0 rfl) ?_
  refine lv_bipush (v := nI (6)) hx hb dX0_init_5 (by decide) ?_
  refine r_newI (n := 6) hx hb acI hKB.1 hP hD hS hA (by decide) (by decide) (Nat.le_of_ble_eq_true rfl) (Nat.le_of_ble_eq_true rfl) dX0_init_7 (fun qt H hP hD hS => ?_)
  have hP : va_P D vwCl [(q, .inr (0, [.null, .int 0])), (qt, .inl (cI, 6, .inl (fun _ => 0)))] _ := hP
  have hD : va_D A [(q, .inr (0, [.null, .int 0])), (qt, .inl (cI, 6, .inl (fun _ => 0)))] := hD
  refine W.widen (k := 1) (n := 6) (by decide) (by decide) ?_
  refine va_putF (D := D) (ci := 0) (v := .ref qt) (ty := .array .int) (C := RX0) (T := TX0) (N := 2) hx hb hts hiX0 tyX0 tyX0_ok nmX0 hown hKB.1 hP hD hS 0 rfl rfl 0 (by decide) fl9 (fun _ h9 => h9) rfl hnm rfl (by decide +kernel) rfl rfl (Nat.le_of_ble_eq_true rfl) dX0_init_9 (fun H locs hP hD hS => ?_)
  have hP : va_P D vwCl [(q, .inr (0, [.ref qt, .int 0])), (qt, .inl (cI, 6, .inl (fun _ => 0)))] _ := hP
  have hD : va_D A [(q, .inr (0, [.ref qt, .int 0])), (qt, .inl (cI, 6, .inl (fun _ => 0)))] := hD
  refine lv_aload_n hx hb dX0_init_12 rfl (lv_at hl 0 rfl) ?_
  refine lv_iconst (v := nI (0)) hx hb dX0_init_13 (by decide) ?_
  refine va_put (D := D) (ci := 0) (v := .int (nI 0)) (ty := .int) (C := RX0) (T := TX0) (N := 2) hx hb hts hiX0 tyX0 tyX0_ok nmX0 hown hKB.1 hP hD hS 0 rfl rfl 1 (by decide) fl15 (fun _ h9 => h9) rfl (by decide +kernel) rfl rfl (Nat.le_of_ble_eq_true rfl) dX0_init_14 (fun H locs hP hD hS => ?_)
  have hP : va_P D vwCl [(q, .inr (0, [.ref qt, .int (nI 0)])), (qt, .inl (cI, 6, .inl (fun _ => 0)))] _ := hP
  have hD : va_D A [(q, .inr (0, [.ref qt, .int (nI 0)])), (qt, .inl (cI, 6, .inl (fun _ => 0)))] := hD
  exact w_vret hx hb hr hlk hQ hAe qt hP hD hS (trivial) dX0_init_17

set_option maxHeartbeats 4000000 in
set_option maxRecDepth 100000 in
theorem m_X0_add (l : Launch) (D : va_G) (cI cJ : ClassId) (sz : Nat) (q : Nat) (qt : Nat) (al : Nat) (tn : Nat → Nat) (sy : Nat) (hsy : sy < 6) : Met l yX0_add wsX0_add ({ frames := 0, cells := 0, slots := 0, locals := 0 }) (PX D cI cJ [(q, .inr (0, [.ref qt, .int (nI al)])), (qt, .inl (cI, 6, .inl (nF tn)))] sz [.ref q, .int (nI sy)]) (QWv D (S := Unit) [(q, .inr (0, [.ref qt, .int (nI al)])), (qt, .inl (cI, 6, .inl (nF tn)))] sz (fun _ => True) (fun _ => [(q, .inr (0, [.ref qt, .int (nI (al + 1))])), (qt, .inl (cI, 6, .inl (nF (nu tn sy (tn sy + 1)))))])) 0 0 (va_A [(q, .inr (0, [.ref qt, .int (nI al)])), (qt, .inl (cI, 6, .inl (nF tn)))] sz) := by
  refine met_X (cc := cX0_add) (maxL := 2) (ret := none) (by decide) rfl (Nat.le_of_ble_eq_true rfl) ?_
  intro p e s m args below meth c Q ls A hQ hAe hAt hKB hP hD hA hl
  obtain ⟨hx, hb, hr, hml, hlk, hts, hown, hnm⟩ := hAt
  have hown : s.vm.findClass RX0 = some m.cls := hown
  have hS : va_S A s.heap s.heap [] := va_S.rf
  have hl : lv_has ls 2 [(0, .ref q), (1, .int (nI sy))] := hl
  have hiX0 : ∀ w ∈ u_ws RX0 TX0 2, w ∈ wsX0_add := by decide +kernel
  have fl9 := hts (.fieldLink RX0 9 "TaughtTongues$Counts" "times" "[I") (by decide +kernel)
  have fl15 := hts (.fieldLink RX0 15 "TaughtTongues$Counts" "all" "I") (by decide +kernel)
  refine lv_aload_n hx hb dX0_add_0 rfl (lv_at hl 0 rfl) ?_
  refine va_get (D := D) (ci := 0) (v := .ref qt) (C := RX0) (T := TX0) (N := 2) hx hb hts hiX0 hown hKB.1 hP 0 rfl rfl 0 (by decide) fl9 (fun _ h9 => h9) rfl dX0_add_1 ?_
  refine lv_iload_n hx hb dX0_add_4 rfl (lv_at hl 1 rfl) ?_
  refine lv_dup2_11 hx hb dX0_add_5 rfl rfl ?_
  refine r_iald (i := sy) (v := nI (tn sy)) hx hb hKB.1 hP 1 0 rfl rfl (by omega) (by decide) (rfl) dX0_add_6 ?_
  refine lv_iconst (v := nI (1)) hx hb dX0_add_7 (by decide) ?_
  refine r_iadd (a := tn sy) (b := 1) hx hb dX0_add_8  ?_
  refine r_iastN (i := sy) hx hb hKB.1 hP hD hS 1 0 rfl rfl (by omega) (by decide) dX0_add_9 (fun H locs hP hD hS => ?_)
  have hP : va_P D vwCl [(q, .inr (0, [.ref qt, .int (nI al)])), (qt, .inl (cI, 6, .inl (nF (nu tn sy ((tn sy) + 1)))))] _ := hP
  have hD : va_D A [(q, .inr (0, [.ref qt, .int (nI al)])), (qt, .inl (cI, 6, .inl (nF (nu tn sy ((tn sy) + 1)))))] := hD
  refine lv_aload_n hx hb dX0_add_10 rfl (lv_at hl 0 rfl) ?_
  refine lv_dup hx hb dX0_add_11 rfl ?_
  refine va_get (D := D) (ci := 0) (v := .int (nI al)) (C := RX0) (T := TX0) (N := 2) hx hb hts hiX0 hown hKB.1 hP 0 rfl rfl 1 (by decide) fl15 (fun _ h9 => h9) rfl dX0_add_12 ?_
  refine lv_iconst (v := nI (1)) hx hb dX0_add_15 (by decide) ?_
  refine r_iadd (a := al) (b := 1) hx hb dX0_add_16  ?_
  refine va_put (D := D) (ci := 0) (v := .int (nI (al + 1))) (ty := .int) (C := RX0) (T := TX0) (N := 2) hx hb hts hiX0 tyX0 tyX0_ok nmX0 hown hKB.1 hP hD hS 0 rfl rfl 1 (by decide) fl15 (fun _ h9 => h9) rfl (by decide +kernel) rfl rfl (Nat.le_of_ble_eq_true rfl) dX0_add_17 (fun H locs hP hD hS => ?_)
  have hP : va_P D vwCl [(q, .inr (0, [.ref qt, .int (nI (al + 1))])), (qt, .inl (cI, 6, .inl (nF (nu tn sy ((tn sy) + 1)))))] _ := hP
  have hD : va_D A [(q, .inr (0, [.ref qt, .int (nI (al + 1))])), (qt, .inl (cI, 6, .inl (nF (nu tn sy ((tn sy) + 1)))))] := hD
  exact w_vret hx hb hr hlk hQ hAe () hP hD hS (trivial) dX0_add_20

set_option maxHeartbeats 4000000 in
set_option maxRecDepth 100000 in
theorem m_X0_clear (l : Launch) (D : va_G) (cI cJ : ClassId) (sz : Nat) (q : Nat) (qt : Nat) (al : Nat) (tn : Nat → Nat) : Met l yX0_clear wsX0_clear ({ frames := 1, cells := 0, slots := 0, locals := 23 }) (PX D cI cJ [(q, .inr (0, [.ref qt, .int (nI al)])), (qt, .inl (cI, 6, .inl (nF tn)))] sz [.ref q]) (QWv D (S := Unit) [(q, .inr (0, [.ref qt, .int (nI al)])), (qt, .inl (cI, 6, .inl (nF tn)))] sz (fun _ => True) (fun _ => [(q, .inr (0, [.ref qt, .int (nI 0)])), (qt, .inl (cI, 6, .inl (nF (nfl tn 0 6))))])) 0 0 (va_A [(q, .inr (0, [.ref qt, .int (nI al)])), (qt, .inl (cI, 6, .inl (nF tn)))] sz) := by
  refine met_X (cc := cX0_clear) (maxL := 1) (ret := none) (by decide) rfl (Nat.le_of_ble_eq_true rfl) ?_
  intro p e s m args below meth c Q ls A hQ hAe hAt hKB hP hD hA hl
  obtain ⟨hx, hb, hr, hml, hlk, hts, hown, hnm⟩ := hAt
  have hown : s.vm.findClass RX0 = some m.cls := hown
  have hS : va_S A s.heap s.heap [] := va_S.rf
  have hl : lv_has ls 1 [(0, .ref q)] := hl
  have hiX0 : ∀ w ∈ u_ws RX0 TX0 2, w ∈ wsX0_clear := by decide +kernel
  have fl9 := hts (.fieldLink RX0 9 "TaughtTongues$Counts" "times" "[I") (by decide +kernel)
  have fl15 := hts (.fieldLink RX0 15 "TaughtTongues$Counts" "all" "I") (by decide +kernel)
  refine lv_aload_n hx hb dX0_clear_0 rfl (lv_at hl 0 rfl) ?_
  refine va_get (D := D) (ci := 0) (v := .ref qt) (C := RX0) (T := TX0) (N := 2) hx hb hts hiX0 hown hKB.1 hP 0 rfl rfl 0 (by decide) fl9 (fun _ h9 => h9) rfl dX0_clear_1 ?_
  refine lv_iconst (v := nI (0)) hx hb dX0_clear_4 (by decide) ?_
  have hPc := hP.sub (ws' := [(qt, .inl (cI, 6, .inl (nF tn)))]) [1] rfl
  have hDc := hD.sub (ws' := [(qt, .inl (cI, 6, .inl (nF tn)))]) [1] (by decide) rfl
  have hFc := va_free (wc := [(qt, .inl (cI, 6, .inl (nF tn)))]) hD hS hA [1] rfl
  refine w_callv (wc := [(qt, .inl (cI, 6, .inl (nF tn)))]) (wr := [(q, .inr (0, [.ref qt, .int (nI al)]))]) hP hD hS [1] [0] rfl rfl (by decide) (by decide) hFc (va_runS (As := [.ref qt, .int (nI 0)]) (rest := []) ⟨hx, hb, hml, hown, hts⟩ (m_J7_fill_53178 l D cI cJ _ qt 6 (nF tn) (nI (0)) (by decide)) (va_cwS 2 hts gX0_clear_J7_fill_53178 rfl rfl rfl (by decide +kernel) ⟨Nat.le_of_ble_eq_true rfl, Nat.le_of_ble_eq_true rfl⟩) ⟨PX.blind, fun U hU hW => ⟨rfl, by rw [hU], hKB.warm hW, by rw [hU]; exact hPc, hDc.weaken (fun _ _ _ _ => trivial)⟩⟩ rfl rfl hl.1 rfl (lv_room (Nat.le_of_ble_eq_true rfl)) dX0_clear_5 ⟨Nat.le_of_ble_eq_true rfl, Nat.le_of_ble_eq_true rfl⟩) (fun u5 H locs hw5 hP hD hS => ?_)
  have hP : va_P D vwCl [(q, .inr (0, [.ref qt, .int (nI al)])), (qt, .inl (cI, 6, .inl (fillN (nF tn) (nI (0)) 6)))] _ := hP
  have hD : va_D A [(q, .inr (0, [.ref qt, .int (nI al)])), (qt, .inl (cI, 6, .inl (fillN (nF tn) (nI (0)) 6)))] := hD
  have hw2 : fillN (nF tn) (nI (0)) 6 = nF (nfl tn 0 6) := nF_fill tn 0 6
  rw [hw2] at hP hD
  refine lv_aload_n hx hb dX0_clear_8 rfl (lv_at hl 0 rfl) ?_
  refine lv_iconst (v := nI (0)) hx hb dX0_clear_9 (by decide) ?_
  refine va_put (D := D) (ci := 0) (v := .int (nI 0)) (ty := .int) (C := RX0) (T := TX0) (N := 2) hx hb hts hiX0 tyX0 tyX0_ok nmX0 hown hKB.1 hP hD hS 0 rfl rfl 1 (by decide) fl15 (fun _ h9 => h9) rfl (by decide +kernel) rfl rfl (Nat.le_of_ble_eq_true rfl) dX0_clear_10 (fun H locs hP hD hS => ?_)
  have hP : va_P D vwCl [(q, .inr (0, [.ref qt, .int (nI 0)])), (qt, .inl (cI, 6, .inl (nF (nfl tn 0 6))))] _ := hP
  have hD : va_D A [(q, .inr (0, [.ref qt, .int (nI 0)])), (qt, .inl (cI, 6, .inl (nF (nfl tn 0 6))))] := hD
  exact w_vret hx hb hr hlk hQ hAe () hP hD hS (trivial) dX0_clear_13

set_option maxHeartbeats 4000000 in
set_option maxRecDepth 100000 in
theorem m_X0_sharedWith (l : Launch) (D : va_G) (cI cJ : ClassId) (q : Nat) (qt : Nat) (al : Nat) (tn : Nat → Nat) (t : Nat) (ht : t < 8) : Met l yX0_sharedWith wsX0_sharedWith ({ frames := 1, cells := 0, slots := 0, locals := 21 }) (PR D cI cJ [(q, .inr (0, [.ref qt, .int (nI al)])), (qt, .inl (cI, 6, .inl (nF tn)))] [.ref q, .int (nI t)]) (QRi (fun r => r = nI (shw tn t 3))) 0 0 NA := by
  refine met_R (cc := cX0_sharedWith) (maxL := 4) (ret := (some .int)) (by decide) rfl (Nat.le_of_ble_eq_true rfl) ?_
  intro p e s m args below meth c Q ls hQ hAt hKB hP hl
  obtain ⟨hx, hb, hr, hml, hlk, hts, hown, hnm⟩ := hAt
  have hown : s.vm.findClass RX0 = some m.cls := hown
  have hS : va_S NA s.heap s.heap [] := va_S.rf
  have hl : lv_has ls 4 [(0, .ref q), (1, .int (nI t))] := hl
  have hiX0 : ∀ w ∈ u_ws RX0 TX0 2, w ∈ wsX0_sharedWith := by decide +kernel
  have fl9 := hts (.fieldLink RX0 9 "TaughtTongues$Counts" "times" "[I") (by decide +kernel)
  have inX5 := hts (.initialized RX5) (by decide +kernel)
  have st_X5_formOf := hts (.static yX5_formOf) (by decide +kernel)
  refine lv_iconst (v := nI (0)) hx hb dX0_sharedWith_0 (by decide) ?_
  refine lv_istore_n (lv' := [(2, .int (nI 0)), (0, .ref q), (1, .int (nI t))]) hx hb dX0_sharedWith_1 rfl hl (by decide) rfl (fun ls hl => ?_)
  refine lv_iconst (v := nI (0)) hx hb dX0_sharedWith_2 (by decide) ?_
  refine lv_istore_n (lv' := [(3, .int (nI 0)), (2, .int (nI 0)), (0, .ref q), (1, .int (nI t))]) hx hb dX0_sharedWith_3 rfl hl (by decide) rfl (fun ls hl => ?_)
  have L4 : ∀ (n : Nat) (k : Nat) (H : Heap) (locs : List Loc) (ls : Array Slot), 3 - k < n → (k ≤ 3) → va_P D vwCl [(q, .inr (0, [.ref qt, .int (nI al)])), (qt, .inl (cI, 6, .inl (nF tn)))] H → va_S NA s.heap H locs → lv_has ls 4 [(3, .int (nI k)), (2, .int (nI (shw tn t k))), (0, .ref q), (1, .int (nI t))] → W p l e ({ frames := 1, cells := 0, slots := 0, locals := 21 }) s m args below meth c H locs 0 0 Q (F0 m 4 ls []) := by
    intro n
    induction n with
    | zero => intro k H locs ls hm; exact absurd hm (Nat.not_lt_zero _)
    | succ n ih4 =>
      intro k H locs ls hm hk hP hS hl
      refine lv_iload_n hx hb dX0_sharedWith_4 rfl (lv_at hl 0 rfl) ?_
      refine lv_iconst (v := nI (3)) hx hb dX0_sharedWith_5 (by decide) ?_
      refine r_icmp_ge (a := k) (b := 3) (tgt := 32) hx hb dX0_sharedWith_6 (by decide) (by omega) (by omega)  (fun c6 => ?_) (fun c6 => ?_)
      · skip
        obtain rfl : k = 3 := by omega
        refine lv_iload_n hx hb dX0_sharedWith_32 rfl (lv_at hl 1 rfl) ?_
        exact r_iret hx hb hr hlk hQ hS (rfl) dX0_sharedWith_33
      refine lv_iload_n hx hb dX0_sharedWith_9 rfl (lv_at hl 1 rfl) ?_
      refine lv_aload_n hx hb dX0_sharedWith_10 rfl (lv_at hl 2 rfl) ?_
      refine va_get (D := D) (ci := 0) (v := .ref qt) (C := RX0) (T := TX0) (N := 2) hx hb hts hiX0 hown hKB.1 hP 0 rfl rfl 0 (by decide) fl9 (fun _ h9 => h9) rfl dX0_sharedWith_11 ?_
      refine lv_iconst (v := nI (2)) hx hb dX0_sharedWith_14 (by decide) ?_
      refine lv_iload_n hx hb dX0_sharedWith_15 rfl (lv_at hl 0 rfl) ?_
      refine r_imul (a := 2) (b := k) hx hb dX0_sharedWith_16  ?_
      refine lv_iload_n hx hb dX0_sharedWith_17 rfl (lv_at hl 3 rfl) ?_
      refine lv_iload_n hx hb dX0_sharedWith_18 rfl (lv_at hl 0 rfl) ?_
      have hPc := hP.sub (ws' := []) [] rfl
      refine r_calli hP hS (va_runSN (As := [.int (nI t), .int (nI k)]) (rest := [.int (nI (2 * k)), .ref qt, .int (nI (shw tn t k))]) ⟨hx, hb, hml, hown, hts⟩ (m_X5_formOf l D cI cJ t k (by omega) (by omega)) (⟨va_cnB 2 hts gX0_sharedWith_X5_formOf_n25 rfl rfl rfl (hKB.2.m (q := ("TaughtTongues$Counts", 25, yX5_formOf)) 3 rfl) inX5 (by decide +kernel) ⟨Nat.le_of_ble_eq_true rfl, Nat.le_of_ble_eq_true rfl⟩, st_X5_formOf, trivial⟩) ⟨PR.blind, fun U hU hW => ⟨rfl, hKB.warm hW, by rw [hU]; exact hPc⟩⟩ rfl rfl hl.1 rfl (lv_room (Nat.le_of_ble_eq_true rfl)) dX0_sharedWith_19 ⟨Nat.le_of_ble_eq_true rfl, Nat.le_of_ble_eq_true rfl⟩) (fun r1 H locs hw19 hP hS => ?_)
      have hw19 : r1 = nI (fo t k) := hw19
      subst hw19
      refine r_iadd (a := 2 * k) (b := fo t k) hx hb dX0_sharedWith_22  ?_
      refine r_iald (i := (2 * k) + (fo t k)) (v := nI (tn ((2 * k) + (fo t k)))) hx hb hKB.1 hP 1 0 rfl rfl (by have := fo_le t k; omega) (by decide) (rfl) dX0_sharedWith_23 ?_
      refine r_iadd (a := shw tn t k) (b := tn ((2 * k) + (fo t k))) hx hb dX0_sharedWith_24  ?_
      refine lv_istore_n (lv' := [(2, .int (nI ((shw tn t k) + (tn ((2 * k) + (fo t k)))))), (3, .int (nI k)), (0, .ref q), (1, .int (nI t))]) hx hb dX0_sharedWith_25 rfl hl (by decide) rfl (fun ls hl => ?_)
      refine lv_iinc (v := nI (k + 1)) (lv' := [(3, .int (nI (k + 1))), (2, .int (nI ((shw tn t k) + (tn ((2 * k) + (fo t k)))))), (0, .ref q), (1, .int (nI t))]) hx hb dX0_sharedWith_26 hl (k := 1) rfl (n_inc _ 1) (by decide) rfl (fun ls hl => ?_)
      refine lv_goto (tgt := 4) hx hb dX0_sharedWith_29 (by decide) ?_
      exact ih4 (k + 1) _ _ _ (by omega) (by omega) hP hS hl
  exact L4 (3 - 0 + 1) 0 _ _ _ (Nat.lt_succ_self _) (by omega) hP hS hl

set_option maxHeartbeats 4000000 in
set_option maxRecDepth 100000 in
theorem m_X1_init (l : Launch) (D : va_G) (cI cJ : ClassId) (sz : Nat) (lq : Nat) : Met l yX1_init wsX1_init ({ frames := 1, cells := 1, slots := 8, locals := 12 }) (PX D cI cJ [(lq, .inr (1, [.null, .int 0, .int 0]))] sz [.ref lq]) (QWv D (S := Nat) [(lq, .inr (1, [.null, .int 0, .int 0]))] sz (fun _ => True) (fun nq => [(lq, .inr (1, [.ref nq, .int (nI 1), .int (nI 0)])), (nq, .inl (cI, 8, .inl (nF (nu (nu (nu (nu (nu (nu (nu (nu (fun _ => 0) 0 1) 1 1) 2 1) 3 1) 4 1) 5 1) 6 1) 7 1))))])) 1 8 (va_A [(lq, .inr (1, [.null, .int 0, .int 0]))] sz) := by
  refine met_X (cc := cX1_init) (maxL := 1) (ret := none) (by decide) rfl (Nat.le_of_ble_eq_true rfl) ?_
  intro p e s m args below meth c Q ls A hQ hAe hAt hKB hP hD hA hl
  obtain ⟨hx, hb, hr, hml, hlk, hts, hown, hnm⟩ := hAt
  have hown : s.vm.findClass RX1 = some m.cls := hown
  have hS : va_S A s.heap s.heap [] := va_S.rf
  have hl : lv_has ls 1 [(0, .ref lq)] := hl
  have oi1 := hts (.methodLink RX1 3 objectInit) (by decide +kernel)
  have oi2 := hts (.instanceMethod objectInit) (by decide +kernel)
  have oi3 := hts (.code objectInit ⟨#[0xb1]⟩ 1 none) (by decide +kernel)
  have acI := hts (.arrayClass .int) (by decide +kernel)
  have hiX1 : ∀ w ∈ u_ws RX1 TX1 3, w ∈ wsX1_init := by decide +kernel
  have fl9 := hts (.fieldLink RX1 9 "TaughtTongues$Learner" "numbers" "[I") (by decide +kernel)
  have fl15 := hts (.fieldLink RX1 15 "TaughtTongues$Learner" "slip" "I") (by decide +kernel)
  have fl19 := hts (.fieldLink RX1 19 "TaughtTongues$Learner" "kind" "I") (by decide +kernel)
  refine lv_aload_n hx hb dX1_init_0 rfl (lv_at hl 0 rfl) ?_
  refine W.objInit hx hb hown oi1 oi2 oi3 rfl (by rw [hml]; exact hl.1) rfl dX1_init_1 (Nat.le_of_ble_eq_true rfl) (Nat.le_of_ble_eq_true rfl) ?_
  refine W.eq (g2 := F0 m 4 ls []) rfl ?_
  refine lv_aload_n hx hb dX1_init_4 rfl (lv_at hl 0 rfl) ?_
  refine lv_bipush (v := nI (8)) hx hb dX1_init_5 (by decide) ?_
  refine r_newI (n := 8) hx hb acI hKB.1 hP hD hS hA (by decide) (by decide) (Nat.le_of_ble_eq_true rfl) (Nat.le_of_ble_eq_true rfl) dX1_init_7 (fun nq H hP hD hS => ?_)
  have hP : va_P D vwCl [(lq, .inr (1, [.null, .int 0, .int 0])), (nq, .inl (cI, 8, .inl (fun _ => 0)))] _ := hP
  have hD : va_D A [(lq, .inr (1, [.null, .int 0, .int 0])), (nq, .inl (cI, 8, .inl (fun _ => 0)))] := hD
  refine W.widen (k := 1) (n := 8) (by decide) (by decide) ?_
  refine lv_dup hx hb dX1_init_9 rfl ?_
  refine lv_iconst (v := nI (0)) hx hb dX1_init_10 (by decide) ?_
  refine lv_iconst (v := nI (1)) hx hb dX1_init_11 (by decide) ?_
  have hP : va_P D vwCl [(lq, .inr (1, [.null, .int 0, .int 0])), (nq, .inl (cI, 8, .inl (nF (fun _ => 0))))] _ := hP
  have hD : va_D A [(lq, .inr (1, [.null, .int 0, .int 0])), (nq, .inl (cI, 8, .inl (nF (fun _ => 0))))] := hD
  refine r_iastN (i := 0) hx hb hKB.1 hP hD hS 1 0 rfl rfl (by omega) (by decide) dX1_init_12 (fun H locs hP hD hS => ?_)
  have hP : va_P D vwCl [(lq, .inr (1, [.null, .int 0, .int 0])), (nq, .inl (cI, 8, .inl (nF (nu (fun _ => 0) 0 1))))] _ := hP
  have hD : va_D A [(lq, .inr (1, [.null, .int 0, .int 0])), (nq, .inl (cI, 8, .inl (nF (nu (fun _ => 0) 0 1))))] := hD
  refine lv_dup hx hb dX1_init_13 rfl ?_
  refine lv_iconst (v := nI (1)) hx hb dX1_init_14 (by decide) ?_
  refine lv_iconst (v := nI (1)) hx hb dX1_init_15 (by decide) ?_
  refine r_iastN (i := 1) hx hb hKB.1 hP hD hS 1 0 rfl rfl (by omega) (by decide) dX1_init_16 (fun H locs hP hD hS => ?_)
  have hP : va_P D vwCl [(lq, .inr (1, [.null, .int 0, .int 0])), (nq, .inl (cI, 8, .inl (nF (nu (nu (fun _ => 0) 0 1) 1 1))))] _ := hP
  have hD : va_D A [(lq, .inr (1, [.null, .int 0, .int 0])), (nq, .inl (cI, 8, .inl (nF (nu (nu (fun _ => 0) 0 1) 1 1))))] := hD
  refine lv_dup hx hb dX1_init_17 rfl ?_
  refine lv_iconst (v := nI (2)) hx hb dX1_init_18 (by decide) ?_
  refine lv_iconst (v := nI (1)) hx hb dX1_init_19 (by decide) ?_
  refine r_iastN (i := 2) hx hb hKB.1 hP hD hS 1 0 rfl rfl (by omega) (by decide) dX1_init_20 (fun H locs hP hD hS => ?_)
  have hP : va_P D vwCl [(lq, .inr (1, [.null, .int 0, .int 0])), (nq, .inl (cI, 8, .inl (nF (nu (nu (nu (fun _ => 0) 0 1) 1 1) 2 1))))] _ := hP
  have hD : va_D A [(lq, .inr (1, [.null, .int 0, .int 0])), (nq, .inl (cI, 8, .inl (nF (nu (nu (nu (fun _ => 0) 0 1) 1 1) 2 1))))] := hD
  refine lv_dup hx hb dX1_init_21 rfl ?_
  refine lv_iconst (v := nI (3)) hx hb dX1_init_22 (by decide) ?_
  refine lv_iconst (v := nI (1)) hx hb dX1_init_23 (by decide) ?_
  refine r_iastN (i := 3) hx hb hKB.1 hP hD hS 1 0 rfl rfl (by omega) (by decide) dX1_init_24 (fun H locs hP hD hS => ?_)
  have hP : va_P D vwCl [(lq, .inr (1, [.null, .int 0, .int 0])), (nq, .inl (cI, 8, .inl (nF (nu (nu (nu (nu (fun _ => 0) 0 1) 1 1) 2 1) 3 1))))] _ := hP
  have hD : va_D A [(lq, .inr (1, [.null, .int 0, .int 0])), (nq, .inl (cI, 8, .inl (nF (nu (nu (nu (nu (fun _ => 0) 0 1) 1 1) 2 1) 3 1))))] := hD
  refine lv_dup hx hb dX1_init_25 rfl ?_
  refine lv_iconst (v := nI (4)) hx hb dX1_init_26 (by decide) ?_
  refine lv_iconst (v := nI (1)) hx hb dX1_init_27 (by decide) ?_
  refine r_iastN (i := 4) hx hb hKB.1 hP hD hS 1 0 rfl rfl (by omega) (by decide) dX1_init_28 (fun H locs hP hD hS => ?_)
  have hP : va_P D vwCl [(lq, .inr (1, [.null, .int 0, .int 0])), (nq, .inl (cI, 8, .inl (nF (nu (nu (nu (nu (nu (fun _ => 0) 0 1) 1 1) 2 1) 3 1) 4 1))))] _ := hP
  have hD : va_D A [(lq, .inr (1, [.null, .int 0, .int 0])), (nq, .inl (cI, 8, .inl (nF (nu (nu (nu (nu (nu (fun _ => 0) 0 1) 1 1) 2 1) 3 1) 4 1))))] := hD
  refine lv_dup hx hb dX1_init_29 rfl ?_
  refine lv_iconst (v := nI (5)) hx hb dX1_init_30 (by decide) ?_
  refine lv_iconst (v := nI (1)) hx hb dX1_init_31 (by decide) ?_
  refine r_iastN (i := 5) hx hb hKB.1 hP hD hS 1 0 rfl rfl (by omega) (by decide) dX1_init_32 (fun H locs hP hD hS => ?_)
  have hP : va_P D vwCl [(lq, .inr (1, [.null, .int 0, .int 0])), (nq, .inl (cI, 8, .inl (nF (nu (nu (nu (nu (nu (nu (fun _ => 0) 0 1) 1 1) 2 1) 3 1) 4 1) 5 1))))] _ := hP
  have hD : va_D A [(lq, .inr (1, [.null, .int 0, .int 0])), (nq, .inl (cI, 8, .inl (nF (nu (nu (nu (nu (nu (nu (fun _ => 0) 0 1) 1 1) 2 1) 3 1) 4 1) 5 1))))] := hD
  refine lv_dup hx hb dX1_init_33 rfl ?_
  refine lv_bipush (v := nI (6)) hx hb dX1_init_34 (by decide) ?_
  refine lv_iconst (v := nI (1)) hx hb dX1_init_36 (by decide) ?_
  refine r_iastN (i := 6) hx hb hKB.1 hP hD hS 1 0 rfl rfl (by omega) (by decide) dX1_init_37 (fun H locs hP hD hS => ?_)
  have hP : va_P D vwCl [(lq, .inr (1, [.null, .int 0, .int 0])), (nq, .inl (cI, 8, .inl (nF (nu (nu (nu (nu (nu (nu (nu (fun _ => 0) 0 1) 1 1) 2 1) 3 1) 4 1) 5 1) 6 1))))] _ := hP
  have hD : va_D A [(lq, .inr (1, [.null, .int 0, .int 0])), (nq, .inl (cI, 8, .inl (nF (nu (nu (nu (nu (nu (nu (nu (fun _ => 0) 0 1) 1 1) 2 1) 3 1) 4 1) 5 1) 6 1))))] := hD
  refine lv_dup hx hb dX1_init_38 rfl ?_
  refine lv_bipush (v := nI (7)) hx hb dX1_init_39 (by decide) ?_
  refine lv_iconst (v := nI (1)) hx hb dX1_init_41 (by decide) ?_
  refine r_iastN (i := 7) hx hb hKB.1 hP hD hS 1 0 rfl rfl (by omega) (by decide) dX1_init_42 (fun H locs hP hD hS => ?_)
  have hP : va_P D vwCl [(lq, .inr (1, [.null, .int 0, .int 0])), (nq, .inl (cI, 8, .inl (nF (nu (nu (nu (nu (nu (nu (nu (nu (fun _ => 0) 0 1) 1 1) 2 1) 3 1) 4 1) 5 1) 6 1) 7 1))))] _ := hP
  have hD : va_D A [(lq, .inr (1, [.null, .int 0, .int 0])), (nq, .inl (cI, 8, .inl (nF (nu (nu (nu (nu (nu (nu (nu (nu (fun _ => 0) 0 1) 1 1) 2 1) 3 1) 4 1) 5 1) 6 1) 7 1))))] := hD
  refine va_putF (D := D) (ci := 1) (v := .ref nq) (ty := .array .int) (C := RX1) (T := TX1) (N := 3) hx hb hts hiX1 tyX1 tyX1_ok nmX1 hown hKB.1 hP hD hS 0 rfl rfl 0 (by decide) fl9 (fun _ h9 => h9) rfl hnm rfl (by decide +kernel) rfl rfl (Nat.le_of_ble_eq_true rfl) dX1_init_43 (fun H locs hP hD hS => ?_)
  have hP : va_P D vwCl [(lq, .inr (1, [.ref nq, .int 0, .int 0])), (nq, .inl (cI, 8, .inl (nF (nu (nu (nu (nu (nu (nu (nu (nu (fun _ => 0) 0 1) 1 1) 2 1) 3 1) 4 1) 5 1) 6 1) 7 1))))] _ := hP
  have hD : va_D A [(lq, .inr (1, [.ref nq, .int 0, .int 0])), (nq, .inl (cI, 8, .inl (nF (nu (nu (nu (nu (nu (nu (nu (nu (fun _ => 0) 0 1) 1 1) 2 1) 3 1) 4 1) 5 1) 6 1) 7 1))))] := hD
  refine lv_aload_n hx hb dX1_init_46 rfl (lv_at hl 0 rfl) ?_
  refine lv_iconst (v := nI (1)) hx hb dX1_init_47 (by decide) ?_
  refine va_put (D := D) (ci := 1) (v := .int (nI 1)) (ty := .int) (C := RX1) (T := TX1) (N := 3) hx hb hts hiX1 tyX1 tyX1_ok nmX1 hown hKB.1 hP hD hS 0 rfl rfl 1 (by decide) fl15 (fun _ h9 => h9) rfl (by decide +kernel) rfl rfl (Nat.le_of_ble_eq_true rfl) dX1_init_48 (fun H locs hP hD hS => ?_)
  have hP : va_P D vwCl [(lq, .inr (1, [.ref nq, .int (nI 1), .int 0])), (nq, .inl (cI, 8, .inl (nF (nu (nu (nu (nu (nu (nu (nu (nu (fun _ => 0) 0 1) 1 1) 2 1) 3 1) 4 1) 5 1) 6 1) 7 1))))] _ := hP
  have hD : va_D A [(lq, .inr (1, [.ref nq, .int (nI 1), .int 0])), (nq, .inl (cI, 8, .inl (nF (nu (nu (nu (nu (nu (nu (nu (nu (fun _ => 0) 0 1) 1 1) 2 1) 3 1) 4 1) 5 1) 6 1) 7 1))))] := hD
  refine lv_aload_n hx hb dX1_init_51 rfl (lv_at hl 0 rfl) ?_
  refine lv_iconst (v := nI (0)) hx hb dX1_init_52 (by decide) ?_
  refine va_put (D := D) (ci := 1) (v := .int (nI 0)) (ty := .int) (C := RX1) (T := TX1) (N := 3) hx hb hts hiX1 tyX1 tyX1_ok nmX1 hown hKB.1 hP hD hS 0 rfl rfl 2 (by decide) fl19 (fun _ h9 => h9) rfl (by decide +kernel) rfl rfl (Nat.le_of_ble_eq_true rfl) dX1_init_53 (fun H locs hP hD hS => ?_)
  have hP : va_P D vwCl [(lq, .inr (1, [.ref nq, .int (nI 1), .int (nI 0)])), (nq, .inl (cI, 8, .inl (nF (nu (nu (nu (nu (nu (nu (nu (nu (fun _ => 0) 0 1) 1 1) 2 1) 3 1) 4 1) 5 1) 6 1) 7 1))))] _ := hP
  have hD : va_D A [(lq, .inr (1, [.ref nq, .int (nI 1), .int (nI 0)])), (nq, .inl (cI, 8, .inl (nF (nu (nu (nu (nu (nu (nu (nu (nu (fun _ => 0) 0 1) 1 1) 2 1) 3 1) 4 1) 5 1) 6 1) 7 1))))] := hD
  exact w_vret hx hb hr hlk hQ hAe nq hP hD hS (trivial) dX1_init_56

set_option maxHeartbeats 4000000 in
set_option maxRecDepth 100000 in
theorem m_X1_likenessBy (l : Launch) (D : va_G) (cI cJ : ClassId) (lq : Nat) (nq : Nat) (slip : Nat) (kd : Nat) (num : Nat → Nat) (t : Nat) (sh : Nat) (ot : Nat) (ht : t < 8) (hsl : slip ≤ 12) (hnum : ∀ j, j < 8 → num j < 10) (hsh : sh < 2 ^ 31) (hot : ot < 2 ^ 31) : Met l yX1_likenessBy wsX1_likenessBy ({ frames := 1, cells := 0, slots := 0, locals := 25 }) (PR D cI cJ [(lq, .inr (1, [.ref nq, .int (nI slip), .int (nI kd)])), (nq, .inl (cI, 8, .inl (nF num)))] [.ref lq, .int (nI t), .int (nI sh), .int (nI ot)]) (QRl (fun r => r = lN (num t * pw (12 - slip) sh * pw slip ot))) 0 0 NA := by
  refine met_R (cc := cX1_likenessBy) (maxL := 4) (ret := (some .long)) (by decide) rfl (Nat.le_of_ble_eq_true rfl) ?_
  intro p e s m args below meth c Q ls hQ hAt hKB hP hl
  obtain ⟨hx, hb, hr, hml, hlk, hts, hown, hnm⟩ := hAt
  have hown : s.vm.findClass RX1 = some m.cls := hown
  have hS : va_S NA s.heap s.heap [] := va_S.rf
  have hl : lv_has ls 4 [(0, .ref lq), (1, .int (nI t)), (2, .int (nI sh)), (3, .int (nI ot))] := hl
  have hiX1 : ∀ w ∈ u_ws RX1 TX1 3, w ∈ wsX1_likenessBy := by decide +kernel
  have fl9 := hts (.fieldLink RX1 9 "TaughtTongues$Learner" "numbers" "[I") (by decide +kernel)
  have fl15 := hts (.fieldLink RX1 15 "TaughtTongues$Learner" "slip" "I") (by decide +kernel)
  have inX5 := hts (.initialized RX5) (by decide +kernel)
  have st_X5_power := hts (.static yX5_power) (by decide +kernel)
  refine lv_aload_n hx hb dX1_likenessBy_0 rfl (lv_at hl 0 rfl) ?_
  refine va_get (D := D) (ci := 1) (v := .ref nq) (C := RX1) (T := TX1) (N := 3) hx hb hts hiX1 hown hKB.1 hP 0 rfl rfl 0 (by decide) fl9 (fun _ h9 => h9) rfl dX1_likenessBy_1 ?_
  refine lv_iload_n hx hb dX1_likenessBy_4 rfl (lv_at hl 1 rfl) ?_
  refine r_iald (i := t) (v := nI (num t)) hx hb hKB.1 hP 1 0 rfl rfl (by omega) (by decide) (rfl) dX1_likenessBy_5 ?_
  refine r_i2l (a := num t) hx hb dX1_likenessBy_6 (by have := hnum t ht; omega) ?_
  refine lv_bipush (v := nI (12)) hx hb dX1_likenessBy_7 (by decide) ?_
  refine lv_aload_n hx hb dX1_likenessBy_9 rfl (lv_at hl 0 rfl) ?_
  refine va_get (D := D) (ci := 1) (v := .int (nI slip)) (C := RX1) (T := TX1) (N := 3) hx hb hts hiX1 hown hKB.1 hP 0 rfl rfl 1 (by decide) fl15 (fun _ h9 => h9) rfl dX1_likenessBy_10 ?_
  refine r_isub (a := 12) (b := slip) hx hb dX1_likenessBy_13 (by omega) ?_
  refine r_i2l (a := 12 - slip) hx hb dX1_likenessBy_14 (by omega) ?_
  refine lv_iload_n hx hb dX1_likenessBy_15 rfl (lv_at hl 2 rfl) ?_
  have hPc := hP.sub (ws' := []) [] rfl
  refine r_calll hP hS (va_runSN (As := [.long (lN (12 - slip)), .int (nI sh)]) (rest := [.long (lN (num t))]) ⟨hx, hb, hml, hown, hts⟩ (m_X5_power l D cI cJ (12 - slip) sh (by omega)) (⟨va_cnB 2 hts gX1_likenessBy_X5_power_n35 rfl rfl rfl (hKB.2.m (q := ("TaughtTongues$Learner", 35, yX5_power)) 4 rfl) inX5 (by decide +kernel) ⟨Nat.le_of_ble_eq_true rfl, Nat.le_of_ble_eq_true rfl⟩, st_X5_power, trivial⟩) ⟨PR.blind, fun U hU hW => ⟨rfl, hKB.warm hW, by rw [hU]; exact hPc⟩⟩ rfl rfl hl.1 rfl (lv_room (Nat.le_of_ble_eq_true rfl)) dX1_likenessBy_16 ⟨Nat.le_of_ble_eq_true rfl, Nat.le_of_ble_eq_true rfl⟩) (fun r1 H locs hw16 hP hS => ?_)
  have hw16 : r1 = lN (pw (12 - slip) sh) := hw16
  subst hw16
  refine r_lmul (a := num t) (b := pw (12 - slip) sh) hx hb dX1_likenessBy_19  ?_
  refine lv_aload_n hx hb dX1_likenessBy_20 rfl (lv_at hl 0 rfl) ?_
  refine va_get (D := D) (ci := 1) (v := .int (nI slip)) (C := RX1) (T := TX1) (N := 3) hx hb hts hiX1 hown hKB.1 hP 0 rfl rfl 1 (by decide) fl15 (fun _ h9 => h9) rfl dX1_likenessBy_21 ?_
  refine r_i2l (a := slip) hx hb dX1_likenessBy_24 (by omega) ?_
  refine lv_iload_n hx hb dX1_likenessBy_25 rfl (lv_at hl 3 rfl) ?_
  have hPc := hP.sub (ws' := []) [] rfl
  refine r_calll hP hS (va_runSN (As := [.long (lN slip), .int (nI ot)]) (rest := [.long (lN ((num t) * (pw (12 - slip) sh)))]) ⟨hx, hb, hml, hown, hts⟩ (m_X5_power l D cI cJ slip ot (by omega)) (⟨va_cnB 2 hts gX1_likenessBy_X5_power_n35 rfl rfl rfl (hKB.2.m (q := ("TaughtTongues$Learner", 35, yX5_power)) 4 rfl) inX5 (by decide +kernel) ⟨Nat.le_of_ble_eq_true rfl, Nat.le_of_ble_eq_true rfl⟩, st_X5_power, trivial⟩) ⟨PR.blind, fun U hU hW => ⟨rfl, hKB.warm hW, by rw [hU]; exact hPc⟩⟩ rfl rfl hl.1 rfl (lv_room (Nat.le_of_ble_eq_true rfl)) dX1_likenessBy_26 ⟨Nat.le_of_ble_eq_true rfl, Nat.le_of_ble_eq_true rfl⟩) (fun r2 H locs hw26 hP hS => ?_)
  have hw26 : r2 = lN (pw slip ot) := hw26
  subst hw26
  refine r_lmul (a := (num t) * (pw (12 - slip) sh)) (b := pw slip ot) hx hb dX1_likenessBy_29  ?_
  exact r_lret hx hb hr hlk hQ hS (rfl) dX1_likenessBy_30

set_option maxHeartbeats 4000000 in
set_option maxRecDepth 100000 in
theorem m_X1_likenessOf (l : Launch) (D : va_G) (cI cJ : ClassId) (lq : Nat) (nq : Nat) (slip : Nat) (kd : Nat) (num : Nat → Nat) (cq : Nat) (tq : Nat) (al : Nat) (tn : Nat → Nat) (t : Nat) (ht : t < 8) (hsl : slip ≤ 12) (hnum : ∀ j, j < 8 → num j < 10) (hal : al ≤ 6) (hsh : ∀ j, j < 8 → shw tn j 3 ≤ al) : Met l yX1_likenessOf wsX1_likenessOf ({ frames := 2, cells := 0, slots := 0, locals := 48 }) (PR D cI cJ [(lq, .inr (1, [.ref nq, .int (nI slip), .int (nI kd)])), (nq, .inl (cI, 8, .inl (nF num))), (cq, .inr (0, [.ref tq, .int (nI al)])), (tq, .inl (cI, 6, .inl (nF tn)))] [.ref lq, .int (nI t), .ref cq]) (QRl (fun r => r = lN (lkC num slip tn al t))) 0 0 NA := by
  refine met_R (cc := cX1_likenessOf) (maxL := 4) (ret := (some .long)) (by decide) rfl (Nat.le_of_ble_eq_true rfl) ?_
  intro p e s m args below meth c Q ls hQ hAt hKB hP hl
  obtain ⟨hx, hb, hr, hml, hlk, hts, hown, hnm⟩ := hAt
  have hown : s.vm.findClass RX1 = some m.cls := hown
  have hS : va_S NA s.heap s.heap [] := va_S.rf
  have hl : lv_has ls 4 [(0, .ref lq), (1, .int (nI t)), (2, .ref cq)] := hl
  have hiX0 : ∀ w ∈ u_ws RX0 TX0 2, w ∈ wsX1_likenessOf := by decide +kernel
  have hs1 := hsh t ht
  refine lv_aload_n hx hb dX1_likenessOf_0 rfl (lv_at hl 2 rfl) ?_
  refine lv_iload_n hx hb dX1_likenessOf_1 rfl (lv_at hl 1 rfl) ?_
  have hPc := hP.sub (ws' := [(cq, .inr (0, [.ref tq, .int (nI al)])), (tq, .inl (cI, 6, .inl (nF tn)))]) [2, 3] rfl
  refine r_calli hP hS (va_runV (As := [.int (nI t)]) (rest := []) ⟨hx, hb, hml, hown, hts⟩ (m_X0_sharedWith l D cI cJ cq tq al tn t (by omega)) (cwV 1 hts gX1_likenessOf_X0_sharedWith rfl rfl rfl (by decide +kernel) ⟨Nat.le_of_ble_eq_true rfl, Nat.le_of_ble_eq_true rfl⟩) ⟨PR.blind, va_recv hKB.1 hP (ci := 0) (q0 := 2) rfl rfl, fun U hU hW => ⟨rfl, hKB.warm hW, by rw [hU]; exact hPc⟩⟩ rfl rfl hl.1 rfl (lv_room (Nat.le_of_ble_eq_true rfl)) dX1_likenessOf_2 ⟨Nat.le_of_ble_eq_true rfl, Nat.le_of_ble_eq_true rfl⟩) (fun r1 H locs hw2 hP hS => ?_)
  have hw2 : r1 = nI (shw tn t 3) := hw2
  subst hw2
  refine lv_istore_n (lv' := [(3, .int (nI (shw tn t 3))), (0, .ref lq), (1, .int (nI t)), (2, .ref cq)]) hx hb dX1_likenessOf_5 rfl hl (by decide) rfl (fun ls hl => ?_)
  refine lv_aload_n hx hb dX1_likenessOf_6 rfl (lv_at hl 1 rfl) ?_
  refine lv_iload_n hx hb dX1_likenessOf_7 rfl (lv_at hl 2 rfl) ?_
  refine lv_iload_n hx hb dX1_likenessOf_8 rfl (lv_at hl 0 rfl) ?_
  refine lv_aload_n hx hb dX1_likenessOf_9 rfl (lv_at hl 3 rfl) ?_
  refine va_getN (D := D) (ci := 0) (v := .int (nI al)) (C := RX0) (T := TX0) (N := 2) hx hb hts hiX0 hown hKB.1 hP 2 rfl rfl 1 (by decide) (hKB.2.f (q := ("TaughtTongues$Learner", 28, "TaughtTongues$Counts", "all", "I")) 8 rfl) (fun _ h9 => h9) rfl dX1_likenessOf_10 ?_
  refine lv_iload_n hx hb dX1_likenessOf_13 rfl (lv_at hl 0 rfl) ?_
  refine r_isub (a := al) (b := shw tn t 3) hx hb dX1_likenessOf_14 (by omega) ?_
  have hPc := hP.sub (ws' := [(lq, .inr (1, [.ref nq, .int (nI slip), .int (nI kd)])), (nq, .inl (cI, 8, .inl (nF num)))]) [0, 1] rfl
  refine r_calll hP hS (va_runV (As := [.int (nI t), .int (nI (shw tn t 3)), .int (nI (al - (shw tn t 3)))]) (rest := []) ⟨hx, hb, hml, hown, hts⟩ (m_X1_likenessBy l D cI cJ lq nq slip kd num t (shw tn t 3) (al - (shw tn t 3)) (by omega) (by assumption) (by assumption) (by omega) (by omega)) (cwV 3 hts gX1_likenessOf_X1_likenessBy rfl rfl rfl (by decide +kernel) ⟨Nat.le_of_ble_eq_true rfl, Nat.le_of_ble_eq_true rfl⟩) ⟨PR.blind, va_recv hKB.1 hP (ci := 1) (q0 := 0) rfl rfl, fun U hU hW => ⟨rfl, hKB.warm hW, by rw [hU]; exact hPc⟩⟩ rfl rfl hl.1 rfl (lv_room (Nat.le_of_ble_eq_true rfl)) dX1_likenessOf_15 ⟨Nat.le_of_ble_eq_true rfl, Nat.le_of_ble_eq_true rfl⟩) (fun r2 H locs hw15 hP hS => ?_)
  have hw15 : r2 = lN (num t * pw (12 - slip) (shw tn t 3) * pw slip (al - (shw tn t 3))) := hw15
  subst hw15
  exact r_lret hx hb hr hlk hQ hS (rfl) dX1_likenessOf_18

set_option maxHeartbeats 4000000 in
set_option maxRecDepth 100000 in
theorem m_X1_isRather (l : Launch) (D : va_G) (cI cJ : ClassId) (lq : Nat) (nq : Nat) (slip : Nat) (kd : Nat) (t : Nat) (b : Nat) (ht : t < 8) (hb2 : b < 8) (hkd : kd < 3) : Met l yX1_isRather wsX1_isRather ({ frames := 1, cells := 0, slots := 0, locals := 20 }) (PR D cI cJ [(lq, .inr (1, [.ref nq, .int (nI slip), .int (nI kd)]))] [.ref lq, .int (nI t), .int (nI b)]) (QRi (fun r => r = bI (isR kd t b))) 0 0 NA := by
  refine met_R (cc := cX1_isRather) (maxL := 3) (ret := (some .boolean)) (by decide) rfl (Nat.le_of_ble_eq_true rfl) ?_
  intro p e s m args below meth c Q ls hQ hAt hKB hP hl
  obtain ⟨hx, hb, hr, hml, hlk, hts, hown, hnm⟩ := hAt
  have hown : s.vm.findClass RX1 = some m.cls := hown
  have hS : va_S NA s.heap s.heap [] := va_S.rf
  have hl : lv_has ls 3 [(0, .ref lq), (1, .int (nI t)), (2, .int (nI b))] := hl
  have hiX1 : ∀ w ∈ u_ws RX1 TX1 3, w ∈ wsX1_isRather := by decide +kernel
  have fl19 := hts (.fieldLink RX1 19 "TaughtTongues$Learner" "kind" "I") (by decide +kernel)
  refine lv_aload_n hx hb dX1_isRather_0 rfl (lv_at hl 0 rfl) ?_
  refine va_get (D := D) (ci := 1) (v := .int (nI kd)) (C := RX1) (T := TX1) (N := 3) hx hb hts hiX1 hown hKB.1 hP 0 rfl rfl 2 (by decide) fl19 (fun _ h9 => h9) rfl dX1_isRather_1 ?_
  refine lv_iconst (v := nI (2)) hx hb dX1_isRather_4 (by decide) ?_
  refine r_icmp_ne (a := kd) (b := 2) (tgt := 23) hx hb dX1_isRather_5 (by decide) (by omega) (by omega)  (fun c5 => ?_) (fun c5 => ?_)
  · skip
    refine lv_iconst (v := nI (0)) hx hb dX1_isRather_23 (by decide) ?_
    exact r_zret (b := false) hx hb hr hlk hQ hS rfl (by first | rw [show isR kd t b = false from isR_f1 c5] | rw [show isR kd t b = false from isR_f2 c16]) dX1_isRather_24
  refine lv_iload_n hx hb dX1_isRather_8 rfl (lv_at hl 1 rfl) ?_
  have hPc := hP.sub (ws' := []) [] rfl
  refine r_calli hP hS (va_runS (As := [.int (nI t)]) (rest := []) ⟨hx, hb, hml, hown, hts⟩ (m_J6_bitCount_0f7a4 l D cI cJ t (by omega)) (va_cwS 1 hts gX1_isRather_J6_bitCount_0f7a4 rfl rfl rfl (by decide +kernel) ⟨Nat.le_of_ble_eq_true rfl, Nat.le_of_ble_eq_true rfl⟩) ⟨PR.blind, fun U hU hW => ⟨rfl, hKB.warm hW, by rw [hU]; exact hPc⟩⟩ rfl rfl hl.1 rfl (lv_room (Nat.le_of_ble_eq_true rfl)) dX1_isRather_9 ⟨Nat.le_of_ble_eq_true rfl, Nat.le_of_ble_eq_true rfl⟩) (fun r1 H locs hw9 hP hS => ?_)
  have hw9 : r1 = nI (on t) := hw9
  subst hw9
  refine lv_iload_n hx hb dX1_isRather_12 rfl (lv_at hl 2 rfl) ?_
  have hPc := hP.sub (ws' := []) [] rfl
  refine r_calli hP hS (va_runS (As := [.int (nI b)]) (rest := [.int (nI (on t))]) ⟨hx, hb, hml, hown, hts⟩ (m_J6_bitCount_0f7a4 l D cI cJ b (by omega)) (va_cwS 1 hts gX1_isRather_J6_bitCount_0f7a4 rfl rfl rfl (by decide +kernel) ⟨Nat.le_of_ble_eq_true rfl, Nat.le_of_ble_eq_true rfl⟩) ⟨PR.blind, fun U hU hW => ⟨rfl, hKB.warm hW, by rw [hU]; exact hPc⟩⟩ rfl rfl hl.1 rfl (lv_room (Nat.le_of_ble_eq_true rfl)) dX1_isRather_13 ⟨Nat.le_of_ble_eq_true rfl, Nat.le_of_ble_eq_true rfl⟩) (fun r2 H locs hw13 hP hS => ?_)
  have hw13 : r2 = nI (on b) := hw13
  subst hw13
  refine r_icmp_ge (a := on t) (b := on b) (tgt := 23) hx hb dX1_isRather_16 (by decide) (by have := on_lt t; omega) (by have := on_lt b; omega)  (fun c16 => ?_) (fun c16 => ?_)
  · skip
    refine lv_iconst (v := nI (0)) hx hb dX1_isRather_23 (by decide) ?_
    exact r_zret (b := false) hx hb hr hlk hQ hS rfl (by first | rw [show isR kd t b = false from isR_f1 c5] | rw [show isR kd t b = false from isR_f2 c16]) dX1_isRather_24
  refine lv_iconst (v := nI (1)) hx hb dX1_isRather_19 (by decide) ?_
  refine lv_goto (tgt := 24) hx hb dX1_isRather_20 (by decide) ?_
  exact r_zret (b := true) hx hb hr hlk hQ hS rfl (by rw [show isR kd t b = true from isR_t c5 c16]) dX1_isRather_24

set_option maxHeartbeats 4000000 in
set_option maxRecDepth 100000 in
theorem m_X1_choice (l : Launch) (D : va_G) (cI cJ : ClassId) (lq : Nat) (nq : Nat) (slip : Nat) (kd : Nat) (num : Nat → Nat) (cq : Nat) (tq : Nat) (al : Nat) (tn : Nat → Nat) (hsl : slip ≤ 12) (hnum : ∀ j, j < 8 → num j < 10) (hal : al ≤ 6) (hsh : ∀ j, j < 8 → shw tn j 3 ≤ al) (hkd : kd < 3) : Met l yX1_choice wsX1_choice ({ frames := 2, cells := 0, slots := 0, locals := 48 }) (PR D cI cJ [(lq, .inr (1, [.ref nq, .int (nI slip), .int (nI kd)])), (nq, .inl (cI, 8, .inl (nF num))), (cq, .inr (0, [.ref tq, .int (nI al)])), (tq, .inl (cI, 6, .inl (nF tn)))] [.ref lq, .ref cq]) (QRi (fun r => r = nI (tk (lkC num slip tn al) kd (fun t => decide (shw tn t 3 = al))))) 0 0 NA := by
  refine met_R (cc := cX1_choice) (maxL := 9) (ret := (some .int)) (by decide) rfl (Nat.le_of_ble_eq_true rfl) ?_
  intro p e s m args below meth c Q ls hQ hAt hKB hP hl
  obtain ⟨hx, hb, hr, hml, hlk, hts, hown, hnm⟩ := hAt
  have hown : s.vm.findClass RX1 = some m.cls := hown
  have hS : va_S NA s.heap s.heap [] := va_S.rf
  have hl : lv_has ls 9 [(0, .ref lq), (1, .ref cq)] := hl
  have kl39 := hts (.constantLong RX1 39 ((-1))) (by decide +kernel)
  have hiX1 : ∀ w ∈ u_ws RX1 TX1 3, w ∈ wsX1_choice := by decide +kernel
  have fl19 := hts (.fieldLink RX1 19 "TaughtTongues$Learner" "kind" "I") (by decide +kernel)
  have hiX0 : ∀ w ∈ u_ws RX0 TX0 2, w ∈ wsX1_choice := by decide +kernel
  have hlb : ∀ t, t < 8 → lkC num slip tn al t < 2 ^ 63 := fun t ht => lkC_lt (hnum t ht) hsl hal (hsh t ht)
  refine lv_iconst (v := nI (0)) hx hb dX1_choice_0 (by decide) ?_
  refine lv_istore_n (lv' := [(2, .int (nI 0)), (0, .ref lq), (1, .ref cq)]) hx hb dX1_choice_1 rfl hl (by decide) rfl (fun ls hl => ?_)
  refine lv_ldc2 hx hb hown kl39 dX1_choice_2 ?_
  refine lv_lstore_n (lv' := [(3, .long ((-1))), (2, .int (nI 0)), (0, .ref lq), (1, .ref cq)]) hx hb dX1_choice_5 rfl hl (by decide) rfl (fun ls hl => ?_)
  refine lv_iconst (v := nI (0)) hx hb dX1_choice_6 (by decide) ?_
  refine lv_istore (lv' := [(5, .int (nI 0)), (3, .long ((-1))), (2, .int (nI 0)), (0, .ref lq), (1, .ref cq)]) hx hb dX1_choice_7 hl (by decide) rfl (fun ls hl => ?_)
  have L9 : ∀ (n : Nat) (k : Nat) (best : Nat) (most : Int64) (H : Heap) (locs : List Loc) (ls : Array Slot), 8 - k < n → (k ≤ 8) → (best < 8) → (kd = 1 → ∀ j, j < k → (fun t => decide (shw tn t 3 = al)) j = false) → (chI (lkC num slip tn al) kd k best most) → va_P D vwCl [(lq, .inr (1, [.ref nq, .int (nI slip), .int (nI kd)])), (nq, .inl (cI, 8, .inl (nF num))), (cq, .inr (0, [.ref tq, .int (nI al)])), (tq, .inl (cI, 6, .inl (nF tn)))] H → va_S NA s.heap H locs → lv_has ls 9 [(5, .int (nI k)), (3, .long most), (2, .int (nI best)), (0, .ref lq), (1, .ref cq)] → W p l e ({ frames := 2, cells := 0, slots := 0, locals := 48 }) s m args below meth c H locs 0 0 Q (F0 m 9 ls []) := by
    intro n
    induction n with
    | zero => intro k best most H locs ls hm; exact absurd hm (Nat.not_lt_zero _)
    | succ n ih9 =>
      intro k best most H locs ls hm hk hb8 hlz hst hP hS hl
      refine lv_iload hx hb dX1_choice_9 (lv_at hl 0 rfl) ?_
      refine lv_bipush (v := nI (8)) hx hb dX1_choice_11 (by decide) ?_
      refine r_icmp_ge (a := k) (b := 8) (tgt := 97) hx hb dX1_choice_13 (by decide) (by omega) (by omega)  (fun c13 => ?_) (fun c13 => ?_)
      · skip
        refine lv_iload_n hx hb dX1_choice_97 rfl (lv_at hl 2 rfl) ?_
        exact r_iret hx hb hr hlk hQ hS (by rw [tk_bst (fun h j hj => hlz h j (by omega)), ch_end hst (by omega)]) dX1_choice_98
      have hs1 := hsh k c13
      refine lv_aload_n hx hb dX1_choice_16 rfl (lv_at hl 4 rfl) ?_
      refine lv_iload hx hb dX1_choice_17 (lv_at hl 0 rfl) ?_
      have hPc := hP.sub (ws' := [(cq, .inr (0, [.ref tq, .int (nI al)])), (tq, .inl (cI, 6, .inl (nF tn)))]) [2, 3] rfl
      refine r_calli hP hS (va_runV (As := [.int (nI k)]) (rest := []) ⟨hx, hb, hml, hown, hts⟩ (m_X0_sharedWith l D cI cJ cq tq al tn k (by omega)) (cwV 1 hts gX1_choice_X0_sharedWith rfl rfl rfl (by decide +kernel) ⟨Nat.le_of_ble_eq_true rfl, Nat.le_of_ble_eq_true rfl⟩) ⟨PR.blind, va_recv hKB.1 hP (ci := 0) (q0 := 2) rfl rfl, fun U hU hW => ⟨rfl, hKB.warm hW, by rw [hU]; exact hPc⟩⟩ rfl rfl hl.1 rfl (lv_room (Nat.le_of_ble_eq_true rfl)) dX1_choice_19 ⟨Nat.le_of_ble_eq_true rfl, Nat.le_of_ble_eq_true rfl⟩) (fun r1 H locs hw19 hP hS => ?_)
      have hw19 : r1 = nI (shw tn k 3) := hw19
      subst hw19
      refine lv_istore (lv' := [(6, .int (nI (shw tn k 3))), (5, .int (nI k)), (3, .long most), (2, .int (nI best)), (0, .ref lq), (1, .ref cq)]) hx hb dX1_choice_22 hl (by decide) rfl (fun ls hl => ?_)
      refine lv_aload_n hx hb dX1_choice_24 rfl (lv_at hl 4 rfl) ?_
      refine va_get (D := D) (ci := 1) (v := .int (nI kd)) (C := RX1) (T := TX1) (N := 3) hx hb hts hiX1 hown hKB.1 hP 0 rfl rfl 2 (by decide) fl19 (fun _ h9 => h9) rfl dX1_choice_25 ?_
      refine lv_iconst (v := nI (1)) hx hb dX1_choice_28 (by decide) ?_
      refine r_icmp_ne (a := kd) (b := 1) (tgt := 44) hx hb dX1_choice_29 (by decide) (by omega) (by omega)  (fun c29 => ?_) (fun c29 => ?_)
      · skip
        refine lv_aload_n hx hb dX1_choice_44 rfl (lv_at hl 4 rfl) ?_
        refine lv_iload hx hb dX1_choice_45 (lv_at hl 1 rfl) ?_
        refine lv_iload hx hb dX1_choice_47 (lv_at hl 0 rfl) ?_
        refine lv_aload_n hx hb dX1_choice_49 rfl (lv_at hl 5 rfl) ?_
        refine va_getN (D := D) (ci := 0) (v := .int (nI al)) (C := RX0) (T := TX0) (N := 2) hx hb hts hiX0 hown hKB.1 hP 2 rfl rfl 1 (by decide) (hKB.2.f (q := ("TaughtTongues$Learner", 28, "TaughtTongues$Counts", "all", "I")) 8 rfl) (fun _ h9 => h9) rfl dX1_choice_50 ?_
        refine lv_iload hx hb dX1_choice_53 (lv_at hl 0 rfl) ?_
        refine r_isub (a := al) (b := shw tn k 3) hx hb dX1_choice_55 (by omega) ?_
        have hPc := hP.sub (ws' := [(lq, .inr (1, [.ref nq, .int (nI slip), .int (nI kd)])), (nq, .inl (cI, 8, .inl (nF num)))]) [0, 1] rfl
        refine r_calll hP hS (va_runV (As := [.int (nI k), .int (nI (shw tn k 3)), .int (nI (al - (shw tn k 3)))]) (rest := []) ⟨hx, hb, hml, hown, hts⟩ (m_X1_likenessBy l D cI cJ lq nq slip kd num k (shw tn k 3) (al - (shw tn k 3)) (by omega) (by assumption) (by assumption) (by omega) (by omega)) (cwV 3 hts gX1_choice_X1_likenessBy rfl rfl rfl (by decide +kernel) ⟨Nat.le_of_ble_eq_true rfl, Nat.le_of_ble_eq_true rfl⟩) ⟨PR.blind, va_recv hKB.1 hP (ci := 1) (q0 := 0) rfl rfl, fun U hU hW => ⟨rfl, hKB.warm hW, by rw [hU]; exact hPc⟩⟩ rfl rfl hl.1 rfl (lv_room (Nat.le_of_ble_eq_true rfl)) dX1_choice_56 ⟨Nat.le_of_ble_eq_true rfl, Nat.le_of_ble_eq_true rfl⟩) (fun r2 H locs hw56 hP hS => ?_)
        have hw56 : r2 = lN (num k * pw (12 - slip) (shw tn k 3) * pw slip (al - (shw tn k 3))) := hw56
        subst hw56
        refine lv_topl (fun z3 ez3 => ?_)
        obtain rfl : z3 = lN (lkC num slip tn al k) := ez3.trans (rfl)
        refine lv_lstore (lv' := [(7, .long (lN (lkC num slip tn al k))), (6, .int (nI (shw tn k 3))), (5, .int (nI k)), (3, .long most), (2, .int (nI best)), (0, .ref lq), (1, .ref cq)]) hx hb dX1_choice_59 hl (by decide) rfl (fun ls hl => ?_)
        refine lv_lload hx hb dX1_choice_61 (lv_at hl 0 rfl) ?_
        refine lv_lload_n hx hb dX1_choice_63 rfl (lv_at hl 3 rfl) ?_
        refine r_lcmp_gt (x := lN (lkC num slip tn al k)) (y := most) (tgt := 85) hx hb dX1_choice_64 dX1_choice_65 (by decide) (fun c64 => ?_) (fun c64 => ?_)
        · skip
          refine lv_iload hx hb dX1_choice_85 (lv_at hl 2 rfl) ?_
          refine lv_istore_n (lv' := [(2, .int (nI k)), (7, .long (lN (lkC num slip tn al k))), (6, .int (nI (shw tn k 3))), (5, .int (nI k)), (3, .long most), (0, .ref lq), (1, .ref cq)]) hx hb dX1_choice_87 rfl hl (by decide) rfl (fun ls hl => ?_)
          refine lv_lload hx hb dX1_choice_88 (lv_at hl 1 rfl) ?_
          refine lv_lstore_n (lv' := [(3, .long (lN (lkC num slip tn al k))), (2, .int (nI k)), (7, .long (lN (lkC num slip tn al k))), (6, .int (nI (shw tn k 3))), (5, .int (nI k)), (0, .ref lq), (1, .ref cq)]) hx hb dX1_choice_90 rfl hl (by decide) rfl (fun ls hl => ?_)
          refine lv_iinc (v := nI (k + 1)) (lv' := [(5, .int (nI (k + 1))), (3, .long (lN (lkC num slip tn al k))), (2, .int (nI k)), (7, .long (lN (lkC num slip tn al k))), (6, .int (nI (shw tn k 3))), (0, .ref lq), (1, .ref cq)]) hx hb dX1_choice_91 hl (k := 4) rfl (n_inc _ 1) (by decide) rfl (fun ls hl => ?_)
          refine lv_goto (tgt := 9) hx hb dX1_choice_94 (by decide) ?_
          exact ih9 (k + 1) k (lN (lkC num slip tn al k)) _ _ _ (by omega) (by omega) (by omega) (lz_s hlz (fun h => by first | exact absurd h c29 | exact decide_eq_false c38)) (by first | exact ch_up hlb c13 hst (Or.inl c64) | exact ch_up hlb c13 hst (Or.inr ⟨c71, c82⟩) | exact ch_no hlb c13 hst c64 (Or.inl c71) | exact ch_no hlb c13 hst c64 (Or.inr c82)) hP hS (lv_sub hl [0, 1, 2, 5, 6] rfl)
        refine lv_lload hx hb dX1_choice_68 (lv_at hl 0 rfl) ?_
        refine lv_lload_n hx hb dX1_choice_70 rfl (lv_at hl 3 rfl) ?_
        refine r_lcmp_ne (x := lN (lkC num slip tn al k)) (y := most) (tgt := 91) hx hb dX1_choice_71 dX1_choice_72 (by decide) (fun c71 => ?_) (fun c71 => ?_)
        · skip
          refine lv_iinc (v := nI (k + 1)) (lv' := [(5, .int (nI (k + 1))), (7, .long (lN (lkC num slip tn al k))), (6, .int (nI (shw tn k 3))), (3, .long most), (2, .int (nI best)), (0, .ref lq), (1, .ref cq)]) hx hb dX1_choice_91 hl (k := 2) rfl (n_inc _ 1) (by decide) rfl (fun ls hl => ?_)
          refine lv_goto (tgt := 9) hx hb dX1_choice_94 (by decide) ?_
          exact ih9 (k + 1) best most _ _ _ (by omega) (by omega) (by omega) (lz_s hlz (fun h => by first | exact absurd h c29 | exact decide_eq_false c38)) (by first | exact ch_up hlb c13 hst (Or.inl c64) | exact ch_up hlb c13 hst (Or.inr ⟨c71, c82⟩) | exact ch_no hlb c13 hst c64 (Or.inl c71) | exact ch_no hlb c13 hst c64 (Or.inr c82)) hP hS (lv_sub hl [0, 3, 4, 5, 6] rfl)
        refine lv_aload_n hx hb dX1_choice_75 rfl (lv_at hl 5 rfl) ?_
        refine lv_iload hx hb dX1_choice_76 (lv_at hl 2 rfl) ?_
        refine lv_iload_n hx hb dX1_choice_78 rfl (lv_at hl 4 rfl) ?_
        have hPc := hP.sub (ws' := [(lq, .inr (1, [.ref nq, .int (nI slip), .int (nI kd)]))]) [0] rfl
        refine r_calli hP hS (va_runV (As := [.int (nI k), .int (nI best)]) (rest := []) ⟨hx, hb, hml, hown, hts⟩ (m_X1_isRather l D cI cJ lq nq slip kd k best (by omega) (by omega) (by omega)) (cwV 2 hts gX1_choice_X1_isRather rfl rfl rfl (by decide +kernel) ⟨Nat.le_of_ble_eq_true rfl, Nat.le_of_ble_eq_true rfl⟩) ⟨PR.blind, va_recv hKB.1 hP (ci := 1) (q0 := 0) rfl rfl, fun U hU hW => ⟨rfl, hKB.warm hW, by rw [hU]; exact hPc⟩⟩ rfl rfl hl.1 rfl (lv_room (Nat.le_of_ble_eq_true rfl)) dX1_choice_79 ⟨Nat.le_of_ble_eq_true rfl, Nat.le_of_ble_eq_true rfl⟩) (fun r4 H locs hw79 hP hS => ?_)
        have hw79 : r4 = bI (isR kd k best) := hw79
        subst hw79
        refine r_bif_eq (b := isR kd k best) (tgt := 91) hx hb dX1_choice_82 (by decide) (fun c82 => ?_) (fun c82 => ?_)
        · skip
          refine lv_iinc (v := nI (k + 1)) (lv' := [(5, .int (nI (k + 1))), (7, .long (lN (lkC num slip tn al k))), (6, .int (nI (shw tn k 3))), (3, .long most), (2, .int (nI best)), (0, .ref lq), (1, .ref cq)]) hx hb dX1_choice_91 hl (k := 2) rfl (n_inc _ 1) (by decide) rfl (fun ls hl => ?_)
          refine lv_goto (tgt := 9) hx hb dX1_choice_94 (by decide) ?_
          exact ih9 (k + 1) best most _ _ _ (by omega) (by omega) (by omega) (lz_s hlz (fun h => by first | exact absurd h c29 | exact decide_eq_false c38)) (by first | exact ch_up hlb c13 hst (Or.inl c64) | exact ch_up hlb c13 hst (Or.inr ⟨c71, c82⟩) | exact ch_no hlb c13 hst c64 (Or.inl c71) | exact ch_no hlb c13 hst c64 (Or.inr c82)) hP hS (lv_sub hl [0, 3, 4, 5, 6] rfl)
        refine lv_iload hx hb dX1_choice_85 (lv_at hl 2 rfl) ?_
        refine lv_istore_n (lv' := [(2, .int (nI k)), (7, .long (lN (lkC num slip tn al k))), (6, .int (nI (shw tn k 3))), (5, .int (nI k)), (3, .long most), (0, .ref lq), (1, .ref cq)]) hx hb dX1_choice_87 rfl hl (by decide) rfl (fun ls hl => ?_)
        refine lv_lload hx hb dX1_choice_88 (lv_at hl 1 rfl) ?_
        refine lv_lstore_n (lv' := [(3, .long (lN (lkC num slip tn al k))), (2, .int (nI k)), (7, .long (lN (lkC num slip tn al k))), (6, .int (nI (shw tn k 3))), (5, .int (nI k)), (0, .ref lq), (1, .ref cq)]) hx hb dX1_choice_90 rfl hl (by decide) rfl (fun ls hl => ?_)
        refine lv_iinc (v := nI (k + 1)) (lv' := [(5, .int (nI (k + 1))), (3, .long (lN (lkC num slip tn al k))), (2, .int (nI k)), (7, .long (lN (lkC num slip tn al k))), (6, .int (nI (shw tn k 3))), (0, .ref lq), (1, .ref cq)]) hx hb dX1_choice_91 hl (k := 4) rfl (n_inc _ 1) (by decide) rfl (fun ls hl => ?_)
        refine lv_goto (tgt := 9) hx hb dX1_choice_94 (by decide) ?_
        exact ih9 (k + 1) k (lN (lkC num slip tn al k)) _ _ _ (by omega) (by omega) (by omega) (lz_s hlz (fun h => by first | exact absurd h c29 | exact decide_eq_false c38)) (by first | exact ch_up hlb c13 hst (Or.inl c64) | exact ch_up hlb c13 hst (Or.inr ⟨c71, c82⟩) | exact ch_no hlb c13 hst c64 (Or.inl c71) | exact ch_no hlb c13 hst c64 (Or.inr c82)) hP hS (lv_sub hl [0, 1, 2, 5, 6] rfl)
      refine lv_iload hx hb dX1_choice_32 (lv_at hl 0 rfl) ?_
      refine lv_aload_n hx hb dX1_choice_34 rfl (lv_at hl 5 rfl) ?_
      refine va_getN (D := D) (ci := 0) (v := .int (nI al)) (C := RX0) (T := TX0) (N := 2) hx hb hts hiX0 hown hKB.1 hP 2 rfl rfl 1 (by decide) (hKB.2.f (q := ("TaughtTongues$Learner", 28, "TaughtTongues$Counts", "all", "I")) 8 rfl) (fun _ h9 => h9) rfl dX1_choice_35 ?_
      refine r_icmp_ne (a := shw tn k 3) (b := al) (tgt := 44) hx hb dX1_choice_38 (by decide) (by omega) (by omega)  (fun c38 => ?_) (fun c38 => ?_)
      · skip
        refine lv_aload_n hx hb dX1_choice_44 rfl (lv_at hl 4 rfl) ?_
        refine lv_iload hx hb dX1_choice_45 (lv_at hl 1 rfl) ?_
        refine lv_iload hx hb dX1_choice_47 (lv_at hl 0 rfl) ?_
        refine lv_aload_n hx hb dX1_choice_49 rfl (lv_at hl 5 rfl) ?_
        refine va_getN (D := D) (ci := 0) (v := .int (nI al)) (C := RX0) (T := TX0) (N := 2) hx hb hts hiX0 hown hKB.1 hP 2 rfl rfl 1 (by decide) (hKB.2.f (q := ("TaughtTongues$Learner", 28, "TaughtTongues$Counts", "all", "I")) 8 rfl) (fun _ h9 => h9) rfl dX1_choice_50 ?_
        refine lv_iload hx hb dX1_choice_53 (lv_at hl 0 rfl) ?_
        refine r_isub (a := al) (b := shw tn k 3) hx hb dX1_choice_55 (by omega) ?_
        have hPc := hP.sub (ws' := [(lq, .inr (1, [.ref nq, .int (nI slip), .int (nI kd)])), (nq, .inl (cI, 8, .inl (nF num)))]) [0, 1] rfl
        refine r_calll hP hS (va_runV (As := [.int (nI k), .int (nI (shw tn k 3)), .int (nI (al - (shw tn k 3)))]) (rest := []) ⟨hx, hb, hml, hown, hts⟩ (m_X1_likenessBy l D cI cJ lq nq slip kd num k (shw tn k 3) (al - (shw tn k 3)) (by omega) (by assumption) (by assumption) (by omega) (by omega)) (cwV 3 hts gX1_choice_X1_likenessBy rfl rfl rfl (by decide +kernel) ⟨Nat.le_of_ble_eq_true rfl, Nat.le_of_ble_eq_true rfl⟩) ⟨PR.blind, va_recv hKB.1 hP (ci := 1) (q0 := 0) rfl rfl, fun U hU hW => ⟨rfl, hKB.warm hW, by rw [hU]; exact hPc⟩⟩ rfl rfl hl.1 rfl (lv_room (Nat.le_of_ble_eq_true rfl)) dX1_choice_56 ⟨Nat.le_of_ble_eq_true rfl, Nat.le_of_ble_eq_true rfl⟩) (fun r5 H locs hw56 hP hS => ?_)
        have hw56 : r5 = lN (num k * pw (12 - slip) (shw tn k 3) * pw slip (al - (shw tn k 3))) := hw56
        subst hw56
        refine lv_topl (fun z6 ez6 => ?_)
        obtain rfl : z6 = lN (lkC num slip tn al k) := ez6.trans (rfl)
        refine lv_lstore (lv' := [(7, .long (lN (lkC num slip tn al k))), (6, .int (nI (shw tn k 3))), (5, .int (nI k)), (3, .long most), (2, .int (nI best)), (0, .ref lq), (1, .ref cq)]) hx hb dX1_choice_59 hl (by decide) rfl (fun ls hl => ?_)
        refine lv_lload hx hb dX1_choice_61 (lv_at hl 0 rfl) ?_
        refine lv_lload_n hx hb dX1_choice_63 rfl (lv_at hl 3 rfl) ?_
        refine r_lcmp_gt (x := lN (lkC num slip tn al k)) (y := most) (tgt := 85) hx hb dX1_choice_64 dX1_choice_65 (by decide) (fun c64 => ?_) (fun c64 => ?_)
        · skip
          refine lv_iload hx hb dX1_choice_85 (lv_at hl 2 rfl) ?_
          refine lv_istore_n (lv' := [(2, .int (nI k)), (7, .long (lN (lkC num slip tn al k))), (6, .int (nI (shw tn k 3))), (5, .int (nI k)), (3, .long most), (0, .ref lq), (1, .ref cq)]) hx hb dX1_choice_87 rfl hl (by decide) rfl (fun ls hl => ?_)
          refine lv_lload hx hb dX1_choice_88 (lv_at hl 1 rfl) ?_
          refine lv_lstore_n (lv' := [(3, .long (lN (lkC num slip tn al k))), (2, .int (nI k)), (7, .long (lN (lkC num slip tn al k))), (6, .int (nI (shw tn k 3))), (5, .int (nI k)), (0, .ref lq), (1, .ref cq)]) hx hb dX1_choice_90 rfl hl (by decide) rfl (fun ls hl => ?_)
          refine lv_iinc (v := nI (k + 1)) (lv' := [(5, .int (nI (k + 1))), (3, .long (lN (lkC num slip tn al k))), (2, .int (nI k)), (7, .long (lN (lkC num slip tn al k))), (6, .int (nI (shw tn k 3))), (0, .ref lq), (1, .ref cq)]) hx hb dX1_choice_91 hl (k := 4) rfl (n_inc _ 1) (by decide) rfl (fun ls hl => ?_)
          refine lv_goto (tgt := 9) hx hb dX1_choice_94 (by decide) ?_
          exact ih9 (k + 1) k (lN (lkC num slip tn al k)) _ _ _ (by omega) (by omega) (by omega) (lz_s hlz (fun h => by first | exact absurd h c29 | exact decide_eq_false c38)) (by first | exact ch_up hlb c13 hst (Or.inl c64) | exact ch_up hlb c13 hst (Or.inr ⟨c71, c82⟩) | exact ch_no hlb c13 hst c64 (Or.inl c71) | exact ch_no hlb c13 hst c64 (Or.inr c82)) hP hS (lv_sub hl [0, 1, 2, 5, 6] rfl)
        refine lv_lload hx hb dX1_choice_68 (lv_at hl 0 rfl) ?_
        refine lv_lload_n hx hb dX1_choice_70 rfl (lv_at hl 3 rfl) ?_
        refine r_lcmp_ne (x := lN (lkC num slip tn al k)) (y := most) (tgt := 91) hx hb dX1_choice_71 dX1_choice_72 (by decide) (fun c71 => ?_) (fun c71 => ?_)
        · skip
          refine lv_iinc (v := nI (k + 1)) (lv' := [(5, .int (nI (k + 1))), (7, .long (lN (lkC num slip tn al k))), (6, .int (nI (shw tn k 3))), (3, .long most), (2, .int (nI best)), (0, .ref lq), (1, .ref cq)]) hx hb dX1_choice_91 hl (k := 2) rfl (n_inc _ 1) (by decide) rfl (fun ls hl => ?_)
          refine lv_goto (tgt := 9) hx hb dX1_choice_94 (by decide) ?_
          exact ih9 (k + 1) best most _ _ _ (by omega) (by omega) (by omega) (lz_s hlz (fun h => by first | exact absurd h c29 | exact decide_eq_false c38)) (by first | exact ch_up hlb c13 hst (Or.inl c64) | exact ch_up hlb c13 hst (Or.inr ⟨c71, c82⟩) | exact ch_no hlb c13 hst c64 (Or.inl c71) | exact ch_no hlb c13 hst c64 (Or.inr c82)) hP hS (lv_sub hl [0, 3, 4, 5, 6] rfl)
        refine lv_aload_n hx hb dX1_choice_75 rfl (lv_at hl 5 rfl) ?_
        refine lv_iload hx hb dX1_choice_76 (lv_at hl 2 rfl) ?_
        refine lv_iload_n hx hb dX1_choice_78 rfl (lv_at hl 4 rfl) ?_
        have hPc := hP.sub (ws' := [(lq, .inr (1, [.ref nq, .int (nI slip), .int (nI kd)]))]) [0] rfl
        refine r_calli hP hS (va_runV (As := [.int (nI k), .int (nI best)]) (rest := []) ⟨hx, hb, hml, hown, hts⟩ (m_X1_isRather l D cI cJ lq nq slip kd k best (by omega) (by omega) (by omega)) (cwV 2 hts gX1_choice_X1_isRather rfl rfl rfl (by decide +kernel) ⟨Nat.le_of_ble_eq_true rfl, Nat.le_of_ble_eq_true rfl⟩) ⟨PR.blind, va_recv hKB.1 hP (ci := 1) (q0 := 0) rfl rfl, fun U hU hW => ⟨rfl, hKB.warm hW, by rw [hU]; exact hPc⟩⟩ rfl rfl hl.1 rfl (lv_room (Nat.le_of_ble_eq_true rfl)) dX1_choice_79 ⟨Nat.le_of_ble_eq_true rfl, Nat.le_of_ble_eq_true rfl⟩) (fun r7 H locs hw79 hP hS => ?_)
        have hw79 : r7 = bI (isR kd k best) := hw79
        subst hw79
        refine r_bif_eq (b := isR kd k best) (tgt := 91) hx hb dX1_choice_82 (by decide) (fun c82 => ?_) (fun c82 => ?_)
        · skip
          refine lv_iinc (v := nI (k + 1)) (lv' := [(5, .int (nI (k + 1))), (7, .long (lN (lkC num slip tn al k))), (6, .int (nI (shw tn k 3))), (3, .long most), (2, .int (nI best)), (0, .ref lq), (1, .ref cq)]) hx hb dX1_choice_91 hl (k := 2) rfl (n_inc _ 1) (by decide) rfl (fun ls hl => ?_)
          refine lv_goto (tgt := 9) hx hb dX1_choice_94 (by decide) ?_
          exact ih9 (k + 1) best most _ _ _ (by omega) (by omega) (by omega) (lz_s hlz (fun h => by first | exact absurd h c29 | exact decide_eq_false c38)) (by first | exact ch_up hlb c13 hst (Or.inl c64) | exact ch_up hlb c13 hst (Or.inr ⟨c71, c82⟩) | exact ch_no hlb c13 hst c64 (Or.inl c71) | exact ch_no hlb c13 hst c64 (Or.inr c82)) hP hS (lv_sub hl [0, 3, 4, 5, 6] rfl)
        refine lv_iload hx hb dX1_choice_85 (lv_at hl 2 rfl) ?_
        refine lv_istore_n (lv' := [(2, .int (nI k)), (7, .long (lN (lkC num slip tn al k))), (6, .int (nI (shw tn k 3))), (5, .int (nI k)), (3, .long most), (0, .ref lq), (1, .ref cq)]) hx hb dX1_choice_87 rfl hl (by decide) rfl (fun ls hl => ?_)
        refine lv_lload hx hb dX1_choice_88 (lv_at hl 1 rfl) ?_
        refine lv_lstore_n (lv' := [(3, .long (lN (lkC num slip tn al k))), (2, .int (nI k)), (7, .long (lN (lkC num slip tn al k))), (6, .int (nI (shw tn k 3))), (5, .int (nI k)), (0, .ref lq), (1, .ref cq)]) hx hb dX1_choice_90 rfl hl (by decide) rfl (fun ls hl => ?_)
        refine lv_iinc (v := nI (k + 1)) (lv' := [(5, .int (nI (k + 1))), (3, .long (lN (lkC num slip tn al k))), (2, .int (nI k)), (7, .long (lN (lkC num slip tn al k))), (6, .int (nI (shw tn k 3))), (0, .ref lq), (1, .ref cq)]) hx hb dX1_choice_91 hl (k := 4) rfl (n_inc _ 1) (by decide) rfl (fun ls hl => ?_)
        refine lv_goto (tgt := 9) hx hb dX1_choice_94 (by decide) ?_
        exact ih9 (k + 1) k (lN (lkC num slip tn al k)) _ _ _ (by omega) (by omega) (by omega) (lz_s hlz (fun h => by first | exact absurd h c29 | exact decide_eq_false c38)) (by first | exact ch_up hlb c13 hst (Or.inl c64) | exact ch_up hlb c13 hst (Or.inr ⟨c71, c82⟩) | exact ch_no hlb c13 hst c64 (Or.inl c71) | exact ch_no hlb c13 hst c64 (Or.inr c82)) hP hS (lv_sub hl [0, 1, 2, 5, 6] rfl)
      refine lv_iload hx hb dX1_choice_41 (lv_at hl 1 rfl) ?_
      exact r_iret hx hb hr hlk hQ hS (by rw [tk_lazy c29 c13 (hlz c29) (decide_eq_true c38)]) dX1_choice_43
  exact L9 (8 - 0 + 1) 0 0 (-1) _ _ _ (Nat.lt_succ_self _) (by omega) (by omega) (fun _ j hj => absurd hj (Nat.not_lt_zero j)) (Or.inl ⟨rfl, rfl, rfl⟩) hP hS hl
end
section
/-! signs -/
def addC (cd : Nat → Nat) (cnt sg : Nat) : Nat → Nat := if cnt < 40 then nu cd cnt sg else cd
def addN (cnt : Nat) : Nat := if cnt < 40 then cnt + 1 else cnt
def cst (c p : Nat) : Bool := (decide (p < 3) && (decide (c = 48) || decide (c = 49) || decide (c = 42))) || (decide (p = 3) && decide (c = 58)) || (decide (p = 4) && (decide (49 ≤ c) && decide (c ≤ 57))) || (decide (5 ≤ p) && decide (c = 59))
theorem cst_iff {c p : Nat} : cst c p = true ↔ (p < 3 ∧ (c = 48 ∨ c = 49 ∨ c = 42)) ∨ (p = 3 ∧ c = 58) ∨ (p = 4 ∧ 49 ≤ c ∧ c ≤ 57) ∨ (5 ≤ p ∧ c = 59) := by
  simp only [cst, Bool.or_eq_true, Bool.and_eq_true, decide_eq_true_eq, or_assoc]
def bad (cd : Nat → Nat) (j : Nat) : Bool := !cst (cd j) (j % 6)
def ffl (cd : Nat → Nat) (cnt : Nat) : Nat := fi (bad cd) cnt 0
def ffI (cd : Nat → Nat) (cnt : Nat) : Int32 := if ffl cd cnt < cnt then nI (ffl cd cnt) else if cnt % 6 = 5 then -6 else nI cnt
theorem ffI_hit {cd : Nat → Nat} {cnt k : Nat} (hk : k < cnt) (h : ∀ j, j < k → bad cd j = false) (hp : bad cd k = true) : ffI cd cnt = nI k := by
  unfold ffI ffl
  rw [fi_hit hk h hp, if_pos hk]
theorem ffI_end {cd : Nat → Nat} {cnt : Nat} (h : ∀ j, j < cnt → bad cd j = false) : ffI cd cnt = if cnt % 6 = 5 then -6 else nI cnt := by
  unfold ffI ffl
  rw [fi_none h, if_neg (Nat.lt_irrefl cnt)]
def lfm (cd : Nat → Nat) (st t m : Nat) : Bool := decide (cd (st + m) = 42) || decide (cd (st + m) - 48 = fo t m)
def lfit (cd : Nat → Nat) (st t : Nat) : Bool := lfm cd st t 0 && lfm cd st t 1 && lfm cd st t 2
theorem lfit_t {cd : Nat → Nat} {st t : Nat} (h : ∀ m, m < 3 → lfm cd st t m = true) : lfit cd st t = true := by
  simp [lfit, h 0 (by decide), h 1 (by decide), h 2 (by decide)]
theorem lfit_f {cd : Nat → Nat} {st t m : Nat} (hm : m < 3) (h : lfm cd st t m = false) : lfit cd st t = false := by
  rcases (show m = 0 ∨ m = 1 ∨ m = 2 by omega) with rfl | rfl | rfl <;> simp [lfit, h]
def nfr (cd : Nat → Nat) (t : Nat) : Nat → Nat → Nat
  | 0, _ => 1
  | r + 1, k => if lfit cd (6 * k) t then cd (6 * k + 4) - 48 else nfr cd t r (k + 1)
def okT (cd : Nat → Nat) (nl : Nat) : Prop := ∀ k, k < nl → (∀ m, m < 3 → cd (6 * k + m) = 42 ∨ cd (6 * k + m) = 48 ∨ cd (6 * k + m) = 49) ∧ 49 ≤ cd (6 * k + 4) ∧ cd (6 * k + 4) ≤ 57
theorem bad_s {cd : Nat → Nat} {k : Nat} (h : ∀ j, j < k → bad cd j = false) (h2 : cst (cd k) (k % 6) = true) : ∀ j, j < k + 1 → bad cd j = false := fun j hj => by
  rcases Nat.lt_or_ge j k with q | q
  · exact h j q
  · rw [show j = k by omega]; simp [bad, h2]
theorem lfm_s {cd : Nat → Nat} {st t k : Nat} (h : ∀ j, j < k → lfm cd st t j = true) (h2 : lfm cd st t k = true) : ∀ j, j < k + 1 → lfm cd st t j = true := fun j hj => by
  rcases Nat.lt_or_ge j k with q | q
  · exact h j q
  · rw [show j = k by omega]; exact h2
theorem nfr_hit {cd : Nat → Nat} {t nl k : Nat} (hk : k < nl) (h : lfit cd (6 * k) t = true) : nfr cd t (nl - k) k = cd (6 * k + 4) - 48 := by
  rw [show nl - k = (nl - k - 1) + 1 by omega, nfr, if_pos h]
theorem nfr_miss {cd : Nat → Nat} {t nl k : Nat} (hk : k < nl) (h : lfit cd (6 * k) t = false) : nfr cd t (nl - k) k = nfr cd t (nl - (k + 1)) (k + 1) := by
  rw [show nl - k = (nl - (k + 1)) + 1 by omega, nfr, if_neg (by rw [h]; decide)]
theorem nfr_in {cd : Nat → Nat} {t nl : Nat} (hok : okT cd nl) : ∀ r k, k + r ≤ nl → 1 ≤ nfr cd t r k ∧ nfr cd t r k < 10
  | 0, _, _ => ⟨Nat.le_refl 1, show 1 < 10 by decide⟩
  | r + 1, k, h => by
    unfold nfr
    split
    · have := (hok k (by omega)).2; omega
    · exact nfr_in hok r (k + 1) (by omega)
/-- signs without a fault are lines -/
theorem okT_of {cd : Nat → Nat} {cnt nl : Nat} (h : ffI cd cnt = -6) (hc : cnt < 2 ^ 31) (hn : nl = (cnt + 1) / 6) : cnt + 1 = 6 * nl ∧ okT cd nl := by
  have hno : ∀ x : Nat, x < 2 ^ 31 → ¬ nI x = -6 := fun x hx e => by
    have h1 : (nI x).toInt = (-6 : Int32).toInt := by rw [e]
    rw [nI_toInt hx] at h1
    have : (-6 : Int32).toInt = -6 := by decide
    omega
  unfold ffI at h
  by_cases h1 : ffl cd cnt < cnt
  · rw [if_pos h1] at h
    exact absurd h (hno _ (by omega))
  · rw [if_neg h1] at h
    by_cases h2 : cnt % 6 = 5
    · have h3 : cnt + 1 = 6 * nl := by omega
      refine ⟨h3, ?_⟩
      have hall : ∀ k, k ≤ cnt → ∀ j, j < k → bad cd j = false := by
        intro k
        induction k with
        | zero => intro _ j hj; exact absurd hj (Nat.not_lt_zero j)
        | succ k ih =>
          intro hk j hj
          rcases Nat.lt_or_ge j k with q | q
          · exact ih (by omega) j q
          · have e : j = k := by omega
            subst e
            cases hb : bad cd j with
            | false => rfl
            | true => exact absurd (show ffl cd cnt < cnt by unfold ffl; rw [fi_hit (by omega) (ih (by omega)) hb]; omega) h1
      have hc2 : ∀ j, j < cnt → cst (cd j) (j % 6) = true := fun j hj => by
        have := hall cnt (Nat.le_refl _) j hj
        simpa [bad] using this
      intro k hk
      refine ⟨fun m hm => ?_, ?_⟩
      · have := cst_iff.mp (hc2 (6 * k + m) (by omega))
        omega
      · have := cst_iff.mp (hc2 (6 * k + 4) (by omega))
        omega
    · rw [if_neg h2] at h
      exact absurd h (hno _ hc)
end
section
set_option maxHeartbeats 4000000 in
set_option maxRecDepth 100000 in
theorem m_X3_init (l : Launch) (D : va_G) (cI cJ : ClassId) (sz : Nat) (sq : Nat) : Met l yX3_init wsX3_init ({ frames := 1, cells := 1, slots := 40, locals := 12 }) (PX D cI cJ [(sq, .inr (3, [.null, .int 0]))] sz [.ref sq]) (QWv D (S := Nat) [(sq, .inr (3, [.null, .int 0]))] sz (fun _ => True) (fun qc => [(sq, .inr (3, [.ref qc, .int (nI 0)])), (qc, .inl (cI, 40, .inl (nF (fun _ => 0))))])) 1 40 (va_A [(sq, .inr (3, [.null, .int 0]))] sz) := by
  refine met_X (cc := cX3_init) (maxL := 1) (ret := none) (by decide) rfl (Nat.le_of_ble_eq_true rfl) ?_
  intro p e s m args below meth c Q ls A hQ hAe hAt hKB hP hD hA hl
  obtain ⟨hx, hb, hr, hml, hlk, hts, hown, hnm⟩ := hAt
  have hown : s.vm.findClass RX3 = some m.cls := hown
  have hS : va_S A s.heap s.heap [] := va_S.rf
  have hl : lv_has ls 1 [(0, .ref sq)] := hl
  have oi1 := hts (.methodLink RX3 3 objectInit) (by decide +kernel)
  have oi2 := hts (.instanceMethod objectInit) (by decide +kernel)
  have oi3 := hts (.code objectInit ⟨#[0xb1]⟩ 1 none) (by decide +kernel)
  have acI := hts (.arrayClass .int) (by decide +kernel)
  have hiX3 : ∀ w ∈ u_ws RX3 TX3 2, w ∈ wsX3_init := by decide +kernel
  have fl11 := hts (.fieldLink RX3 11 "TaughtTongues$Signs" "codes" "[I") (by decide +kernel)
  have fl15 := hts (.fieldLink RX3 15 "TaughtTongues$Signs" "count" "I") (by decide +kernel)
  refine lv_aload_n hx hb dX3_init_0 rfl (lv_at hl 0 rfl) ?_
  refine W.objInit hx hb hown oi1 oi2 oi3 rfl (by rw [hml]; exact hl.1) rfl dX3_init_1 (Nat.le_of_ble_eq_true rfl) (Nat.le_of_ble_eq_true rfl) ?_
  refine W.eq (g2 := F0 m 4 ls []) rfl ?_
  refine lv_aload_n hx hb dX3_init_4 rfl (lv_at hl 0 rfl) ?_
  refine lv_bipush (v := nI (40)) hx hb dX3_init_5 (by decide) ?_
  refine r_newI (n := 40) hx hb acI hKB.1 hP hD hS hA (by decide) (by decide) (Nat.le_of_ble_eq_true rfl) (Nat.le_of_ble_eq_true rfl) dX3_init_7 (fun qc H hP hD hS => ?_)
  have hP : va_P D vwCl [(sq, .inr (3, [.null, .int 0])), (qc, .inl (cI, 40, .inl (fun _ => 0)))] _ := hP
  have hD : va_D A [(sq, .inr (3, [.null, .int 0])), (qc, .inl (cI, 40, .inl (fun _ => 0)))] := hD
  refine W.widen (k := 1) (n := 40) (by decide) (by decide) ?_
  refine va_putF (D := D) (ci := 3) (v := .ref qc) (ty := .array .int) (C := RX3) (T := TX3) (N := 2) hx hb hts hiX3 tyX3 tyX3_ok nmX3 hown hKB.1 hP hD hS 0 rfl rfl 0 (by decide) fl11 (fun _ h9 => h9) rfl hnm rfl (by decide +kernel) rfl rfl (Nat.le_of_ble_eq_true rfl) dX3_init_9 (fun H locs hP hD hS => ?_)
  have hP : va_P D vwCl [(sq, .inr (3, [.ref qc, .int 0])), (qc, .inl (cI, 40, .inl (fun _ => 0)))] _ := hP
  have hD : va_D A [(sq, .inr (3, [.ref qc, .int 0])), (qc, .inl (cI, 40, .inl (fun _ => 0)))] := hD
  refine lv_aload_n hx hb dX3_init_12 rfl (lv_at hl 0 rfl) ?_
  refine lv_iconst (v := nI (0)) hx hb dX3_init_13 (by decide) ?_
  refine va_put (D := D) (ci := 3) (v := .int (nI 0)) (ty := .int) (C := RX3) (T := TX3) (N := 2) hx hb hts hiX3 tyX3 tyX3_ok nmX3 hown hKB.1 hP hD hS 0 rfl rfl 1 (by decide) fl15 (fun _ h9 => h9) rfl (by decide +kernel) rfl rfl (Nat.le_of_ble_eq_true rfl) dX3_init_14 (fun H locs hP hD hS => ?_)
  have hP : va_P D vwCl [(sq, .inr (3, [.ref qc, .int (nI 0)])), (qc, .inl (cI, 40, .inl (fun _ => 0)))] _ := hP
  have hD : va_D A [(sq, .inr (3, [.ref qc, .int (nI 0)])), (qc, .inl (cI, 40, .inl (fun _ => 0)))] := hD
  exact w_vret hx hb hr hlk hQ hAe qc hP hD hS (trivial) dX3_init_17

set_option maxHeartbeats 4000000 in
set_option maxRecDepth 100000 in
theorem m_X3_add (l : Launch) (D : va_G) (cI cJ : ClassId) (sz : Nat) (sq : Nat) (qc : Nat) (cnt : Nat) (cd : Nat → Nat) (sg : Nat) (hcnt : cnt ≤ 40) : Met l yX3_add wsX3_add ({ frames := 0, cells := 0, slots := 0, locals := 0 }) (PX D cI cJ [(sq, .inr (3, [.ref qc, .int (nI cnt)])), (qc, .inl (cI, 40, .inl (nF cd)))] sz [.ref sq, .int (nI sg)]) (QWi D (S := (Nat → Nat) × Nat) [(sq, .inr (3, [.ref qc, .int (nI cnt)])), (qc, .inl (cI, 40, .inl (nF cd)))] sz (fun r u => r = bI (decide (cnt < 40)) ∧ u.1 = addC cd cnt sg ∧ u.2 = addN cnt) (fun u => [(sq, .inr (3, [.ref qc, .int (nI (u.2))])), (qc, .inl (cI, 40, .inl (nF u.1)))])) 0 0 (va_A [(sq, .inr (3, [.ref qc, .int (nI cnt)])), (qc, .inl (cI, 40, .inl (nF cd)))] sz) := by
  refine met_X (cc := cX3_add) (maxL := 2) (ret := (some .boolean)) (by decide) rfl (Nat.le_of_ble_eq_true rfl) ?_
  intro p e s m args below meth c Q ls A hQ hAe hAt hKB hP hD hA hl
  obtain ⟨hx, hb, hr, hml, hlk, hts, hown, hnm⟩ := hAt
  have hown : s.vm.findClass RX3 = some m.cls := hown
  have hS : va_S A s.heap s.heap [] := va_S.rf
  have hl : lv_has ls 2 [(0, .ref sq), (1, .int (nI sg))] := hl
  have hiX3 : ∀ w ∈ u_ws RX3 TX3 2, w ∈ wsX3_add := by decide +kernel
  have fl15 := hts (.fieldLink RX3 15 "TaughtTongues$Signs" "count" "I") (by decide +kernel)
  have fl11 := hts (.fieldLink RX3 11 "TaughtTongues$Signs" "codes" "[I") (by decide +kernel)
  refine lv_aload_n hx hb dX3_add_0 rfl (lv_at hl 0 rfl) ?_
  refine va_get (D := D) (ci := 3) (v := .int (nI cnt)) (C := RX3) (T := TX3) (N := 2) hx hb hts hiX3 hown hKB.1 hP 0 rfl rfl 1 (by decide) fl15 (fun _ h9 => h9) rfl dX3_add_1 ?_
  refine lv_bipush (v := nI (40)) hx hb dX3_add_4 (by decide) ?_
  refine r_icmp_lt (a := cnt) (b := 40) (tgt := 11) hx hb dX3_add_6 (by decide) (by omega) (by omega)  (fun c6 => ?_) (fun c6 => ?_)
  · skip
    refine lv_aload_n hx hb dX3_add_11 rfl (lv_at hl 0 rfl) ?_
    refine va_get (D := D) (ci := 3) (v := .ref qc) (C := RX3) (T := TX3) (N := 2) hx hb hts hiX3 hown hKB.1 hP 0 rfl rfl 0 (by decide) fl11 (fun _ h9 => h9) rfl dX3_add_12 ?_
    refine lv_aload_n hx hb dX3_add_15 rfl (lv_at hl 0 rfl) ?_
    refine va_get (D := D) (ci := 3) (v := .int (nI cnt)) (C := RX3) (T := TX3) (N := 2) hx hb hts hiX3 hown hKB.1 hP 0 rfl rfl 1 (by decide) fl15 (fun _ h9 => h9) rfl dX3_add_16 ?_
    refine lv_iload_n hx hb dX3_add_19 rfl (lv_at hl 1 rfl) ?_
    refine r_iastN (i := cnt) hx hb hKB.1 hP hD hS 1 0 rfl rfl (by omega) (by decide) dX3_add_20 (fun H locs hP hD hS => ?_)
    have hP : va_P D vwCl [(sq, .inr (3, [.ref qc, .int (nI cnt)])), (qc, .inl (cI, 40, .inl (nF (nu cd cnt sg))))] _ := hP
    have hD : va_D A [(sq, .inr (3, [.ref qc, .int (nI cnt)])), (qc, .inl (cI, 40, .inl (nF (nu cd cnt sg))))] := hD
    refine lv_aload_n hx hb dX3_add_21 rfl (lv_at hl 0 rfl) ?_
    refine lv_dup hx hb dX3_add_22 rfl ?_
    refine va_get (D := D) (ci := 3) (v := .int (nI cnt)) (C := RX3) (T := TX3) (N := 2) hx hb hts hiX3 hown hKB.1 hP 0 rfl rfl 1 (by decide) fl15 (fun _ h9 => h9) rfl dX3_add_23 ?_
    refine lv_iconst (v := nI (1)) hx hb dX3_add_26 (by decide) ?_
    refine r_iadd (a := cnt) (b := 1) hx hb dX3_add_27  ?_
    refine va_put (D := D) (ci := 3) (v := .int (nI (cnt + 1))) (ty := .int) (C := RX3) (T := TX3) (N := 2) hx hb hts hiX3 tyX3 tyX3_ok nmX3 hown hKB.1 hP hD hS 0 rfl rfl 1 (by decide) fl15 (fun _ h9 => h9) rfl (by decide +kernel) rfl rfl (Nat.le_of_ble_eq_true rfl) dX3_add_28 (fun H locs hP hD hS => ?_)
    have hP : va_P D vwCl [(sq, .inr (3, [.ref qc, .int (nI (cnt + 1))])), (qc, .inl (cI, 40, .inl (nF (nu cd cnt sg))))] _ := hP
    have hD : va_D A [(sq, .inr (3, [.ref qc, .int (nI (cnt + 1))])), (qc, .inl (cI, 40, .inl (nF (nu cd cnt sg))))] := hD
    refine lv_iconst (v := nI (1)) hx hb dX3_add_31 (by decide) ?_
    exact w_zret (b := true) hx hb hr hlk hQ hAe rfl (nu cd cnt sg, cnt + 1) hP hD hS (by rw [decide_eq_true c6, addC, addN, if_pos c6, if_pos c6]; exact ⟨rfl, rfl, rfl⟩) dX3_add_32
  refine lv_iconst (v := nI (0)) hx hb dX3_add_9 (by decide) ?_
  exact w_zret (b := false) hx hb hr hlk hQ hAe rfl (cd, cnt) hP hD hS (by rw [decide_eq_false (show ¬ cnt < 40 by omega), addC, addN, if_neg (by omega), if_neg (by omega)]; exact ⟨rfl, rfl, rfl⟩) dX3_add_10

set_option maxHeartbeats 4000000 in
set_option maxRecDepth 100000 in
theorem m_X3_clear (l : Launch) (D : va_G) (cI cJ : ClassId) (sz : Nat) (sq : Nat) (qc : Nat) (cnt : Nat) : Met l yX3_clear wsX3_clear ({ frames := 0, cells := 0, slots := 0, locals := 0 }) (PX D cI cJ [(sq, .inr (3, [.ref qc, .int (nI cnt)]))] sz [.ref sq]) (QWi D (S := Unit) [(sq, .inr (3, [.ref qc, .int (nI cnt)]))] sz (fun r _ => r = nI (cnt)) (fun _ => [(sq, .inr (3, [.ref qc, .int (nI 0)]))])) 0 0 (va_A [(sq, .inr (3, [.ref qc, .int (nI cnt)]))] sz) := by
  refine met_X (cc := cX3_clear) (maxL := 2) (ret := (some .int)) (by decide) rfl (Nat.le_of_ble_eq_true rfl) ?_
  intro p e s m args below meth c Q ls A hQ hAe hAt hKB hP hD hA hl
  obtain ⟨hx, hb, hr, hml, hlk, hts, hown, hnm⟩ := hAt
  have hown : s.vm.findClass RX3 = some m.cls := hown
  have hS : va_S A s.heap s.heap [] := va_S.rf
  have hl : lv_has ls 2 [(0, .ref sq)] := hl
  have hiX3 : ∀ w ∈ u_ws RX3 TX3 2, w ∈ wsX3_clear := by decide +kernel
  have fl15 := hts (.fieldLink RX3 15 "TaughtTongues$Signs" "count" "I") (by decide +kernel)
  refine lv_aload_n hx hb dX3_clear_0 rfl (lv_at hl 0 rfl) ?_
  refine va_get (D := D) (ci := 3) (v := .int (nI cnt)) (C := RX3) (T := TX3) (N := 2) hx hb hts hiX3 hown hKB.1 hP 0 rfl rfl 1 (by decide) fl15 (fun _ h9 => h9) rfl dX3_clear_1 ?_
  refine lv_istore_n (lv' := [(1, .int (nI cnt)), (0, .ref sq)]) hx hb dX3_clear_4 rfl hl (by decide) rfl (fun ls hl => ?_)
  refine lv_aload_n hx hb dX3_clear_5 rfl (lv_at hl 1 rfl) ?_
  refine lv_iconst (v := nI (0)) hx hb dX3_clear_6 (by decide) ?_
  refine va_put (D := D) (ci := 3) (v := .int (nI 0)) (ty := .int) (C := RX3) (T := TX3) (N := 2) hx hb hts hiX3 tyX3 tyX3_ok nmX3 hown hKB.1 hP hD hS 0 rfl rfl 1 (by decide) fl15 (fun _ h9 => h9) rfl (by decide +kernel) rfl rfl (Nat.le_of_ble_eq_true rfl) dX3_clear_7 (fun H locs hP hD hS => ?_)
  have hP : va_P D vwCl [(sq, .inr (3, [.ref qc, .int (nI 0)]))] _ := hP
  have hD : va_D A [(sq, .inr (3, [.ref qc, .int (nI 0)]))] := hD
  refine lv_iload_n hx hb dX3_clear_10 rfl (lv_at hl 0 rfl) ?_
  exact w_iret hx hb hr hlk hQ hAe () hP hD hS (rfl) dX3_clear_11

set_option maxHeartbeats 4000000 in
set_option maxRecDepth 100000 in
theorem m_X3_canStand (l : Launch) (D : va_G) (cI cJ : ClassId) (ch : Nat) (pl : Nat) (hc2 : ch < 2 ^ 31) (hpl : pl < 2 ^ 31) : Met l yX3_canStand wsX3_canStand ({ frames := 0, cells := 0, slots := 0, locals := 0 }) (PR D cI cJ [] [.int (nI ch), .int (nI pl)]) (QRi (fun r => r = bI (cst ch pl))) 0 0 NA := by
  refine met_R (cc := cX3_canStand) (maxL := 2) (ret := (some .boolean)) (by decide) rfl (Nat.le_of_ble_eq_true rfl) ?_
  intro p e s m args below meth c Q ls hQ hAt hKB hP hl
  obtain ⟨hx, hb, hr, hml, hlk, hts, hown, hnm⟩ := hAt
  have hown : s.vm.findClass RX3 = some m.cls := hown
  have hS : va_S NA s.heap s.heap [] := va_S.rf
  have hl : lv_has ls 2 [(0, .int (nI ch)), (1, .int (nI pl))] := hl
  refine lv_iload_n hx hb dX3_canStand_0 rfl (lv_at hl 1 rfl) ?_
  refine lv_iconst (v := nI (3)) hx hb dX3_canStand_1 (by decide) ?_
  refine r_icmp_ge (a := pl) (b := 3) (tgt := 29) hx hb dX3_canStand_2 (by decide) (by omega) (by omega)  (fun c2 => ?_) (fun c2 => ?_)
  · skip
    refine lv_iload_n hx hb dX3_canStand_29 rfl (lv_at hl 1 rfl) ?_
    refine lv_iconst (v := nI (3)) hx hb dX3_canStand_30 (by decide) ?_
    refine r_icmp_ne (a := pl) (b := 3) (tgt := 46) hx hb dX3_canStand_31 (by decide) (by omega) (by omega)  (fun c31 => ?_) (fun c31 => ?_)
    · skip
      refine lv_iload_n hx hb dX3_canStand_46 rfl (lv_at hl 1 rfl) ?_
      refine lv_iconst (v := nI (4)) hx hb dX3_canStand_47 (by decide) ?_
      refine r_icmp_ne (a := pl) (b := 4) (tgt := 69) hx hb dX3_canStand_48 (by decide) (by omega) (by omega)  (fun c48 => ?_) (fun c48 => ?_)
      · skip
        refine lv_iload_n hx hb dX3_canStand_69 rfl (lv_at hl 0 rfl) ?_
        refine lv_bipush (v := nI (59)) hx hb dX3_canStand_70 (by decide) ?_
        refine r_icmp_ne (a := ch) (b := 59) (tgt := 79) hx hb dX3_canStand_72 (by decide) (by omega) (by omega)  (fun c72 => ?_) (fun c72 => ?_)
        · skip
          refine lv_iconst (v := nI (0)) hx hb dX3_canStand_79 (by decide) ?_
          exact r_zret (b := false) hx hb hr hlk hQ hS rfl (congrArg bI (Bool.eq_false_iff.mpr (fun h => by have := cst_iff.mp h; omega)).symm) dX3_canStand_80
        refine lv_iconst (v := nI (1)) hx hb dX3_canStand_75 (by decide) ?_
        refine lv_goto (tgt := 80) hx hb dX3_canStand_76 (by decide) ?_
        exact r_zret (b := true) hx hb hr hlk hQ hS rfl (congrArg bI (cst_iff.mpr (by omega)).symm) dX3_canStand_80
      refine lv_iload_n hx hb dX3_canStand_51 rfl (lv_at hl 0 rfl) ?_
      refine lv_bipush (v := nI (49)) hx hb dX3_canStand_52 (by decide) ?_
      refine r_icmp_lt (a := ch) (b := 49) (tgt := 67) hx hb dX3_canStand_54 (by decide) (by omega) (by omega)  (fun c54 => ?_) (fun c54 => ?_)
      · skip
        refine lv_iconst (v := nI (0)) hx hb dX3_canStand_67 (by decide) ?_
        exact r_zret (b := false) hx hb hr hlk hQ hS rfl (congrArg bI (Bool.eq_false_iff.mpr (fun h => by have := cst_iff.mp h; omega)).symm) dX3_canStand_68
      refine lv_iload_n hx hb dX3_canStand_57 rfl (lv_at hl 0 rfl) ?_
      refine lv_bipush (v := nI (57)) hx hb dX3_canStand_58 (by decide) ?_
      refine r_icmp_gt (a := ch) (b := 57) (tgt := 67) hx hb dX3_canStand_60 (by decide) (by omega) (by omega)  (fun c60 => ?_) (fun c60 => ?_)
      · skip
        refine lv_iconst (v := nI (0)) hx hb dX3_canStand_67 (by decide) ?_
        exact r_zret (b := false) hx hb hr hlk hQ hS rfl (congrArg bI (Bool.eq_false_iff.mpr (fun h => by have := cst_iff.mp h; omega)).symm) dX3_canStand_68
      refine lv_iconst (v := nI (1)) hx hb dX3_canStand_63 (by decide) ?_
      refine lv_goto (tgt := 68) hx hb dX3_canStand_64 (by decide) ?_
      exact r_zret (b := true) hx hb hr hlk hQ hS rfl (congrArg bI (cst_iff.mpr (by omega)).symm) dX3_canStand_68
    refine lv_iload_n hx hb dX3_canStand_34 rfl (lv_at hl 0 rfl) ?_
    refine lv_bipush (v := nI (58)) hx hb dX3_canStand_35 (by decide) ?_
    refine r_icmp_ne (a := ch) (b := 58) (tgt := 44) hx hb dX3_canStand_37 (by decide) (by omega) (by omega)  (fun c37 => ?_) (fun c37 => ?_)
    · skip
      refine lv_iconst (v := nI (0)) hx hb dX3_canStand_44 (by decide) ?_
      exact r_zret (b := false) hx hb hr hlk hQ hS rfl (congrArg bI (Bool.eq_false_iff.mpr (fun h => by have := cst_iff.mp h; omega)).symm) dX3_canStand_45
    refine lv_iconst (v := nI (1)) hx hb dX3_canStand_40 (by decide) ?_
    refine lv_goto (tgt := 45) hx hb dX3_canStand_41 (by decide) ?_
    exact r_zret (b := true) hx hb hr hlk hQ hS rfl (congrArg bI (cst_iff.mpr (by omega)).symm) dX3_canStand_45
  refine lv_iload_n hx hb dX3_canStand_5 rfl (lv_at hl 0 rfl) ?_
  refine lv_bipush (v := nI (48)) hx hb dX3_canStand_6 (by decide) ?_
  refine r_icmp_eq (a := ch) (b := 48) (tgt := 23) hx hb dX3_canStand_8 (by decide) (by omega) (by omega)  (fun c8 => ?_) (fun c8 => ?_)
  · skip
    refine lv_iconst (v := nI (1)) hx hb dX3_canStand_23 (by decide) ?_
    refine lv_goto (tgt := 28) hx hb dX3_canStand_24 (by decide) ?_
    exact r_zret (b := true) hx hb hr hlk hQ hS rfl (congrArg bI (cst_iff.mpr (by omega)).symm) dX3_canStand_28
  refine lv_iload_n hx hb dX3_canStand_11 rfl (lv_at hl 0 rfl) ?_
  refine lv_bipush (v := nI (49)) hx hb dX3_canStand_12 (by decide) ?_
  refine r_icmp_eq (a := ch) (b := 49) (tgt := 23) hx hb dX3_canStand_14 (by decide) (by omega) (by omega)  (fun c14 => ?_) (fun c14 => ?_)
  · skip
    refine lv_iconst (v := nI (1)) hx hb dX3_canStand_23 (by decide) ?_
    refine lv_goto (tgt := 28) hx hb dX3_canStand_24 (by decide) ?_
    exact r_zret (b := true) hx hb hr hlk hQ hS rfl (congrArg bI (cst_iff.mpr (by omega)).symm) dX3_canStand_28
  refine lv_iload_n hx hb dX3_canStand_17 rfl (lv_at hl 0 rfl) ?_
  refine lv_bipush (v := nI (42)) hx hb dX3_canStand_18 (by decide) ?_
  refine r_icmp_ne (a := ch) (b := 42) (tgt := 27) hx hb dX3_canStand_20 (by decide) (by omega) (by omega)  (fun c20 => ?_) (fun c20 => ?_)
  · skip
    refine lv_iconst (v := nI (0)) hx hb dX3_canStand_27 (by decide) ?_
    exact r_zret (b := false) hx hb hr hlk hQ hS rfl (congrArg bI (Bool.eq_false_iff.mpr (fun h => by have := cst_iff.mp h; omega)).symm) dX3_canStand_28
  refine lv_iconst (v := nI (1)) hx hb dX3_canStand_23 (by decide) ?_
  refine lv_goto (tgt := 28) hx hb dX3_canStand_24 (by decide) ?_
  exact r_zret (b := true) hx hb hr hlk hQ hS rfl (congrArg bI (cst_iff.mpr (by omega)).symm) dX3_canStand_28

set_option maxHeartbeats 4000000 in
set_option maxRecDepth 100000 in
theorem m_X3_firstFault (l : Launch) (D : va_G) (cI cJ : ClassId) (sq : Nat) (qc : Nat) (cnt : Nat) (cd : Nat → Nat) (hcnt : cnt ≤ 40) (hcd : ∀ j, cd j < 127) : Met l yX3_firstFault wsX3_firstFault ({ frames := 1, cells := 0, slots := 0, locals := 21 }) (PR D cI cJ [(sq, .inr (3, [.ref qc, .int (nI cnt)])), (qc, .inl (cI, 40, .inl (nF cd)))] [.ref sq]) (QRi (fun r => r = ffI cd cnt)) 0 0 NA := by
  refine met_R (cc := cX3_firstFault) (maxL := 2) (ret := (some .int)) (by decide) rfl (Nat.le_of_ble_eq_true rfl) ?_
  intro p e s m args below meth c Q ls hQ hAt hKB hP hl
  obtain ⟨hx, hb, hr, hml, hlk, hts, hown, hnm⟩ := hAt
  have hown : s.vm.findClass RX3 = some m.cls := hown
  have hS : va_S NA s.heap s.heap [] := va_S.rf
  have hl : lv_has ls 2 [(0, .ref sq)] := hl
  have hiX3 : ∀ w ∈ u_ws RX3 TX3 2, w ∈ wsX3_firstFault := by decide +kernel
  have fl15 := hts (.fieldLink RX3 15 "TaughtTongues$Signs" "count" "I") (by decide +kernel)
  have fl11 := hts (.fieldLink RX3 11 "TaughtTongues$Signs" "codes" "[I") (by decide +kernel)
  refine lv_iconst (v := nI (0)) hx hb dX3_firstFault_0 (by decide) ?_
  refine lv_istore_n (lv' := [(1, .int (nI 0)), (0, .ref sq)]) hx hb dX3_firstFault_1 rfl hl (by decide) rfl (fun ls hl => ?_)
  have L2 : ∀ (n : Nat) (k : Nat) (H : Heap) (locs : List Loc) (ls : Array Slot), cnt - k < n → (k ≤ cnt) → (∀ j, j < k → bad cd j = false) → va_P D vwCl [(sq, .inr (3, [.ref qc, .int (nI cnt)])), (qc, .inl (cI, 40, .inl (nF cd)))] H → va_S NA s.heap H locs → lv_has ls 2 [(1, .int (nI k)), (0, .ref sq)] → W p l e ({ frames := 1, cells := 0, slots := 0, locals := 21 }) s m args below meth c H locs 0 0 Q (F0 m 2 ls []) := by
    intro n
    induction n with
    | zero => intro k H locs ls hm; exact absurd hm (Nat.not_lt_zero _)
    | succ n ih2 =>
      intro k H locs ls hm hk hok hP hS hl
      refine lv_iload_n hx hb dX3_firstFault_2 rfl (lv_at hl 0 rfl) ?_
      refine lv_aload_n hx hb dX3_firstFault_3 rfl (lv_at hl 1 rfl) ?_
      refine va_get (D := D) (ci := 3) (v := .int (nI cnt)) (C := RX3) (T := TX3) (N := 2) hx hb hts hiX3 hown hKB.1 hP 0 rfl rfl 1 (by decide) fl15 (fun _ h9 => h9) rfl dX3_firstFault_4 ?_
      refine r_icmp_ge (a := k) (b := cnt) (tgt := 34) hx hb dX3_firstFault_7 (by decide) (by omega) (by omega)  (fun c7 => ?_) (fun c7 => ?_)
      · skip
        obtain rfl : cnt = k := by omega
        refine lv_aload_n hx hb dX3_firstFault_34 rfl (lv_at hl 1 rfl) ?_
        refine va_get (D := D) (ci := 3) (v := .int (nI cnt)) (C := RX3) (T := TX3) (N := 2) hx hb hts hiX3 hown hKB.1 hP 0 rfl rfl 1 (by decide) fl15 (fun _ h9 => h9) rfl dX3_firstFault_35 ?_
        refine lv_bipush (v := nI (6)) hx hb dX3_firstFault_38 (by decide) ?_
        refine r_irem (a := cnt) (b := 6) hx hb dX3_firstFault_40 (by omega) (by omega) (by omega) ?_
        refine lv_iconst (v := nI (5)) hx hb dX3_firstFault_41 (by decide) ?_
        refine r_icmp_ne (a := cnt % 6) (b := 5) (tgt := 50) hx hb dX3_firstFault_42 (by decide) (by omega) (by omega)  (fun c42 => ?_) (fun c42 => ?_)
        · skip
          refine lv_aload_n hx hb dX3_firstFault_50 rfl (lv_at hl 1 rfl) ?_
          refine va_get (D := D) (ci := 3) (v := .int (nI cnt)) (C := RX3) (T := TX3) (N := 2) hx hb hts hiX3 hown hKB.1 hP 0 rfl rfl 1 (by decide) fl15 (fun _ h9 => h9) rfl dX3_firstFault_51 ?_
          exact r_iret hx hb hr hlk hQ hS (by rw [ffI_end hok]; first | rw [if_pos c42] | rw [if_neg c42]) dX3_firstFault_54
        refine lv_bipush (v := (-6)) hx hb dX3_firstFault_45 (by decide) ?_
        refine lv_goto (tgt := 54) hx hb dX3_firstFault_47 (by decide) ?_
        exact r_iret hx hb hr hlk hQ hS (by rw [ffI_end hok]; first | rw [if_pos c42] | rw [if_neg c42]) dX3_firstFault_54
      refine lv_aload_n hx hb dX3_firstFault_10 rfl (lv_at hl 1 rfl) ?_
      refine va_get (D := D) (ci := 3) (v := .ref qc) (C := RX3) (T := TX3) (N := 2) hx hb hts hiX3 hown hKB.1 hP 0 rfl rfl 0 (by decide) fl11 (fun _ h9 => h9) rfl dX3_firstFault_11 ?_
      refine lv_iload_n hx hb dX3_firstFault_14 rfl (lv_at hl 0 rfl) ?_
      refine r_iald (i := k) (v := nI (cd k)) hx hb hKB.1 hP 1 0 rfl rfl (by omega) (by decide) (rfl) dX3_firstFault_15 ?_
      refine lv_iload_n hx hb dX3_firstFault_16 rfl (lv_at hl 0 rfl) ?_
      refine lv_bipush (v := nI (6)) hx hb dX3_firstFault_17 (by decide) ?_
      refine r_irem (a := k) (b := 6) hx hb dX3_firstFault_19 (by omega) (by omega) (by omega) ?_
      have hPc := hP.sub (ws' := []) [] rfl
      refine r_calli hP hS (va_runS (As := [.int (nI (cd k)), .int (nI (k % 6))]) (rest := []) ⟨hx, hb, hml, hown, hts⟩ (m_X3_canStand l D cI cJ (cd k) (k % 6) (by have := hcd k; omega) (by omega)) (va_cwS 2 hts gX3_firstFault_X3_canStand rfl rfl rfl (by decide +kernel) ⟨Nat.le_of_ble_eq_true rfl, Nat.le_of_ble_eq_true rfl⟩) ⟨PR.blind, fun U hU hW => ⟨rfl, hKB.warm hW, by rw [hU]; exact hPc⟩⟩ rfl rfl hl.1 rfl (lv_room (Nat.le_of_ble_eq_true rfl)) dX3_firstFault_20 ⟨Nat.le_of_ble_eq_true rfl, Nat.le_of_ble_eq_true rfl⟩) (fun r1 H locs hw20 hP hS => ?_)
      have hw20 : r1 = bI (cst (cd k) (k % 6)) := hw20
      subst hw20
      refine r_bif_ne (b := cst (cd k) (k % 6)) (tgt := 28) hx hb dX3_firstFault_23 (by decide) (fun c23 => ?_) (fun c23 => ?_)
      · skip
        refine lv_iinc (v := nI (k + 1)) (lv' := [(1, .int (nI (k + 1))), (0, .ref sq)]) hx hb dX3_firstFault_28 hl (k := 0) rfl (n_inc _ 1) (by decide) rfl (fun ls hl => ?_)
        refine lv_goto (tgt := 2) hx hb dX3_firstFault_31 (by decide) ?_
        exact ih2 (k + 1) _ _ _ (by omega) (by omega) (bad_s hok c23) hP hS hl
      refine lv_iload_n hx hb dX3_firstFault_26 rfl (lv_at hl 0 rfl) ?_
      exact r_iret hx hb hr hlk hQ hS (by rw [ffI_hit c7 hok (by rw [bad, c23]; rfl)]) dX3_firstFault_27
  exact L2 (cnt - 0 + 1) 0 _ _ _ (Nat.lt_succ_self _) (by omega) (fun j hj => absurd hj (Nat.not_lt_zero j)) hP hS hl

set_option maxHeartbeats 4000000 in
set_option maxRecDepth 100000 in
theorem m_X3_lines (l : Launch) (D : va_G) (cI cJ : ClassId) (sq : Nat) (qc : Nat) (cnt : Nat) (hcnt : cnt ≤ 40) : Met l yX3_lines wsX3_lines ({ frames := 0, cells := 0, slots := 0, locals := 0 }) (PR D cI cJ [(sq, .inr (3, [.ref qc, .int (nI cnt)]))] [.ref sq]) (QRi (fun r => r = nI ((cnt + 1) / 6))) 0 0 NA := by
  refine met_R (cc := cX3_lines) (maxL := 1) (ret := (some .int)) (by decide) rfl (Nat.le_of_ble_eq_true rfl) ?_
  intro p e s m args below meth c Q ls hQ hAt hKB hP hl
  obtain ⟨hx, hb, hr, hml, hlk, hts, hown, hnm⟩ := hAt
  have hown : s.vm.findClass RX3 = some m.cls := hown
  have hS : va_S NA s.heap s.heap [] := va_S.rf
  have hl : lv_has ls 1 [(0, .ref sq)] := hl
  have hiX3 : ∀ w ∈ u_ws RX3 TX3 2, w ∈ wsX3_lines := by decide +kernel
  have fl15 := hts (.fieldLink RX3 15 "TaughtTongues$Signs" "count" "I") (by decide +kernel)
  refine lv_aload_n hx hb dX3_lines_0 rfl (lv_at hl 0 rfl) ?_
  refine va_get (D := D) (ci := 3) (v := .int (nI cnt)) (C := RX3) (T := TX3) (N := 2) hx hb hts hiX3 hown hKB.1 hP 0 rfl rfl 1 (by decide) fl15 (fun _ h9 => h9) rfl dX3_lines_1 ?_
  refine lv_iconst (v := nI (1)) hx hb dX3_lines_4 (by decide) ?_
  refine r_iadd (a := cnt) (b := 1) hx hb dX3_lines_5  ?_
  refine lv_bipush (v := nI (6)) hx hb dX3_lines_6 (by decide) ?_
  refine r_idiv (a := cnt + 1) (b := 6) hx hb dX3_lines_8 (by omega) (by omega) (by omega) ?_
  exact r_iret hx hb hr hlk hQ hS (rfl) dX3_lines_9

set_option maxHeartbeats 4000000 in
set_option maxRecDepth 100000 in
theorem m_X3_lineFits (l : Launch) (D : va_G) (cI cJ : ClassId) (sq : Nat) (qc : Nat) (cnt : Nat) (cd : Nat → Nat) (st : Nat) (t : Nat) (hst : st + 3 ≤ 40) (ht : t < 8) (hco : ∀ m, m < 3 → cd (st + m) = 42 ∨ cd (st + m) = 48 ∨ cd (st + m) = 49) : Met l yX3_lineFits wsX3_lineFits ({ frames := 1, cells := 0, slots := 0, locals := 21 }) (PR D cI cJ [(sq, .inr (3, [.ref qc, .int (nI cnt)])), (qc, .inl (cI, 40, .inl (nF cd)))] [.ref sq, .int (nI st), .int (nI t)]) (QRi (fun r => r = bI (lfit cd st t))) 0 0 NA := by
  refine met_R (cc := cX3_lineFits) (maxL := 5) (ret := (some .boolean)) (by decide) rfl (Nat.le_of_ble_eq_true rfl) ?_
  intro p e s m args below meth c Q ls hQ hAt hKB hP hl
  obtain ⟨hx, hb, hr, hml, hlk, hts, hown, hnm⟩ := hAt
  have hown : s.vm.findClass RX3 = some m.cls := hown
  have hS : va_S NA s.heap s.heap [] := va_S.rf
  have hl : lv_has ls 5 [(0, .ref sq), (1, .int (nI st)), (2, .int (nI t))] := hl
  have hiX3 : ∀ w ∈ u_ws RX3 TX3 2, w ∈ wsX3_lineFits := by decide +kernel
  have fl11 := hts (.fieldLink RX3 11 "TaughtTongues$Signs" "codes" "[I") (by decide +kernel)
  have inX5 := hts (.initialized RX5) (by decide +kernel)
  have st_X5_formOf := hts (.static yX5_formOf) (by decide +kernel)
  refine lv_iconst (v := nI (0)) hx hb dX3_lineFits_0 (by decide) ?_
  refine lv_istore_n (lv' := [(3, .int (nI 0)), (0, .ref sq), (1, .int (nI st)), (2, .int (nI t))]) hx hb dX3_lineFits_1 rfl hl (by decide) rfl (fun ls hl => ?_)
  have L2 : ∀ (n : Nat) (k : Nat) (H : Heap) (locs : List Loc) (ls : Array Slot), 3 - k < n → (k ≤ 3) → (∀ j, j < k → lfm cd st t j = true) → va_P D vwCl [(sq, .inr (3, [.ref qc, .int (nI cnt)])), (qc, .inl (cI, 40, .inl (nF cd)))] H → va_S NA s.heap H locs → lv_has ls 5 [(3, .int (nI k)), (0, .ref sq), (1, .int (nI st)), (2, .int (nI t))] → W p l e ({ frames := 1, cells := 0, slots := 0, locals := 21 }) s m args below meth c H locs 0 0 Q (F0 m 2 ls []) := by
    intro n
    induction n with
    | zero => intro k H locs ls hm; exact absurd hm (Nat.not_lt_zero _)
    | succ n ih2 =>
      intro k H locs ls hm hk hok hP hS hl
      refine lv_iload_n hx hb dX3_lineFits_2 rfl (lv_at hl 0 rfl) ?_
      refine lv_iconst (v := nI (3)) hx hb dX3_lineFits_3 (by decide) ?_
      refine r_icmp_ge (a := k) (b := 3) (tgt := 45) hx hb dX3_lineFits_4 (by decide) (by omega) (by omega)  (fun c4 => ?_) (fun c4 => ?_)
      · skip
        refine lv_iconst (v := nI (1)) hx hb dX3_lineFits_45 (by decide) ?_
        exact r_zret (b := true) hx hb hr hlk hQ hS rfl (by rw [lfit_t (fun m hm => hok m (by omega))]) dX3_lineFits_46
      refine lv_aload_n hx hb dX3_lineFits_7 rfl (lv_at hl 1 rfl) ?_
      refine va_get (D := D) (ci := 3) (v := .ref qc) (C := RX3) (T := TX3) (N := 2) hx hb hts hiX3 hown hKB.1 hP 0 rfl rfl 0 (by decide) fl11 (fun _ h9 => h9) rfl dX3_lineFits_8 ?_
      refine lv_iload_n hx hb dX3_lineFits_11 rfl (lv_at hl 2 rfl) ?_
      refine lv_iload_n hx hb dX3_lineFits_12 rfl (lv_at hl 0 rfl) ?_
      refine r_iadd (a := st) (b := k) hx hb dX3_lineFits_13  ?_
      refine r_iald (i := st + k) (v := nI (cd (st + k))) hx hb hKB.1 hP 1 0 rfl rfl (by omega) (by decide) (rfl) dX3_lineFits_14 ?_
      refine lv_istore (lv' := [(4, .int (nI (cd (st + k)))), (3, .int (nI k)), (0, .ref sq), (1, .int (nI st)), (2, .int (nI t))]) hx hb dX3_lineFits_15 hl (by decide) rfl (fun ls hl => ?_)
      have hco1 := hco k c4
      have hfo := fo_le t k
      refine lv_iload hx hb dX3_lineFits_17 (lv_at hl 0 rfl) ?_
      refine lv_bipush (v := nI (42)) hx hb dX3_lineFits_19 (by decide) ?_
      refine r_icmp_eq (a := cd (st + k)) (b := 42) (tgt := 39) hx hb dX3_lineFits_21 (by decide) (by omega) (by omega)  (fun c21 => ?_) (fun c21 => ?_)
      · skip
        refine lv_iinc (v := nI (k + 1)) (lv' := [(3, .int (nI (k + 1))), (4, .int (nI (cd (st + k)))), (0, .ref sq), (1, .int (nI st)), (2, .int (nI t))]) hx hb dX3_lineFits_39 hl (k := 1) rfl (n_inc _ 1) (by decide) rfl (fun ls hl => ?_)
        refine lv_goto (tgt := 2) hx hb dX3_lineFits_42 (by decide) ?_
        exact ih2 (k + 1) _ _ _ (by omega) (by omega) (lfm_s hok (by first | (simp [lfm, c21]; done) | (simp [lfm, c34]; done))) hP hS (lv_sub hl [0, 2, 3, 4] rfl)
      refine lv_iload hx hb dX3_lineFits_24 (lv_at hl 0 rfl) ?_
      refine lv_bipush (v := nI (48)) hx hb dX3_lineFits_26 (by decide) ?_
      refine r_isub (a := cd (st + k)) (b := 48) hx hb dX3_lineFits_28 (by omega) ?_
      refine lv_iload_n hx hb dX3_lineFits_29 rfl (lv_at hl 4 rfl) ?_
      refine lv_iload_n hx hb dX3_lineFits_30 rfl (lv_at hl 1 rfl) ?_
      have hPc := hP.sub (ws' := []) [] rfl
      refine r_calli hP hS (va_runSN (As := [.int (nI t), .int (nI k)]) (rest := [.int (nI ((cd (st + k)) - 48))]) ⟨hx, hb, hml, hown, hts⟩ (m_X5_formOf l D cI cJ t k (by omega) (by omega)) (⟨va_cnB 2 hts gX3_lineFits_X5_formOf_n26 rfl rfl rfl (hKB.2.m (q := ("TaughtTongues$Signs", 26, yX5_formOf)) 6 rfl) inX5 (by decide +kernel) ⟨Nat.le_of_ble_eq_true rfl, Nat.le_of_ble_eq_true rfl⟩, st_X5_formOf, trivial⟩) ⟨PR.blind, fun U hU hW => ⟨rfl, hKB.warm hW, by rw [hU]; exact hPc⟩⟩ rfl rfl hl.1 rfl (lv_room (Nat.le_of_ble_eq_true rfl)) dX3_lineFits_31 ⟨Nat.le_of_ble_eq_true rfl, Nat.le_of_ble_eq_true rfl⟩) (fun r1 H locs hw31 hP hS => ?_)
      have hw31 : r1 = nI (fo t k) := hw31
      subst hw31
      refine r_icmp_eq (a := (cd (st + k)) - 48) (b := fo t k) (tgt := 39) hx hb dX3_lineFits_34 (by decide) (by omega) (by omega)  (fun c34 => ?_) (fun c34 => ?_)
      · skip
        refine lv_iinc (v := nI (k + 1)) (lv' := [(3, .int (nI (k + 1))), (4, .int (nI (cd (st + k)))), (0, .ref sq), (1, .int (nI st)), (2, .int (nI t))]) hx hb dX3_lineFits_39 hl (k := 1) rfl (n_inc _ 1) (by decide) rfl (fun ls hl => ?_)
        refine lv_goto (tgt := 2) hx hb dX3_lineFits_42 (by decide) ?_
        exact ih2 (k + 1) _ _ _ (by omega) (by omega) (lfm_s hok (by first | (simp [lfm, c21]; done) | (simp [lfm, c34]; done))) hP hS (lv_sub hl [0, 2, 3, 4] rfl)
      refine lv_iconst (v := nI (0)) hx hb dX3_lineFits_37 (by decide) ?_
      exact r_zret (b := false) hx hb hr hlk hQ hS rfl (by rw [lfit_f c4 (by simp [lfm, c21, c34])]) dX3_lineFits_38
  exact L2 (3 - 0 + 1) 0 _ _ _ (Nat.lt_succ_self _) (by omega) (fun j hj => absurd hj (Nat.not_lt_zero j)) hP hS hl

set_option maxHeartbeats 4000000 in
set_option maxRecDepth 100000 in
theorem m_X3_numberFor (l : Launch) (D : va_G) (cI cJ : ClassId) (sq : Nat) (qc : Nat) (cnt : Nat) (cd : Nat → Nat) (t : Nat) (nl : Nat) (ht : t < 8) (hnl : cnt + 1 = 6 * nl) (hc40 : cnt ≤ 40) (hok : okT cd nl) : Met l yX3_numberFor wsX3_numberFor ({ frames := 2, cells := 0, slots := 0, locals := 45 }) (PR D cI cJ [(sq, .inr (3, [.ref qc, .int (nI cnt)])), (qc, .inl (cI, 40, .inl (nF cd)))] [.ref sq, .int (nI t)]) (QRi (fun r => r = nI (nfr cd t nl 0))) 0 0 NA := by
  refine met_R (cc := cX3_numberFor) (maxL := 3) (ret := (some .int)) (by decide) rfl (Nat.le_of_ble_eq_true rfl) ?_
  intro p e s m args below meth c Q ls hQ hAt hKB hP hl
  obtain ⟨hx, hb, hr, hml, hlk, hts, hown, hnm⟩ := hAt
  have hown : s.vm.findClass RX3 = some m.cls := hown
  have hS : va_S NA s.heap s.heap [] := va_S.rf
  have hl : lv_has ls 3 [(0, .ref sq), (1, .int (nI t))] := hl
  have hiX3 : ∀ w ∈ u_ws RX3 TX3 2, w ∈ wsX3_numberFor := by decide +kernel
  have fl15 := hts (.fieldLink RX3 15 "TaughtTongues$Signs" "count" "I") (by decide +kernel)
  have fl11 := hts (.fieldLink RX3 11 "TaughtTongues$Signs" "codes" "[I") (by decide +kernel)
  refine lv_iconst (v := nI (0)) hx hb dX3_numberFor_0 (by decide) ?_
  refine lv_istore_n (lv' := [(2, .int (nI 0)), (0, .ref sq), (1, .int (nI t))]) hx hb dX3_numberFor_1 rfl hl (by decide) rfl (fun ls hl => ?_)
  have hw1 : nI (0) = nI (6 * 0) := rfl
  rw [hw1] at hl
  have L2 : ∀ (n : Nat) (k : Nat) (H : Heap) (locs : List Loc) (ls : Array Slot), nl - k < n → (k ≤ nl) → (nfr cd t nl 0 = nfr cd t (nl - k) k) → va_P D vwCl [(sq, .inr (3, [.ref qc, .int (nI cnt)])), (qc, .inl (cI, 40, .inl (nF cd)))] H → va_S NA s.heap H locs → lv_has ls 3 [(2, .int (nI (6 * k))), (0, .ref sq), (1, .int (nI t))] → W p l e ({ frames := 2, cells := 0, slots := 0, locals := 45 }) s m args below meth c H locs 0 0 Q (F0 m 2 ls []) := by
    intro n
    induction n with
    | zero => intro k H locs ls hm; exact absurd hm (Nat.not_lt_zero _)
    | succ n ih2 =>
      intro k H locs ls hm hk hres hP hS hl
      refine lv_iload_n hx hb dX3_numberFor_2 rfl (lv_at hl 0 rfl) ?_
      refine lv_iconst (v := nI (4)) hx hb dX3_numberFor_3 (by decide) ?_
      refine r_iadd (a := 6 * k) (b := 4) hx hb dX3_numberFor_4  ?_
      refine lv_aload_n hx hb dX3_numberFor_5 rfl (lv_at hl 1 rfl) ?_
      refine va_get (D := D) (ci := 3) (v := .int (nI cnt)) (C := RX3) (T := TX3) (N := 2) hx hb hts hiX3 hown hKB.1 hP 0 rfl rfl 1 (by decide) fl15 (fun _ h9 => h9) rfl dX3_numberFor_6 ?_
      refine r_icmp_ge (a := (6 * k) + 4) (b := cnt) (tgt := 39) hx hb dX3_numberFor_9 (by decide) (by omega) (by omega)  (fun c9 => ?_) (fun c9 => ?_)
      · skip
        refine lv_iconst (v := nI (1)) hx hb dX3_numberFor_39 (by decide) ?_
        exact r_iret hx hb hr hlk hQ hS (by rw [hres, show nl - k = 0 by omega]; rfl) dX3_numberFor_40
      refine lv_aload_n hx hb dX3_numberFor_12 rfl (lv_at hl 1 rfl) ?_
      refine lv_iload_n hx hb dX3_numberFor_13 rfl (lv_at hl 0 rfl) ?_
      refine lv_iload_n hx hb dX3_numberFor_14 rfl (lv_at hl 2 rfl) ?_
      have hPc := hP.sub (ws' := [(sq, .inr (3, [.ref qc, .int (nI cnt)])), (qc, .inl (cI, 40, .inl (nF cd)))]) [0, 1] rfl
      refine r_calli hP hS (va_runV (As := [.int (nI (6 * k)), .int (nI t)]) (rest := []) ⟨hx, hb, hml, hown, hts⟩ (m_X3_lineFits l D cI cJ sq qc cnt cd (6 * k) t (by omega) (by omega) ((hok k (by omega)).1)) (cwV 2 hts gX3_numberFor_X3_lineFits rfl rfl rfl (by decide +kernel) ⟨Nat.le_of_ble_eq_true rfl, Nat.le_of_ble_eq_true rfl⟩) ⟨PR.blind, va_recv hKB.1 hP (ci := 3) (q0 := 0) rfl rfl, fun U hU hW => ⟨rfl, hKB.warm hW, by rw [hU]; exact hPc⟩⟩ rfl rfl hl.1 rfl (lv_room (Nat.le_of_ble_eq_true rfl)) dX3_numberFor_15 ⟨Nat.le_of_ble_eq_true rfl, Nat.le_of_ble_eq_true rfl⟩) (fun r2 H locs hw15 hP hS => ?_)
      have hw15 : r2 = bI (lfit cd (6 * k) t) := hw15
      subst hw15
      refine r_bif_eq (b := lfit cd (6 * k) t) (tgt := 33) hx hb dX3_numberFor_18 (by decide) (fun c18 => ?_) (fun c18 => ?_)
      · skip
        refine lv_iinc (v := nI ((6 * k) + 6)) (lv' := [(2, .int (nI ((6 * k) + 6))), (0, .ref sq), (1, .int (nI t))]) hx hb dX3_numberFor_33 hl (k := 0) rfl (n_inc _ 6) (by decide) rfl (fun ls hl => ?_)
        have hw3 : nI ((6 * k) + 6) = nI (6 * (k + 1)) := by rw [Nat.mul_succ]
        rw [hw3] at hl
        refine lv_goto (tgt := 2) hx hb dX3_numberFor_36 (by decide) ?_
        exact ih2 (k + 1) _ _ _ (by omega) (by omega) (hres.trans (nfr_miss (by omega) c18)) hP hS hl
      refine lv_aload_n hx hb dX3_numberFor_21 rfl (lv_at hl 1 rfl) ?_
      refine va_get (D := D) (ci := 3) (v := .ref qc) (C := RX3) (T := TX3) (N := 2) hx hb hts hiX3 hown hKB.1 hP 0 rfl rfl 0 (by decide) fl11 (fun _ h9 => h9) rfl dX3_numberFor_22 ?_
      refine lv_iload_n hx hb dX3_numberFor_25 rfl (lv_at hl 0 rfl) ?_
      refine lv_iconst (v := nI (4)) hx hb dX3_numberFor_26 (by decide) ?_
      refine r_iadd (a := 6 * k) (b := 4) hx hb dX3_numberFor_27  ?_
      refine r_iald (i := (6 * k) + 4) (v := nI (cd ((6 * k) + 4))) hx hb hKB.1 hP 1 0 rfl rfl (by omega) (by decide) (rfl) dX3_numberFor_28 ?_
      refine lv_bipush (v := nI (48)) hx hb dX3_numberFor_29 (by decide) ?_
      refine r_isub (a := cd ((6 * k) + 4)) (b := 48) hx hb dX3_numberFor_31 (by have := (hok k (by omega)).2; omega) ?_
      exact r_iret hx hb hr hlk hQ hS (by rw [hres, nfr_hit (by omega) c18]) dX3_numberFor_32
  exact L2 (nl - 0 + 1) 0 _ _ _ (Nat.lt_succ_self _) (by omega) (rfl) hP hS hl
end
section
/-! the tables of Lots -/
theorem P_arrI {D : va_G} {cl : List vw_C} {ws : va_W} {H : Heap} (h : va_P D cl ws H) (k : Nat) {a : Nat} {cA : ClassId} {n : Nat} {f g : Nat → Int32} (hk : ws[k]? = some (a, .inl (cA, n, .inl f))) (hfg : ∀ j, j < n → f j = g j) : va_P D cl (ws.set k (a, .inl (cA, n, .inl g))) H := by
  intro i q hi
  rw [List.getElem?_set] at hi
  by_cases e : k = i
  · subst e
    rw [if_pos rfl] at hi
    split at hi
    · cases hi
      have h1 : H[a]? = some (vp_cell cA (n, .inl f)) := h k _ hk
      show H[a]? = some (vp_cell cA (n, .inl g))
      rw [h1]
      congr 1
      rw [vp_cell_i, vp_cell_i]
      unfold arrV
      congr 2
      funext j
      show Value.int (f j.val) = Value.int (g j.val)
      rw [hfg j.val j.isLt]
    · cases hi
  · rw [if_neg e] at hi
    exact h i q hi
theorem P_arrJ {D : va_G} {cl : List vw_C} {ws : va_W} {H : Heap} (h : va_P D cl ws H) (k : Nat) {a : Nat} {cA : ClassId} {n : Nat} {f g : Nat → Int64} (hk : ws[k]? = some (a, .inl (cA, n, .inr (.inl f)))) (hfg : ∀ j, j < n → f j = g j) : va_P D cl (ws.set k (a, .inl (cA, n, .inr (.inl g)))) H := by
  intro i q hi
  rw [List.getElem?_set] at hi
  by_cases e : k = i
  · subst e
    rw [if_pos rfl] at hi
    split at hi
    · cases hi
      have h1 : H[a]? = some (vp_cell cA (n, .inr (.inl f))) := h k _ hk
      show H[a]? = some (vp_cell cA (n, .inr (.inl g)))
      rw [h1]
      congr 1
      rw [vp_cell_l, vp_cell_l]
      unfold arrV
      congr 2
      funext j
      show Value.long (f j.val) = Value.long (g j.val)
      rw [hfg j.val j.isLt]
    · cases hi
  · rw [if_neg e] at hi
    exact h i q hi
theorem D_arrI {A : Nat → Prop} {ws : va_W} (h : va_D A ws) (k : Nat) {a : Nat} {cA : ClassId} {n : Nat} {f g : Nat → Int32} (hk : ws[k]? = some (a, .inl (cA, n, .inl f))) : va_D A (ws.set k (a, .inl (cA, n, .inl g))) := h.set hk
theorem D_arrJ {A : Nat → Prop} {ws : va_W} (h : va_D A ws) (k : Nat) {a : Nat} {cA : ClassId} {n : Nat} {f g : Nat → Int64} (hk : ws[k]? = some (a, .inl (cA, n, .inr (.inl f)))) : va_D A (ws.set k (a, .inl (cA, n, .inr (.inl g)))) := h.set hk
def SML : List Nat := [0, 0, 0, 0, 0, 0, 0, 1, 1, 1, 1, 1, 1, 2, 2, 2, 2, 2, 3, 3, 3, 3, 4, 4, 4, 5, 5, 6, 7, 7, 7, 7, 7, 7, 8, 8, 8, 8, 8, 9, 9, 9, 9, 10, 10, 10, 11, 11, 12, 13, 13, 13, 13, 13, 14, 14, 14, 14, 15, 15, 15, 16, 16, 17, 18, 18, 18, 18, 19, 19, 19, 20, 20, 21, 22, 22, 22, 23, 23, 24, 25, 25, 26, 27, 28, 28, 28, 28, 28, 28, 29, 29, 29, 29, 29, 30, 30, 30, 30, 31, 31, 31, 32, 32, 33, 34, 34, 34, 34, 34, 35, 35, 35, 35, 36, 36, 36, 37, 37, 38, 39, 39, 39, 39, 40, 40, 40, 41, 41, 42, 43, 43, 43, 44, 44, 45, 46, 46, 47, 48, 49, 49, 49, 49, 49, 50, 50, 50, 50, 51, 51, 51, 52, 52, 53, 54, 54, 54, 54, 55, 55, 55, 56, 56, 57, 58, 58, 58, 59, 59, 60, 61, 61, 62, 63, 64, 64, 64, 64, 65, 65, 65, 66, 66, 67, 68, 68, 68, 69, 69, 70, 71, 71, 72, 73, 74, 74, 74, 75, 75, 76, 77, 77, 78, 79, 80, 80, 81, 82, 83]
def SM (j : Nat) : Nat := SML.getD j 0
def LAL : List Nat := [0, 0, 1, 2, 3, 4, 5, 0, 1, 2, 3, 4, 5, 1, 2, 3, 4, 5, 2, 3, 4, 5, 3, 4, 5, 4, 5, 5, 0, 1, 2, 3, 4, 5, 1, 2, 3, 4, 5, 2, 3, 4, 5, 3, 4, 5, 4, 5, 5, 1, 2, 3, 4, 5, 2, 3, 4, 5, 3, 4, 5, 4, 5, 5, 2, 3, 4, 5, 3, 4, 5, 4, 5, 5, 3, 4, 5, 4, 5, 5, 4, 5, 5, 5, 0, 1, 2, 3, 4, 5, 1, 2, 3, 4, 5, 2, 3, 4, 5, 3, 4, 5, 4, 5, 5, 1, 2, 3, 4, 5, 2, 3, 4, 5, 3, 4, 5, 4, 5, 5, 2, 3, 4, 5, 3, 4, 5, 4, 5, 5, 3, 4, 5, 4, 5, 5, 4, 5, 5, 5, 1, 2, 3, 4, 5, 2, 3, 4, 5, 3, 4, 5, 4, 5, 5, 2, 3, 4, 5, 3, 4, 5, 4, 5, 5, 3, 4, 5, 4, 5, 5, 4, 5, 5, 5, 2, 3, 4, 5, 3, 4, 5, 4, 5, 5, 3, 4, 5, 4, 5, 5, 4, 5, 5, 5, 3, 4, 5, 4, 5, 5, 4, 5, 5, 5, 4, 5, 5, 5, 5]
def LA (j : Nat) : Nat := LAL.getD j 0
def GRL : List Nat := [1, 2, 3, 4, 5, 6, 7, 8, 9, 10, 11, 12, 8, 13, 14, 15, 16, 17, 9, 14, 18, 19, 20, 21, 10, 15, 19, 22, 23, 24, 11, 16, 20, 23, 25, 26, 12, 17, 21, 24, 26, 27, 28, 29, 30, 31, 32, 33, 29, 34, 35, 36, 37, 38, 30, 35, 39, 40, 41, 42, 31, 36, 40, 43, 44, 45, 32, 37, 41, 44, 46, 47, 33, 38, 42, 45, 47, 48, 34, 49, 50, 51, 52, 53, 35, 50, 54, 55, 56, 57, 36, 51, 55, 58, 59, 60, 37, 52, 56, 59, 61, 62, 38, 53, 57, 60, 62, 63, 39, 54, 64, 65, 66, 67, 40, 55, 65, 68, 69, 70, 41, 56, 66, 69, 71, 72, 42, 57, 67, 70, 72, 73, 43, 58, 68, 74, 75, 76, 44, 59, 69, 75, 77, 78, 45, 60, 70, 76, 78, 79, 46, 61, 71, 77, 80, 81, 47, 62, 72, 78, 81, 82, 48, 63, 73, 79, 82, 83, 84, 85, 86, 87, 88, 89, 85, 90, 91, 92, 93, 94, 86, 91, 95, 96, 97, 98, 87, 92, 96, 99, 100, 101, 88, 93, 97, 100, 102, 103, 89, 94, 98, 101, 103, 104, 90, 105, 106, 107, 108, 109, 91, 106, 110, 111, 112, 113, 92, 107, 111, 114, 115, 116, 93, 108, 112, 115, 117, 118, 94, 109, 113, 116, 118, 119, 95, 110, 120, 121, 122, 123, 96, 111, 121, 124, 125, 126, 97, 112, 122, 125, 127, 128, 98, 113, 123, 126, 128, 129, 99, 114, 124, 130, 131, 132, 100, 115, 125, 131, 133, 134, 101, 116, 126, 132, 134, 135, 102, 117, 127, 133, 136, 137, 103, 118, 128, 134, 137, 138, 104, 119, 129, 135, 138, 139, 105, 140, 141, 142, 143, 144, 106, 141, 145, 146, 147, 148, 107, 142, 146, 149, 150, 151, 108, 143, 147, 150, 152, 153, 109, 144, 148, 151, 153, 154, 110, 145, 155, 156, 157, 158, 111, 146, 156, 159, 160, 161, 112, 147, 157, 160, 162, 163, 113, 148, 158, 161, 163, 164, 114, 149, 159, 165, 166, 167, 115, 150, 160, 166, 168, 169, 116, 151, 161, 167, 169, 170, 117, 152, 162, 168, 171, 172, 118, 153, 163, 169, 172, 173, 119, 154, 164, 170, 173, 174, 120, 155, 175, 176, 177, 178, 121, 156, 176, 179, 180, 181, 122, 157, 177, 180, 182, 183, 123, 158, 178, 181, 183, 184, 124, 159, 179, 185, 186, 187, 125, 160, 180, 186, 188, 189, 126, 161, 181, 187, 189, 190, 127, 162, 182, 188, 191, 192, 128, 163, 183, 189, 192, 193, 129, 164, 184, 190, 193, 194, 130, 165, 185, 195, 196, 197, 131, 166, 186, 196, 198, 199, 132, 167, 187, 197, 199, 200, 133, 168, 188, 198, 201, 202, 134, 169, 189, 199, 202, 203, 135, 170, 190, 200, 203, 204, 136, 171, 191, 201, 205, 206, 137, 172, 192, 202, 206, 207, 138, 173, 193, 203, 207, 208, 139, 174, 194, 204, 208, 209]
def GR (j : Nat) : Nat := GRL.getD j 0
def NXL : List Nat := [1, 7, 13, 18, 22, 25, 27, 28, 34, 39, 43, 46, 48, 49, 54, 58, 61, 63, 64, 68, 71, 73, 74, 77, 79, 80, 82, 83, 84, 90, 95, 99, 102, 104, 105, 110, 114, 117, 119, 120, 124, 127, 129, 130, 133, 135, 136, 138, 139, 140, 145, 149, 152, 154, 155, 159, 162, 164, 165, 168, 170, 171, 173, 174, 175, 179, 182, 184, 185, 188, 190, 191, 193, 194, 195, 198, 200, 201, 203, 204, 205, 207, 208, 209, 210]
def NX (j : Nat) : Nat := NXL.getD j 0
theorem tb_LA : ∀ j, j < 210 → LA j < 6 := by decide +kernel
theorem tb_SM : ∀ j, j < 210 → SM j < 84 := by decide +kernel
theorem tb_SMl : ∀ j, j < 210 → 0 < j → SM j < j := by decide +kernel
theorem tb_GR : ∀ j, j < 504 → GR j < 210 := by decide +kernel
theorem tb_NX : ∀ lt, lt < 84 → NX (lt + 1) = NX lt + (6 - LA lt) := by decide +kernel
theorem tb_NXl : ∀ lt, lt < 84 → NX lt + (6 - LA lt) ≤ 210 := by decide +kernel
theorem tb_mk0 : ∀ lt, lt < 84 → ∀ s, s < 6 → LA lt ≤ s → GR (lt * 6 + s) = NX lt + (s - LA lt) ∧ SM (NX lt + (s - LA lt)) = lt ∧ LA (NX lt + (s - LA lt)) = s := by decide +kernel
theorem tb_NXi : ∀ sz, sz < 4 → NX (fT sz) = fT (sz + 1) ∧ NX (fT (sz + 1)) = fT (sz + 2) ∧ fT (sz + 1) ≤ 84 ∧ fT sz ≤ fT (sz + 1) ∧ fT (sz + 2) ≤ 210 := by decide +kernel
theorem tb_lo : ∀ lt, lt < 84 → lt < NX lt := by decide +kernel
theorem tb_jn : ∀ lt, lt < 84 → ∀ s, s < LA lt → LA (GR (SM lt * 6 + s)) ≤ LA lt ∧ GR (SM lt * 6 + s) < 84 ∧ GR (lt * 6 + s) = GR (GR (SM lt * 6 + s) * 6 + LA lt) := by decide +kernel
theorem tb_jn2 : ∀ sz, sz < 4 → ∀ lt, lt < 84 → (fT sz ≤ lt ∧ lt < fT (sz + 1)) → ∀ s, s < LA lt → SM lt < fT sz ∧ fT sz ≤ GR (SM lt * 6 + s) ∧ GR (SM lt * 6 + s) < fT (sz + 1) := by decide +kernel
theorem tb_f5 : fT 5 = 210 := rfl
/-- greater's places that are laid while size sz is made, up to lot lt and saying s -/
def gD (gr : Nat → Nat) (B lt s : Nat) : Prop := (∀ j, j < B * 6 → gr j = GR j) ∧ ∀ a b, B ≤ a → b < 6 → LA a ≤ b → (a < lt ∨ (a = lt ∧ b < s)) → gr (a * 6 + b) = GR (a * 6 + b)
theorem gD_s {gr : Nat → Nat} {B lt s x : Nat} (h : gD gr B lt s) (hB : B ≤ lt) (hs : s < 6) (hx : x = GR (lt * 6 + s)) : gD (nu gr (lt * 6 + s) x) B lt (s + 1) := by
  refine ⟨fun j hj => ?_, fun a b ha hb hl hc => ?_⟩
  · rw [nu_n (by omega)]; exact h.1 j hj
  · by_cases e : a * 6 + b = lt * 6 + s
    · rw [e, nu_s, hx]
    · rw [nu_n e]
      exact h.2 a b ha hb hl (by omega)
theorem gD_n {gr : Nat → Nat} {B lt : Nat} (h : gD gr B lt 6) : ∀ s, s ≤ LA (lt + 1) → gD gr B (lt + 1) s := fun s hs => ⟨h.1, fun a b ha hb hl hc => h.2 a b ha hb hl (by
  rcases hc with hc | ⟨rfl, hc⟩
  · omega
  · omega)⟩
/-- greater's places that are joined -/
def gJ (gr : Nat → Nat) (E lt s : Nat) : Prop := (∀ a b, b < 6 → (a < lt ∨ (a = lt ∧ b < s)) → gr (a * 6 + b) = GR (a * 6 + b)) ∧ ∀ a b, a < E → b < 6 → LA a ≤ b → gr (a * 6 + b) = GR (a * 6 + b)
theorem gJ_s {gr : Nat → Nat} {E lt s x : Nat} (h : gJ gr E lt s) (hs : s < 6) (hx : x = GR (lt * 6 + s)) : gJ (nu gr (lt * 6 + s) x) E lt (s + 1) := by
  refine ⟨fun a b hb hc => ?_, fun a b ha hb hl => ?_⟩
  · by_cases e : a * 6 + b = lt * 6 + s
    · rw [e, nu_s, hx]
    · rw [nu_n e]
      exact h.1 a b hb (by omega)
  · by_cases e : a * 6 + b = lt * 6 + s
    · rw [e, nu_s, hx]
    · rw [nu_n e]
      exact h.2 a b ha hb hl
theorem gJ_n {gr : Nat → Nat} {E lt s : Nat} (h : gJ gr E lt s) (hE : lt < E) (hs : LA lt ≤ s) : gJ gr E (lt + 1) 0 := by
  refine ⟨fun a b hb hc => ?_, h.2⟩
  rcases Nat.lt_or_ge b s with q | q
  · exact h.1 a b hb (by omega)
  · rcases (show a < lt ∨ a = lt by omega) with q2 | rfl
    · exact h.1 a b hb (Or.inl q2)
    · exact h.2 a b hE hb (by omega)
theorem gJ_0 {gr : Nat → Nat} {B E : Nat} (h : gD gr B E 0) : gJ gr E B 0 := by
  refine ⟨fun a b hb hc => h.1 _ (by omega), fun a b ha hb hl => ?_⟩
  rcases Nat.lt_or_ge a B with q | q
  · exact h.1 _ (by omega)
  · exact h.2 a b q hb hl (Or.inl ha)
theorem gD_0 {gr : Nat → Nat} {E : Nat} (h : gJ gr E E 0) : ∀ s, s ≤ LA E → gD gr E E s := fun s hs => ⟨fun j hj => by
  have := h.1 (j / 6) (j % 6) (by omega) (Or.inl (by omega))
  rw [show j / 6 * 6 + j % 6 = j by omega] at this
  exact this, fun a b ha hb hl hc => by
  rcases hc with hc | ⟨rfl, hc⟩
  · omega
  · omega⟩
theorem ag_s {f g : Nat → Nat} {k x : Nat} (h : ∀ j, j < k → f j = g j) (hx : x = g k) : ∀ j, j < k + 1 → nu f k x j = g j := fun j hj => by
  by_cases e : j = k
  · subst e; rw [nu_s, hx]
  · rw [nu_n e]; exact h j (by omega)
/-- how often a saying is in a lot, and its size -/
def lc : Nat → Nat → Nat → Nat
  | 0, _, _ => 0
  | r + 1, lt, s => if lt = 0 then 0 else (if LA lt = s then 1 else 0) + lc r (SM lt) s
def lz : Nat → Nat → Nat
  | 0, _ => 0
  | r + 1, lt => if lt = 0 then 0 else 1 + lz r (SM lt)
def LC (lt s : Nat) : Nat := lc 4 lt s
def LZ (lt : Nat) : Nat := lz 4 lt
/-- lots whose size is at most r -/
def lotL (r lt : Nat) : Prop := lt < fT (r + 1)
theorem tb_r : ∀ r, r < 4 → ∀ lt, lt < 210 → lt < fT (r + 2) → SM lt < fT (r + 1) := by decide +kernel
theorem lc_0 (r s : Nat) : lc r 0 s = 0 := by cases r <;> rfl
theorem lz_0 (r : Nat) : lz r 0 = 0 := by cases r <;> rfl
/-- counting: what is laid, and what is still to come of rest, is the lot's -/
def cI2 (tn : Nat → Nat) (lt r rest : Nat) : Prop := ∀ s, s < 6 → tn s + lc r rest s = LC lt s
theorem cI2_0 (tn : Nat → Nat) (lt : Nat) : cI2 (nfl tn 0 6) lt 4 lt := fun s hs => by
  show nfl tn 0 6 s + lc 4 lt s = lc 4 lt s
  unfold nfl
  rw [if_pos hs, Nat.zero_add]
theorem cI2_s {tn : Nat → Nat} {lt r rest : Nat} (h : cI2 tn lt (r + 1) rest) (h0 : 0 < rest) : cI2 (nu tn (LA rest) (tn (LA rest) + 1)) lt r (SM rest) := fun s hs => by
  have h1 := h s hs
  unfold lc at h1
  rw [if_neg (by omega)] at h1
  by_cases e : s = LA rest
  · subst e
    rw [nu_s]
    rw [if_pos rfl] at h1
    omega
  · rw [nu_n e]
    rw [if_neg (fun q => e q.symm)] at h1
    omega
theorem cI2_e {tn : Nat → Nat} {lt r rest : Nat} (h : cI2 tn lt r rest) (h0 : rest = 0 ∨ r = 0) : ∀ s, s < 6 → tn s = LC lt s := fun s hs => by
  have h1 := h s hs
  rcases h0 with rfl | rfl
  · rw [lc_0] at h1; omega
  · have : lc 0 rest s = 0 := rfl
    omega
theorem gD_up {gr : Nat → Nat} {B lt : Nat} (h : gD gr B lt 0) : gD gr B lt (LA lt) := ⟨h.1, fun a b ha hb hl hc => h.2 a b ha hb hl (by
  rcases hc with hc | ⟨rfl, hc⟩
  · exact Or.inl hc
  · omega)⟩
theorem tb_le : ∀ sz, sz < 4 → fT (sz + 1) ≤ fT (sz + 2) := by decide +kernel
end
section
set_option maxHeartbeats 4000000 in
set_option maxRecDepth 100000 in
theorem m_X2_makeGreaterOnes (l : Launch) (D : va_G) (cI cJ : ClassId) (tT : Nat) (sz : Nat) (oq : Nat) (lq : Nat) (smq : Nat) (laq : Nat) (grq : Nat) (chq : Nat) (cq : Nat) (sm : Nat → Nat) (la : Nat → Nat) (gr : Nat → Nat) (zz : Nat) (hz : zz < 4) (hsm : ∀ j, j < fT (zz + 1) → sm j = SM j) (hla : ∀ j, j < fT (zz + 1) → la j = LA j) (hgr : gD gr (fT zz) (fT zz) 0) : Met l yX2_makeGreaterOnes wsX2_makeGreaterOnes ({ frames := 0, cells := 0, slots := 0, locals := 0 }) (PXT D cI cJ tT [(oq, .inr (2, [.ref lq, .ref smq, .ref laq, .ref grq, .ref chq, .ref cq])), (smq, .inl (cI, 210, .inl (nF sm))), (laq, .inl (cI, 210, .inl (nF la))), (grq, .inl (cI, 504, .inl (nF gr)))] sz [.ref oq, .int (nI zz)]) (QWv D (S := (Nat → Nat) × (Nat → Nat) × (Nat → Nat)) [(oq, .inr (2, [.ref lq, .ref smq, .ref laq, .ref grq, .ref chq, .ref cq])), (smq, .inl (cI, 210, .inl (nF sm))), (laq, .inl (cI, 210, .inl (nF la))), (grq, .inl (cI, 504, .inl (nF gr)))] sz (fun u => (∀ j, j < fT (zz + 2) → u.1 j = SM j) ∧ (∀ j, j < fT (zz + 2) → u.2.1 j = LA j) ∧ gD u.2.2 (fT zz) (fT (zz + 1)) 0) (fun u => [(oq, .inr (2, [.ref lq, .ref smq, .ref laq, .ref grq, .ref chq, .ref cq])), (smq, .inl (cI, 210, .inl (nF u.1))), (laq, .inl (cI, 210, .inl (nF u.2.1))), (grq, .inl (cI, 504, .inl (nF u.2.2)))])) 0 0 (va_A [(oq, .inr (2, [.ref lq, .ref smq, .ref laq, .ref grq, .ref chq, .ref cq])), (smq, .inl (cI, 210, .inl (nF sm))), (laq, .inl (cI, 210, .inl (nF la))), (grq, .inl (cI, 504, .inl (nF gr)))] sz) := by
  refine met_XT (cc := cX2_makeGreaterOnes) (maxL := 5) (ret := none) (by decide) rfl (Nat.le_of_ble_eq_true rfl) ?_
  intro p e s m args below meth c Q ls A hQ hAe hFT hAt hKB hP hD hA hl
  obtain ⟨hx, hb, hr, hml, hlk, hts, hown, hnm⟩ := hAt
  have hown : s.vm.findClass RX2 = some m.cls := hown
  have hS : va_S A s.heap s.heap [] := va_S.rf
  have hl : lv_has ls 5 [(0, .ref oq), (1, .int (nI zz))] := hl
  have fl18 := hts (.fieldLink RX2 18 "TaughtTongues$Lots" "FIRST" "[I") (by decide +kernel)
  have hiX2 : ∀ w ∈ u_ws RX2 TX2 6, w ∈ wsX2_makeGreaterOnes := by decide +kernel
  have fl15 := hts (.fieldLink RX2 15 "TaughtTongues$Lots" "last" "[I") (by decide +kernel)
  have fl21 := hts (.fieldLink RX2 21 "TaughtTongues$Lots" "greater" "[I") (by decide +kernel)
  have fl11 := hts (.fieldLink RX2 11 "TaughtTongues$Lots" "smaller" "[I") (by decide +kernel)
  have hN := tb_NXi zz hz
  refine va_gets hx hb hFT.1 hS hown fl18 (fun _ h9 => h9) dX2_makeGreaterOnes_0 ?_
  refine lv_iload_n hx hb dX2_makeGreaterOnes_3 rfl (lv_at hl 1 rfl) ?_
  refine lv_iconst (v := nI (1)) hx hb dX2_makeGreaterOnes_4 (by decide) ?_
  refine r_iadd (a := zz) (b := 1) hx hb dX2_makeGreaterOnes_5  ?_
  refine r_ti (i := zz + 1) hx hb hFT hS (by omega) dX2_makeGreaterOnes_6 ?_
  refine lv_istore_n (lv' := [(2, .int (nI (fT (zz + 1)))), (0, .ref oq), (1, .int (nI zz))]) hx hb dX2_makeGreaterOnes_7 rfl hl (by decide) rfl (fun ls hl => ?_)
  refine va_gets hx hb hFT.1 hS hown fl18 (fun _ h9 => h9) dX2_makeGreaterOnes_8 ?_
  refine lv_iload_n hx hb dX2_makeGreaterOnes_11 rfl (lv_at hl 2 rfl) ?_
  refine r_ti (i := zz) hx hb hFT hS (by omega) dX2_makeGreaterOnes_12 ?_
  refine lv_istore_n (lv' := [(3, .int (nI (fT zz))), (2, .int (nI (fT (zz + 1)))), (0, .ref oq), (1, .int (nI zz))]) hx hb dX2_makeGreaterOnes_13 rfl hl (by decide) rfl (fun ls hl => ?_)
  have hw1 : nI (fT (zz + 1)) = nI (NX (fT zz)) := by rw [hN.1]
  rw [hw1] at hl
  have L14 : ∀ (n : Nat) (lt : Nat) (sm3 : Nat → Nat) (la3 : Nat → Nat) (gr3 : Nat → Nat) (H : Heap) (locs : List Loc) (ls : Array Slot), fT (zz + 1) - lt < n → (fT zz ≤ lt ∧ lt ≤ fT (zz + 1)) → (∀ j, j < NX lt → sm3 j = SM j) → (∀ j, j < NX lt → la3 j = LA j) → (gD gr3 (fT zz) lt 0) → va_P D vwCl [(oq, .inr (2, [.ref lq, .ref smq, .ref laq, .ref grq, .ref chq, .ref cq])), (smq, .inl (cI, 210, .inl (nF sm3))), (laq, .inl (cI, 210, .inl (nF la3))), (grq, .inl (cI, 504, .inl (nF gr3)))] H → va_D A [(oq, .inr (2, [.ref lq, .ref smq, .ref laq, .ref grq, .ref chq, .ref cq])), (smq, .inl (cI, 210, .inl (nF sm3))), (laq, .inl (cI, 210, .inl (nF la3))), (grq, .inl (cI, 504, .inl (nF gr3)))] → va_S A s.heap H locs → lv_has ls 5 [(3, .int (nI lt)), (2, .int (nI (NX lt))), (0, .ref oq), (1, .int (nI zz))] → W p l e ({ frames := 0, cells := 0, slots := 0, locals := 0 }) s m args below meth c H locs 0 0 Q (F0 m 14 ls []) := by
    intro n
    induction n with
    | zero => intro lt sm3 la3 gr3 H locs ls hm; exact absurd hm (Nat.not_lt_zero _)
    | succ n ih14 =>
      intro lt sm3 la3 gr3 H locs ls hm hlt hs3 hl3 hg3 hP hD hS hl
      refine lv_iload_n hx hb dX2_makeGreaterOnes_14 rfl (lv_at hl 0 rfl) ?_
      refine va_gets hx hb hFT.1 hS hown fl18 (fun _ h9 => h9) dX2_makeGreaterOnes_15 ?_
      refine lv_iload_n hx hb dX2_makeGreaterOnes_18 rfl (lv_at hl 3 rfl) ?_
      refine lv_iconst (v := nI (1)) hx hb dX2_makeGreaterOnes_19 (by decide) ?_
      refine r_iadd (a := zz) (b := 1) hx hb dX2_makeGreaterOnes_20  ?_
      refine r_ti (i := zz + 1) hx hb hFT hS (by omega) dX2_makeGreaterOnes_21 ?_
      refine r_icmp_ge (a := lt) (b := fT (zz + 1)) (tgt := 83) hx hb dX2_makeGreaterOnes_22 (by decide) (by omega) (by omega)  (fun c22 => ?_) (fun c22 => ?_)
      · skip
        obtain rfl : lt = fT (zz + 1) := by omega
        exact w_vret hx hb hr hlk hQ hAe (sm3, la3, gr3) hP hD hS (by rw [hN.2.1] at hs3 hl3; exact ⟨hs3, hl3, hg3⟩) dX2_makeGreaterOnes_83
      have hl84 : lt < 84 := by omega
      have hla6 := tb_LA lt (by omega)
      have hnl := tb_NXl lt hl84
      have hlo := tb_lo lt hl84
      refine lv_aload_n hx hb dX2_makeGreaterOnes_25 rfl (lv_at hl 2 rfl) ?_
      refine va_get (D := D) (ci := 2) (v := .ref laq) (C := RX2) (T := TX2) (N := 6) hx hb hts hiX2 hown hKB.1 hP 0 rfl rfl 2 (by decide) fl15 (fun _ h9 => h9) rfl dX2_makeGreaterOnes_26 ?_
      refine lv_iload_n hx hb dX2_makeGreaterOnes_29 rfl (lv_at hl 0 rfl) ?_
      refine r_iald (i := lt) (v := nI (LA lt)) hx hb hKB.1 hP 2 0 rfl rfl (by omega) (by decide) (congrArg nI (hl3 lt hlo)) dX2_makeGreaterOnes_30 ?_
      refine lv_istore (lv' := [(4, .int (nI (LA lt))), (3, .int (nI lt)), (2, .int (nI (NX lt))), (0, .ref oq), (1, .int (nI zz))]) hx hb dX2_makeGreaterOnes_31 hl (by decide) rfl (fun ls hl => ?_)
      have hw2 : nI (NX lt) = nI (NX lt + (LA lt - LA lt)) := by rw [Nat.sub_self]; rfl
      rw [hw2] at hl
      have L33 : ∀ (n : Nat) (sy : Nat) (sm4 : Nat → Nat) (la4 : Nat → Nat) (gr4 : Nat → Nat) (H : Heap) (locs : List Loc) (ls : Array Slot), 6 - sy < n → (LA lt ≤ sy ∧ sy ≤ 6) → (∀ j, j < NX lt + (sy - LA lt) → sm4 j = SM j) → (∀ j, j < NX lt + (sy - LA lt) → la4 j = LA j) → (gD gr4 (fT zz) lt sy) → va_P D vwCl [(oq, .inr (2, [.ref lq, .ref smq, .ref laq, .ref grq, .ref chq, .ref cq])), (smq, .inl (cI, 210, .inl (nF sm4))), (laq, .inl (cI, 210, .inl (nF la4))), (grq, .inl (cI, 504, .inl (nF gr4)))] H → va_D A [(oq, .inr (2, [.ref lq, .ref smq, .ref laq, .ref grq, .ref chq, .ref cq])), (smq, .inl (cI, 210, .inl (nF sm4))), (laq, .inl (cI, 210, .inl (nF la4))), (grq, .inl (cI, 504, .inl (nF gr4)))] → va_S A s.heap H locs → lv_has ls 5 [(4, .int (nI sy)), (3, .int (nI lt)), (2, .int (nI (NX lt + (sy - LA lt)))), (0, .ref oq), (1, .int (nI zz))] → W p l e ({ frames := 0, cells := 0, slots := 0, locals := 0 }) s m args below meth c H locs 0 0 Q (F0 m 33 ls []) := by
        intro n
        induction n with
        | zero => intro sy sm4 la4 gr4 H locs ls hm; exact absurd hm (Nat.not_lt_zero _)
        | succ n ih33 =>
          intro sy sm4 la4 gr4 H locs ls hm hsy hs4 hl4 hg4 hP hD hS hl
          refine lv_iload hx hb dX2_makeGreaterOnes_33 (lv_at hl 0 rfl) ?_
          refine lv_bipush (v := nI (6)) hx hb dX2_makeGreaterOnes_35 (by decide) ?_
          refine r_icmp_ge (a := sy) (b := 6) (tgt := 77) hx hb dX2_makeGreaterOnes_37 (by decide) (by omega) (by omega)  (fun c37 => ?_) (fun c37 => ?_)
          · skip
            obtain rfl : 6 = sy := by omega
            rw [← tb_NX lt hl84] at hs4 hl4
            have hg4 := gD_n hg4 0 (Nat.zero_le _)
            refine lv_iinc (v := nI (lt + 1)) (lv' := [(3, .int (nI (lt + 1))), (4, .int (nI 6)), (2, .int (nI (NX lt + (6 - LA lt)))), (0, .ref oq), (1, .int (nI zz))]) hx hb dX2_makeGreaterOnes_77 hl (k := 1) rfl (n_inc _ 1) (by decide) rfl (fun ls hl => ?_)
            have hw3 : nI (NX lt + (6 - LA lt)) = nI (NX (lt + 1)) := by rw [tb_NX lt hl84]
            rw [hw3] at hl
            refine lv_goto (tgt := 14) hx hb dX2_makeGreaterOnes_80 (by decide) ?_
            exact ih14 (lt + 1) sm4 la4 gr4 _ _ _ (by omega) (by omega) (hs4) (hl4) (hg4) hP hD hS (lv_sub hl [0, 2, 3, 4] rfl)
          have hf := tb_mk0 lt hl84 sy c37 hsy.1
          have hstep : NX lt + (sy + 1 - LA lt) = NX lt + (sy - LA lt) + 1 := by omega
          refine lv_aload_n hx hb dX2_makeGreaterOnes_40 rfl (lv_at hl 3 rfl) ?_
          refine va_get (D := D) (ci := 2) (v := .ref grq) (C := RX2) (T := TX2) (N := 6) hx hb hts hiX2 hown hKB.1 hP 0 rfl rfl 3 (by decide) fl21 (fun _ h9 => h9) rfl dX2_makeGreaterOnes_41 ?_
          refine lv_iload_n hx hb dX2_makeGreaterOnes_44 rfl (lv_at hl 1 rfl) ?_
          refine lv_bipush (v := nI (6)) hx hb dX2_makeGreaterOnes_45 (by decide) ?_
          refine r_imul (a := lt) (b := 6) hx hb dX2_makeGreaterOnes_47  ?_
          refine lv_iload hx hb dX2_makeGreaterOnes_48 (lv_at hl 0 rfl) ?_
          refine r_iadd (a := lt * 6) (b := sy) hx hb dX2_makeGreaterOnes_50  ?_
          refine lv_iload_n hx hb dX2_makeGreaterOnes_51 rfl (lv_at hl 2 rfl) ?_
          refine r_iastN (i := (lt * 6) + sy) hx hb hKB.1 hP hD hS 3 0 rfl rfl (by omega) (by decide) dX2_makeGreaterOnes_52 (fun H locs hP hD hS => ?_)
          have hP : va_P D vwCl [(oq, .inr (2, [.ref lq, .ref smq, .ref laq, .ref grq, .ref chq, .ref cq])), (smq, .inl (cI, 210, .inl (nF sm4))), (laq, .inl (cI, 210, .inl (nF la4))), (grq, .inl (cI, 504, .inl (nF (nu gr4 ((lt * 6) + sy) (NX lt + (sy - LA lt))))))] _ := hP
          have hD : va_D A [(oq, .inr (2, [.ref lq, .ref smq, .ref laq, .ref grq, .ref chq, .ref cq])), (smq, .inl (cI, 210, .inl (nF sm4))), (laq, .inl (cI, 210, .inl (nF la4))), (grq, .inl (cI, 504, .inl (nF (nu gr4 ((lt * 6) + sy) (NX lt + (sy - LA lt))))))] := hD
          refine lv_aload_n hx hb dX2_makeGreaterOnes_53 rfl (lv_at hl 3 rfl) ?_
          refine va_get (D := D) (ci := 2) (v := .ref smq) (C := RX2) (T := TX2) (N := 6) hx hb hts hiX2 hown hKB.1 hP 0 rfl rfl 1 (by decide) fl11 (fun _ h9 => h9) rfl dX2_makeGreaterOnes_54 ?_
          refine lv_iload_n hx hb dX2_makeGreaterOnes_57 rfl (lv_at hl 2 rfl) ?_
          refine lv_iload_n hx hb dX2_makeGreaterOnes_58 rfl (lv_at hl 1 rfl) ?_
          refine r_iastN (i := NX lt + (sy - LA lt)) hx hb hKB.1 hP hD hS 1 0 rfl rfl (by omega) (by decide) dX2_makeGreaterOnes_59 (fun H locs hP hD hS => ?_)
          have hP : va_P D vwCl [(oq, .inr (2, [.ref lq, .ref smq, .ref laq, .ref grq, .ref chq, .ref cq])), (smq, .inl (cI, 210, .inl (nF (nu sm4 (NX lt + (sy - LA lt)) lt)))), (laq, .inl (cI, 210, .inl (nF la4))), (grq, .inl (cI, 504, .inl (nF (nu gr4 ((lt * 6) + sy) (NX lt + (sy - LA lt))))))] _ := hP
          have hD : va_D A [(oq, .inr (2, [.ref lq, .ref smq, .ref laq, .ref grq, .ref chq, .ref cq])), (smq, .inl (cI, 210, .inl (nF (nu sm4 (NX lt + (sy - LA lt)) lt)))), (laq, .inl (cI, 210, .inl (nF la4))), (grq, .inl (cI, 504, .inl (nF (nu gr4 ((lt * 6) + sy) (NX lt + (sy - LA lt))))))] := hD
          refine lv_aload_n hx hb dX2_makeGreaterOnes_60 rfl (lv_at hl 3 rfl) ?_
          refine va_get (D := D) (ci := 2) (v := .ref laq) (C := RX2) (T := TX2) (N := 6) hx hb hts hiX2 hown hKB.1 hP 0 rfl rfl 2 (by decide) fl15 (fun _ h9 => h9) rfl dX2_makeGreaterOnes_61 ?_
          refine lv_iload_n hx hb dX2_makeGreaterOnes_64 rfl (lv_at hl 2 rfl) ?_
          refine lv_iload hx hb dX2_makeGreaterOnes_65 (lv_at hl 0 rfl) ?_
          refine r_iastN (i := NX lt + (sy - LA lt)) hx hb hKB.1 hP hD hS 2 0 rfl rfl (by omega) (by decide) dX2_makeGreaterOnes_67 (fun H locs hP hD hS => ?_)
          have hP : va_P D vwCl [(oq, .inr (2, [.ref lq, .ref smq, .ref laq, .ref grq, .ref chq, .ref cq])), (smq, .inl (cI, 210, .inl (nF (nu sm4 (NX lt + (sy - LA lt)) lt)))), (laq, .inl (cI, 210, .inl (nF (nu la4 (NX lt + (sy - LA lt)) sy)))), (grq, .inl (cI, 504, .inl (nF (nu gr4 ((lt * 6) + sy) (NX lt + (sy - LA lt))))))] _ := hP
          have hD : va_D A [(oq, .inr (2, [.ref lq, .ref smq, .ref laq, .ref grq, .ref chq, .ref cq])), (smq, .inl (cI, 210, .inl (nF (nu sm4 (NX lt + (sy - LA lt)) lt)))), (laq, .inl (cI, 210, .inl (nF (nu la4 (NX lt + (sy - LA lt)) sy)))), (grq, .inl (cI, 504, .inl (nF (nu gr4 ((lt * 6) + sy) (NX lt + (sy - LA lt))))))] := hD
          refine lv_iinc (v := nI ((NX lt + (sy - LA lt)) + 1)) (lv' := [(2, .int (nI ((NX lt + (sy - LA lt)) + 1))), (4, .int (nI sy)), (3, .int (nI lt)), (0, .ref oq), (1, .int (nI zz))]) hx hb dX2_makeGreaterOnes_68 hl (k := 2) rfl (n_inc _ 1) (by decide) rfl (fun ls hl => ?_)
          refine lv_iinc (v := nI (sy + 1)) (lv' := [(4, .int (nI (sy + 1))), (2, .int (nI ((NX lt + (sy - LA lt)) + 1))), (3, .int (nI lt)), (0, .ref oq), (1, .int (nI zz))]) hx hb dX2_makeGreaterOnes_71 hl (k := 1) rfl (n_inc _ 1) (by decide) rfl (fun ls hl => ?_)
          have hw4 : nI ((NX lt + (sy - LA lt)) + 1) = nI (NX lt + (sy + 1 - LA lt)) := by rw [hstep]
          rw [hw4] at hl
          refine lv_goto (tgt := 33) hx hb dX2_makeGreaterOnes_74 (by decide) ?_
          exact ih33 (sy + 1) (nu sm4 (NX lt + (sy - LA lt)) lt) (nu la4 (NX lt + (sy - LA lt)) sy) (nu gr4 ((lt * 6) + sy) (NX lt + (sy - LA lt))) _ _ _ (by omega) (by omega) (by rw [hstep]; exact ag_s hs4 hf.2.1.symm) (by rw [hstep]; exact ag_s hl4 hf.2.2.symm) (gD_s hg4 hlt.1 c37 hf.1.symm) hP hD hS (lv_sub hl [0, 2, 1, 3, 4] rfl)
      exact L33 (6 - (LA lt) + 1) (LA lt) sm3 la3 gr3 _ _ _ (Nat.lt_succ_self _) (⟨Nat.le_refl _, by omega⟩) (by rw [Nat.sub_self]; exact hs3) (by rw [Nat.sub_self]; exact hl3) (gD_up hg3) hP hD hS hl
  exact L14 (fT (zz + 1) - (fT zz) + 1) (fT zz) sm la gr _ _ _ (Nat.lt_succ_self _) (⟨Nat.le_refl _, hN.2.2.2.1⟩) (by rw [hN.1]; exact hsm) (by rw [hN.1]; exact hla) (hgr) hP hD hS hl

set_option maxHeartbeats 4000000 in
set_option maxRecDepth 100000 in
theorem m_X2_joinGreaterOnes (l : Launch) (D : va_G) (cI cJ : ClassId) (tT : Nat) (sz : Nat) (oq : Nat) (lq : Nat) (smq : Nat) (laq : Nat) (grq : Nat) (chq : Nat) (cq : Nat) (sm : Nat → Nat) (la : Nat → Nat) (gr : Nat → Nat) (zz : Nat) (hz : zz < 4) (hsm : ∀ j, j < fT (zz + 2) → sm j = SM j) (hla : ∀ j, j < fT (zz + 2) → la j = LA j) (hgr : gD gr (fT zz) (fT (zz + 1)) 0) : Met l yX2_joinGreaterOnes wsX2_joinGreaterOnes ({ frames := 0, cells := 0, slots := 0, locals := 0 }) (PXT D cI cJ tT [(oq, .inr (2, [.ref lq, .ref smq, .ref laq, .ref grq, .ref chq, .ref cq])), (smq, .inl (cI, 210, .inl (nF sm))), (laq, .inl (cI, 210, .inl (nF la))), (grq, .inl (cI, 504, .inl (nF gr)))] sz [.ref oq, .int (nI zz)]) (QWv D (S := Nat → Nat) [(oq, .inr (2, [.ref lq, .ref smq, .ref laq, .ref grq, .ref chq, .ref cq])), (smq, .inl (cI, 210, .inl (nF sm))), (laq, .inl (cI, 210, .inl (nF la))), (grq, .inl (cI, 504, .inl (nF gr)))] sz (fun u => gJ u (fT (zz + 1)) (fT (zz + 1)) 0) (fun gr2 => [(oq, .inr (2, [.ref lq, .ref smq, .ref laq, .ref grq, .ref chq, .ref cq])), (smq, .inl (cI, 210, .inl (nF sm))), (laq, .inl (cI, 210, .inl (nF la))), (grq, .inl (cI, 504, .inl (nF gr2)))])) 0 0 (va_A [(oq, .inr (2, [.ref lq, .ref smq, .ref laq, .ref grq, .ref chq, .ref cq])), (smq, .inl (cI, 210, .inl (nF sm))), (laq, .inl (cI, 210, .inl (nF la))), (grq, .inl (cI, 504, .inl (nF gr)))] sz) := by
  refine met_XT (cc := cX2_joinGreaterOnes) (maxL := 5) (ret := none) (by decide) rfl (Nat.le_of_ble_eq_true rfl) ?_
  intro p e s m args below meth c Q ls A hQ hAe hFT hAt hKB hP hD hA hl
  obtain ⟨hx, hb, hr, hml, hlk, hts, hown, hnm⟩ := hAt
  have hown : s.vm.findClass RX2 = some m.cls := hown
  have hS : va_S A s.heap s.heap [] := va_S.rf
  have hl : lv_has ls 5 [(0, .ref oq), (1, .int (nI zz))] := hl
  have fl18 := hts (.fieldLink RX2 18 "TaughtTongues$Lots" "FIRST" "[I") (by decide +kernel)
  have hiX2 : ∀ w ∈ u_ws RX2 TX2 6, w ∈ wsX2_joinGreaterOnes := by decide +kernel
  have fl15 := hts (.fieldLink RX2 15 "TaughtTongues$Lots" "last" "[I") (by decide +kernel)
  have fl21 := hts (.fieldLink RX2 21 "TaughtTongues$Lots" "greater" "[I") (by decide +kernel)
  have fl11 := hts (.fieldLink RX2 11 "TaughtTongues$Lots" "smaller" "[I") (by decide +kernel)
  have hN := tb_NXi zz hz
  refine va_gets hx hb hFT.1 hS hown fl18 (fun _ h9 => h9) dX2_joinGreaterOnes_0 ?_
  refine lv_iload_n hx hb dX2_joinGreaterOnes_3 rfl (lv_at hl 1 rfl) ?_
  refine r_ti (i := zz) hx hb hFT hS (by omega) dX2_joinGreaterOnes_4 ?_
  refine lv_istore_n (lv' := [(2, .int (nI (fT zz))), (0, .ref oq), (1, .int (nI zz))]) hx hb dX2_joinGreaterOnes_5 rfl hl (by decide) rfl (fun ls hl => ?_)
  have L6 : ∀ (n : Nat) (lt : Nat) (gr3 : Nat → Nat) (H : Heap) (locs : List Loc) (ls : Array Slot), fT (zz + 1) - lt < n → (fT zz ≤ lt ∧ lt ≤ fT (zz + 1)) → (gJ gr3 (fT (zz + 1)) lt 0) → va_P D vwCl [(oq, .inr (2, [.ref lq, .ref smq, .ref laq, .ref grq, .ref chq, .ref cq])), (smq, .inl (cI, 210, .inl (nF sm))), (laq, .inl (cI, 210, .inl (nF la))), (grq, .inl (cI, 504, .inl (nF gr3)))] H → va_D A [(oq, .inr (2, [.ref lq, .ref smq, .ref laq, .ref grq, .ref chq, .ref cq])), (smq, .inl (cI, 210, .inl (nF sm))), (laq, .inl (cI, 210, .inl (nF la))), (grq, .inl (cI, 504, .inl (nF gr3)))] → va_S A s.heap H locs → lv_has ls 5 [(2, .int (nI lt)), (0, .ref oq), (1, .int (nI zz))] → W p l e ({ frames := 0, cells := 0, slots := 0, locals := 0 }) s m args below meth c H locs 0 0 Q (F0 m 6 ls []) := by
    intro n
    induction n with
    | zero => intro lt gr3 H locs ls hm; exact absurd hm (Nat.not_lt_zero _)
    | succ n ih6 =>
      intro lt gr3 H locs ls hm hlt hg3 hP hD hS hl
      refine lv_iload_n hx hb dX2_joinGreaterOnes_6 rfl (lv_at hl 0 rfl) ?_
      refine va_gets hx hb hFT.1 hS hown fl18 (fun _ h9 => h9) dX2_joinGreaterOnes_7 ?_
      refine lv_iload_n hx hb dX2_joinGreaterOnes_10 rfl (lv_at hl 2 rfl) ?_
      refine lv_iconst (v := nI (1)) hx hb dX2_joinGreaterOnes_11 (by decide) ?_
      refine r_iadd (a := zz) (b := 1) hx hb dX2_joinGreaterOnes_12  ?_
      refine r_ti (i := zz + 1) hx hb hFT hS (by omega) dX2_joinGreaterOnes_13 ?_
      refine r_icmp_ge (a := lt) (b := fT (zz + 1)) (tgt := 87) hx hb dX2_joinGreaterOnes_14 (by decide) (by omega) (by omega)  (fun c14 => ?_) (fun c14 => ?_)
      · skip
        obtain rfl : lt = fT (zz + 1) := by omega
        exact w_vret hx hb hr hlk hQ hAe gr3 hP hD hS (hg3) dX2_joinGreaterOnes_87
      have hl84 : lt < 84 := by omega
      have hla6 := tb_LA lt (by omega)
      have hsm8 := tb_SM lt (by omega)
      have hlo := tb_lo lt hl84
      have hle : fT (zz + 1) ≤ fT (zz + 2) := (tb_le zz hz)
      refine lv_iconst (v := nI (0)) hx hb dX2_joinGreaterOnes_17 (by decide) ?_
      refine lv_istore_n (lv' := [(3, .int (nI 0)), (2, .int (nI lt)), (0, .ref oq), (1, .int (nI zz))]) hx hb dX2_joinGreaterOnes_18 rfl hl (by decide) rfl (fun ls hl => ?_)
      have L19 : ∀ (n : Nat) (sy : Nat) (gr4 : Nat → Nat) (H : Heap) (locs : List Loc) (ls : Array Slot), 6 - sy < n → (sy ≤ LA lt) → (gJ gr4 (fT (zz + 1)) lt sy) → va_P D vwCl [(oq, .inr (2, [.ref lq, .ref smq, .ref laq, .ref grq, .ref chq, .ref cq])), (smq, .inl (cI, 210, .inl (nF sm))), (laq, .inl (cI, 210, .inl (nF la))), (grq, .inl (cI, 504, .inl (nF gr4)))] H → va_D A [(oq, .inr (2, [.ref lq, .ref smq, .ref laq, .ref grq, .ref chq, .ref cq])), (smq, .inl (cI, 210, .inl (nF sm))), (laq, .inl (cI, 210, .inl (nF la))), (grq, .inl (cI, 504, .inl (nF gr4)))] → va_S A s.heap H locs → lv_has ls 5 [(3, .int (nI sy)), (2, .int (nI lt)), (0, .ref oq), (1, .int (nI zz))] → W p l e ({ frames := 0, cells := 0, slots := 0, locals := 0 }) s m args below meth c H locs 0 0 Q (F0 m 19 ls []) := by
        intro n
        induction n with
        | zero => intro sy gr4 H locs ls hm; exact absurd hm (Nat.not_lt_zero _)
        | succ n ih19 =>
          intro sy gr4 H locs ls hm hsy hg4 hP hD hS hl
          refine lv_iload_n hx hb dX2_joinGreaterOnes_19 rfl (lv_at hl 0 rfl) ?_
          refine lv_aload_n hx hb dX2_joinGreaterOnes_20 rfl (lv_at hl 2 rfl) ?_
          refine va_get (D := D) (ci := 2) (v := .ref laq) (C := RX2) (T := TX2) (N := 6) hx hb hts hiX2 hown hKB.1 hP 0 rfl rfl 2 (by decide) fl15 (fun _ h9 => h9) rfl dX2_joinGreaterOnes_21 ?_
          refine lv_iload_n hx hb dX2_joinGreaterOnes_24 rfl (lv_at hl 1 rfl) ?_
          refine r_iald (i := lt) (v := nI (LA lt)) hx hb hKB.1 hP 2 0 rfl rfl (by omega) (by decide) (congrArg nI (hla lt (by omega))) dX2_joinGreaterOnes_25 ?_
          refine r_icmp_ge (a := sy) (b := LA lt) (tgt := 81) hx hb dX2_joinGreaterOnes_26 (by decide) (by omega) (by omega)  (fun c26 => ?_) (fun c26 => ?_)
          · skip
            refine lv_iinc (v := nI (lt + 1)) (lv' := [(2, .int (nI (lt + 1))), (3, .int (nI sy)), (0, .ref oq), (1, .int (nI zz))]) hx hb dX2_joinGreaterOnes_81 hl (k := 1) rfl (n_inc _ 1) (by decide) rfl (fun ls hl => ?_)
            refine lv_goto (tgt := 6) hx hb dX2_joinGreaterOnes_84 (by decide) ?_
            exact ih6 (lt + 1) gr4 _ _ _ (by omega) (by omega) (gJ_n hg4 (by omega) (by omega)) hP hD hS (lv_sub hl [0, 2, 3] rfl)
          have hf := tb_jn lt hl84 sy c26
          have hf2 := tb_jn2 zz hz lt hl84 ⟨hlt.1, c14⟩ sy c26
          refine lv_aload_n hx hb dX2_joinGreaterOnes_29 rfl (lv_at hl 2 rfl) ?_
          refine va_get (D := D) (ci := 2) (v := .ref grq) (C := RX2) (T := TX2) (N := 6) hx hb hts hiX2 hown hKB.1 hP 0 rfl rfl 3 (by decide) fl21 (fun _ h9 => h9) rfl dX2_joinGreaterOnes_30 ?_
          refine lv_aload_n hx hb dX2_joinGreaterOnes_33 rfl (lv_at hl 2 rfl) ?_
          refine va_get (D := D) (ci := 2) (v := .ref smq) (C := RX2) (T := TX2) (N := 6) hx hb hts hiX2 hown hKB.1 hP 0 rfl rfl 1 (by decide) fl11 (fun _ h9 => h9) rfl dX2_joinGreaterOnes_34 ?_
          refine lv_iload_n hx hb dX2_joinGreaterOnes_37 rfl (lv_at hl 1 rfl) ?_
          refine r_iald (i := lt) (v := nI (SM lt)) hx hb hKB.1 hP 1 0 rfl rfl (by omega) (by decide) (congrArg nI (hsm lt (by omega))) dX2_joinGreaterOnes_38 ?_
          refine lv_bipush (v := nI (6)) hx hb dX2_joinGreaterOnes_39 (by decide) ?_
          refine r_imul (a := SM lt) (b := 6) hx hb dX2_joinGreaterOnes_41  ?_
          refine lv_iload_n hx hb dX2_joinGreaterOnes_42 rfl (lv_at hl 0 rfl) ?_
          refine r_iadd (a := (SM lt) * 6) (b := sy) hx hb dX2_joinGreaterOnes_43  ?_
          refine r_iald (i := ((SM lt) * 6) + sy) (v := nI (GR (SM lt * 6 + sy))) hx hb hKB.1 hP 3 0 rfl rfl (by omega) (by decide) (congrArg nI (hg4.1 (SM lt) sy (by omega) (Or.inl (by omega)))) dX2_joinGreaterOnes_44 ?_
          refine lv_istore (lv' := [(4, .int (nI (GR (SM lt * 6 + sy)))), (3, .int (nI sy)), (2, .int (nI lt)), (0, .ref oq), (1, .int (nI zz))]) hx hb dX2_joinGreaterOnes_45 hl (by decide) rfl (fun ls hl => ?_)
          refine lv_aload_n hx hb dX2_joinGreaterOnes_47 rfl (lv_at hl 3 rfl) ?_
          refine va_get (D := D) (ci := 2) (v := .ref grq) (C := RX2) (T := TX2) (N := 6) hx hb hts hiX2 hown hKB.1 hP 0 rfl rfl 3 (by decide) fl21 (fun _ h9 => h9) rfl dX2_joinGreaterOnes_48 ?_
          refine lv_iload_n hx hb dX2_joinGreaterOnes_51 rfl (lv_at hl 2 rfl) ?_
          refine lv_bipush (v := nI (6)) hx hb dX2_joinGreaterOnes_52 (by decide) ?_
          refine r_imul (a := lt) (b := 6) hx hb dX2_joinGreaterOnes_54  ?_
          refine lv_iload_n hx hb dX2_joinGreaterOnes_55 rfl (lv_at hl 1 rfl) ?_
          refine r_iadd (a := lt * 6) (b := sy) hx hb dX2_joinGreaterOnes_56  ?_
          refine lv_aload_n hx hb dX2_joinGreaterOnes_57 rfl (lv_at hl 3 rfl) ?_
          refine va_get (D := D) (ci := 2) (v := .ref grq) (C := RX2) (T := TX2) (N := 6) hx hb hts hiX2 hown hKB.1 hP 0 rfl rfl 3 (by decide) fl21 (fun _ h9 => h9) rfl dX2_joinGreaterOnes_58 ?_
          refine lv_iload hx hb dX2_joinGreaterOnes_61 (lv_at hl 0 rfl) ?_
          refine lv_bipush (v := nI (6)) hx hb dX2_joinGreaterOnes_63 (by decide) ?_
          refine r_imul (a := GR (SM lt * 6 + sy)) (b := 6) hx hb dX2_joinGreaterOnes_65  ?_
          refine lv_aload_n hx hb dX2_joinGreaterOnes_66 rfl (lv_at hl 3 rfl) ?_
          refine va_get (D := D) (ci := 2) (v := .ref laq) (C := RX2) (T := TX2) (N := 6) hx hb hts hiX2 hown hKB.1 hP 0 rfl rfl 2 (by decide) fl15 (fun _ h9 => h9) rfl dX2_joinGreaterOnes_67 ?_
          refine lv_iload_n hx hb dX2_joinGreaterOnes_70 rfl (lv_at hl 2 rfl) ?_
          refine r_iald (i := lt) (v := nI (LA lt)) hx hb hKB.1 hP 2 0 rfl rfl (by omega) (by decide) (congrArg nI (hla lt (by omega))) dX2_joinGreaterOnes_71 ?_
          refine r_iadd (a := (GR (SM lt * 6 + sy)) * 6) (b := LA lt) hx hb dX2_joinGreaterOnes_72  ?_
          refine r_iald (i := ((GR (SM lt * 6 + sy)) * 6) + (LA lt)) (v := nI (GR (GR (SM lt * 6 + sy) * 6 + LA lt))) hx hb hKB.1 hP 3 0 rfl rfl (by omega) (by decide) (congrArg nI (hg4.2 (GR (SM lt * 6 + sy)) (LA lt) hf2.2.2 hla6 hf.1)) dX2_joinGreaterOnes_73 ?_
          refine r_iastN (i := (lt * 6) + sy) hx hb hKB.1 hP hD hS 3 0 rfl rfl (by omega) (by decide) dX2_joinGreaterOnes_74 (fun H locs hP hD hS => ?_)
          have hP : va_P D vwCl [(oq, .inr (2, [.ref lq, .ref smq, .ref laq, .ref grq, .ref chq, .ref cq])), (smq, .inl (cI, 210, .inl (nF sm))), (laq, .inl (cI, 210, .inl (nF la))), (grq, .inl (cI, 504, .inl (nF (nu gr4 ((lt * 6) + sy) (GR (GR (SM lt * 6 + sy) * 6 + LA lt))))))] _ := hP
          have hD : va_D A [(oq, .inr (2, [.ref lq, .ref smq, .ref laq, .ref grq, .ref chq, .ref cq])), (smq, .inl (cI, 210, .inl (nF sm))), (laq, .inl (cI, 210, .inl (nF la))), (grq, .inl (cI, 504, .inl (nF (nu gr4 ((lt * 6) + sy) (GR (GR (SM lt * 6 + sy) * 6 + LA lt))))))] := hD
          refine lv_iinc (v := nI (sy + 1)) (lv' := [(3, .int (nI (sy + 1))), (4, .int (nI (GR (SM lt * 6 + sy)))), (2, .int (nI lt)), (0, .ref oq), (1, .int (nI zz))]) hx hb dX2_joinGreaterOnes_75 hl (k := 1) rfl (n_inc _ 1) (by decide) rfl (fun ls hl => ?_)
          refine lv_goto (tgt := 19) hx hb dX2_joinGreaterOnes_78 (by decide) ?_
          exact ih19 (sy + 1) (nu gr4 ((lt * 6) + sy) (GR (GR (SM lt * 6 + sy) * 6 + LA lt))) _ _ _ (by omega) (by omega) (gJ_s hg4 (by omega) hf.2.2.symm) hP hD hS (lv_sub hl [0, 2, 3, 4] rfl)
      exact L19 (6 - 0 + 1) 0 gr3 _ _ _ (Nat.lt_succ_self _) (Nat.zero_le _) (hg3) hP hD hS hl
  exact L6 (fT (zz + 1) - (fT zz) + 1) (fT zz) gr _ _ _ (Nat.lt_succ_self _) (⟨Nat.le_refl _, hN.2.2.2.1⟩) (gJ_0 hgr) hP hD hS hl
end

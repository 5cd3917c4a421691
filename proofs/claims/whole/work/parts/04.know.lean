/-! the knowledge bundle: classes, the two array classes, links of nest mates -/
def nw_F : List (String × Nat × String × String × String) := [("TaughtTongues", 109, "TaughtTongues$Counts", "all", "I"), ("TaughtTongues", 148, "TaughtTongues$Steps", "hears", "I"), ("TaughtTongues", 196, "TaughtTongues$Learner", "slip", "I"), ("TaughtTongues", 199, "TaughtTongues$Learner", "kind", "I"), ("TaughtTongues", 60, "TaughtTongues$Steps", "weights", "[I"), ("TaughtTongues", 63, "TaughtTongues$Steps", "known", "Z"), ("TaughtTongues", 80, "TaughtTongues$Signs", "count", "I"), ("TaughtTongues", 94, "TaughtTongues$Learner", "numbers", "[I"), ("TaughtTongues$Learner", 28, "TaughtTongues$Counts", "all", "I"), ("TaughtTongues$Lots", 73, "TaughtTongues$Counts", "all", "I"), ("TaughtTongues$Steps", 72, "TaughtTongues$Lots", "FIRST", "[I"), ("TaughtTongues$Steps", 83, "TaughtTongues$Learner", "slip", "I"), ("TaughtTongues$Steps", 88, "TaughtTongues$Lots", "greater", "[I")]
def nw_M : List (String × Nat × MethodName) := [("TaughtTongues", 18, yX0_init), ("TaughtTongues", 25, yX1_init), ("TaughtTongues", 9, yX3_init), ("TaughtTongues$Counts", 25, yX5_formOf), ("TaughtTongues$Learner", 35, yX5_power), ("TaughtTongues$Lots", 29, yX0_init), ("TaughtTongues$Signs", 26, yX5_formOf), ("TaughtTongues$Steps", 55, yX5_power), ("TaughtTongues$Steps", 79, yX5_formOf)]
def NW (U : State) : Prop := (∀ q ∈ nw_F, va_Nw (.fieldLinkNest q.1 q.2.1 q.2.2.1 q.2.2.2.1 q.2.2.2.2 "TaughtTongues") U) ∧ ∀ q ∈ nw_M, va_Nw (.methodLinkNest q.1 q.2.1 q.2.2 "TaughtTongues") U
theorem NW.warm {s U : State} (hW : s.WarmedH U.vm) (h : NW s) : NW U := ⟨fun q hq => va_Nw.warmF hW (h.1 q hq), fun q hq => va_Nw.warmM hW (h.2 q hq)⟩
theorem NW.same {u U : State} (e : u.vm = U.vm) (h : NW u) : NW U := ⟨fun q hq => va_Nw.same rfl e (h.1 q hq), fun q hq => va_Nw.same rfl e (h.2 q hq)⟩
theorem NW.f {U : State} (h : NW U) (k : Nat) {q : String × Nat × String × String × String} (hk : nw_F[k]? = some q) {A : Array Value} : (Cond.fieldLinkNest q.1 q.2.1 q.2.2.1 q.2.2.2.1 q.2.2.2.2 "TaughtTongues").before A U = true := va_Nw.use rfl (h.1 q (List.mem_of_getElem? hk))
theorem NW.m {U : State} (h : NW U) (k : Nat) {q : String × Nat × MethodName} (hk : nw_M[k]? = some q) : va_Nw (.methodLinkNest q.1 q.2.1 q.2.2 "TaughtTongues") U := h.2 q (List.mem_of_getElem? hk)
def KB (D : va_G) (cI cJ : ClassId) (U : State) : Prop := va_K D vwCl [(cI, .int), (cJ, .long)] U ∧ NW U
theorem KB.warm {D : va_G} {cI cJ : ClassId} {s U : State} (h : KB D cI cJ s) (hW : s.WarmedH U.vm) : KB D cI cJ U := ⟨va_K.moved hW.alike h.1, h.2.warm hW⟩
theorem KB.same {D : va_G} {cI cJ : ClassId} {u U : State} (e : u.vm = U.vm) (h : KB D cI cJ u) : KB D cI cJ U := ⟨va_K.moved (by rw [e]; exact Vm.Alike.refl _) h.1, h.2.same e⟩
/-- the static table of Lots -/
def fT : Nat → Nat := fun k => [0, 1, 7, 28, 84, 210].getD k 0
def FT (t : Nat) (A : Nat → Prop) (U : State) : Prop := va_Z "TaughtTongues$Lots" "FIRST" "[I" (.ref t) A U U.heap ∧ va_T .int t 6 (fun k => .int (nI (fT k))) A U U.heap
theorem FT.calling {t : Nat} {A : Nat → Prop} {u U : State} (e : u.vm = U.vm) (eh : U.heap = u.heap) (h : FT t A u) : FT t A U := by
  unfold FT
  rw [eh]
  exact ⟨va_Z.moved (by rw [e]; exact Vm.Alike.refl _) h.1, va_T.moved (by rw [e]; exact Vm.Alike.refl _) h.2⟩
theorem FT.go {t : Nat} {A B : Nat → Prop} {s U : State} {locs : List Loc} (h : FT t A s) (hW : s.WarmedH U.vm) (hS : va_S A s.heap U.heap locs) (hAB : ∀ q, B q → A q) : FT t B U :=
  ⟨va_Z.narrow (va_Z.moved hW.alike (va_Z.kept h.1 hS.2.1)) hAB, va_T.narrow (va_T.moved hW.alike (va_T.kept h.2 hS.2.1)) hAB⟩
theorem FT.narrow {t : Nat} {A B : Nat → Prop} {s : State} (h : FT t A s) (hAB : ∀ q, B q → A q) : FT t B s := ⟨va_Z.narrow h.1 hAB, va_T.narrow h.2 hAB⟩
/-- what a method knows at its start: nothing but the bundle; with a world that it reads; with one that it writes -/
def PN (D : va_G) (cI cJ : ClassId) (av : List Value) : Array Value → State → Prop := va_Pc av (fun U => KB D cI cJ U)
def PR (D : va_G) (cI cJ : ClassId) (ws : va_W) (av : List Value) : Array Value → State → Prop := va_Pc av (fun U => KB D cI cJ U ∧ va_P D vwCl ws U.heap)
def PX (D : va_G) (cI cJ : ClassId) (ws : va_W) (sz : Nat) (av : List Value) : Array Value → State → Prop := va_Pc av (fun U => U.heap.size = sz ∧ KB D cI cJ U ∧ va_P D vwCl ws U.heap ∧ va_D (fun _ => True) ws)
def PRT (D : va_G) (cI cJ : ClassId) (t : Nat) (ws : va_W) (av : List Value) : Array Value → State → Prop := va_Pc av (fun U => KB D cI cJ U ∧ FT t NA U ∧ va_P D vwCl ws U.heap)
def PXT (D : va_G) (cI cJ : ClassId) (t : Nat) (ws : va_W) (sz : Nat) (av : List Value) : Array Value → State → Prop := va_Pc av (fun U => U.heap.size = sz ∧ KB D cI cJ U ∧ FT t (va_A ws sz) U ∧ va_P D vwCl ws U.heap ∧ va_D (fun _ => True) ws)
theorem PN.blind {D : va_G} {cI cJ : ClassId} {av : List Value} : FrameBlind (PN D cI cJ av) := fun _ _ _ _ q => ⟨q.1, KB.same rfl q.2⟩
theorem PR.blind {D : va_G} {cI cJ : ClassId} {ws : va_W} {av : List Value} : FrameBlind (PR D cI cJ ws av) := fun _ _ _ _ q => ⟨q.1, KB.same rfl q.2.1, q.2.2⟩
theorem PX.blind {D : va_G} {cI cJ : ClassId} {ws : va_W} {sz : Nat} {av : List Value} : FrameBlind (PX D cI cJ ws sz av) := fun _ _ _ _ q => ⟨q.1, q.2.1, KB.same rfl q.2.2.1, q.2.2.2⟩
theorem PRT.blind {D : va_G} {cI cJ : ClassId} {t : Nat} {ws : va_W} {av : List Value} : FrameBlind (PRT D cI cJ t ws av) := fun _ _ _ _ q => ⟨q.1, KB.same rfl q.2.1, FT.calling rfl rfl q.2.2.1, q.2.2.2⟩
theorem PXT.blind {D : va_G} {cI cJ : ClassId} {t : Nat} {ws : va_W} {sz : Nat} {av : List Value} : FrameBlind (PXT D cI cJ t ws sz av) := fun _ _ _ _ q => ⟨q.1, q.2.1, KB.same rfl q.2.2.1, FT.calling rfl rfl q.2.2.2.1, q.2.2.2.2⟩
/-- the ends: a reader's answer; a writer's, whose world behind it is w2 u -/
def QRi (post : Int32 → Prop) : Array Value → State → Outcome → State → Prop := va_Qi (fun r (_ : Unit) => post r) (fun _ _ => True) NA
def QRl (post : Int64 → Prop) : Array Value → State → Outcome → State → Prop := va_Ql (fun r (_ : Unit) => post r) (fun _ _ => True) NA
def QWi (D : va_G) {S : Type} (ws : va_W) (sz : Nat) (post : Int32 → S → Prop) (w2 : S → va_W) : Array Value → State → Outcome → State → Prop := va_Qi post (fun u t => va_P D vwCl (w2 u) t.heap ∧ va_D (va_A ws sz) (w2 u)) (va_A ws sz)
def QWl (D : va_G) {S : Type} (ws : va_W) (sz : Nat) (post : Int64 → S → Prop) (w2 : S → va_W) : Array Value → State → Outcome → State → Prop := va_Ql post (fun u t => va_P D vwCl (w2 u) t.heap ∧ va_D (va_A ws sz) (w2 u)) (va_A ws sz)
def QWv (D : va_G) {S : Type} (ws : va_W) (sz : Nat) (post : S → Prop) (w2 : S → va_W) : Array Value → State → Outcome → State → Prop := va_Qv post (fun u t => va_P D vwCl (w2 u) t.heap ∧ va_D (va_A ws sz) (w2 u)) (va_A ws sz)
def QWr (D : va_G) {S : Type} (ws : va_W) (sz : Nat) (post : S → Prop) (w2 : S → va_W) (rf : Nat) : Array Value → State → Outcome → State → Prop := va_Qr post (fun u a t => a = rf ∧ va_P D vwCl (w2 u) t.heap ∧ va_D (va_A ws sz) (w2 u)) (va_A ws sz)
section MYC
variable {p : Program} {l : Launch} {e : Env} {R : Room} {s : State} {m : MethodId} {args : Array Value} {below : List Frame} {meth : Method} {c : Code} {H : Heap} {locs : List Loc} {cells slots : Nat} {Q : State → Prop}
variable {pc : Nat} {ls : Array Slot} {rest st0 : List Value} {a : Array Value} {A0 : Nat → Prop} {H0 : Heap} {D : va_G} {ws : va_W} {mc ms : Nat}
theorem r_calli {post : Int32 → Prop} (hP : va_P D vwCl ws H) (hS : va_S A0 H0 H locs) (hr : va_Run p l e R s m args below meth c H locs cells slots 0 0 (F0 m pc ls st0) rest (QRi post a) NA)
    (kk : ∀ (r : Int32) (H1 : Heap) (locs1 : List Loc), post r → va_P D vwCl ws H1 → va_S A0 H0 H1 locs1 → W p l e R s m args below meth c H1 locs1 cells slots Q (F0 m (pc + 3) ls (.int r :: rest))) : W p l e R s m args below meth c H locs cells slots Q (F0 m pc ls st0) :=
  va_calli (A1 := NA) (free := NA) hr hS (fun _ _ h => h.elim) (fun _ h => h.elim) (fun r _ _ H1 locs1 _ _ hw _ _ hk hS1 => kk r H1 locs1 hw (hP.kept (fun k q hq => hk q.1 (hP k q hq).lt (fun h => h))) hS1)
theorem r_calll {post : Int64 → Prop} (hP : va_P D vwCl ws H) (hS : va_S A0 H0 H locs) (hr : va_Run p l e R s m args below meth c H locs cells slots 0 0 (F0 m pc ls st0) rest (QRl post a) NA)
    (kk : ∀ (r : Int64) (H1 : Heap) (locs1 : List Loc), post r → va_P D vwCl ws H1 → va_S A0 H0 H1 locs1 → W p l e R s m args below meth c H1 locs1 cells slots Q (F0 m (pc + 3) ls (.long r :: rest))) : W p l e R s m args below meth c H locs cells slots Q (F0 m pc ls st0) :=
  va_calll (A1 := NA) (free := NA) hr hS (fun _ _ h => h.elim) (fun _ h => h.elim) (fun r _ _ H1 locs1 _ _ hw _ _ hk hS1 => kk r H1 locs1 hw (hP.kept (fun k q hq => hk q.1 (hP k q hq).lt (fun h => h))) hS1)
theorem w_calli {S : Type} {post : Int32 → S → Prop} {w2 : S → va_W} {wc wr : va_W} (hP : va_P D vwCl ws H) (hD : va_D A0 ws) (hS : va_S A0 H0 H locs) (isC isR : List Nat) (hC : isC.map (fun i => ws[i]?) = wc.map some) (hR : isR.map (fun i => ws[i]?) = wr.map some) (hn : va_nd isR = true) (hdis : ∀ i ∈ isR, i ∉ isC) (hF : ∀ q, va_A wc H.size q → A0 q)
    (hr : va_Run p l e R s m args below meth c H locs cells slots mc ms (F0 m pc ls st0) rest (QWi D wc H.size post w2 a) (va_A wc H.size))
    (kk : ∀ (r : Int32) (u : S) (H1 : Heap) (locs1 : List Loc), post r u → va_P D vwCl (wr ++ w2 u) H1 → va_D A0 (wr ++ w2 u) → va_S A0 H0 H1 locs1 → W p l e R s m args below meth c H1 locs1 (cells + mc) (slots + ms) Q (F0 m (pc + 3) ls (.int r :: rest))) : W p l e R s m args below meth c H locs cells slots Q (F0 m pc ls st0) :=
  va_calli (A1 := va_A wc H.size) (free := va_A wc H.size) hr hS (fun q _ h => hF q h) hF (fun r u t H1 locs1 ht _ hw hB _ hk hS1 => by
    obtain ⟨hP1, hD1⟩ := hB
    rw [ht] at hP1
    obtain ⟨h1, h2⟩ := va_join hP hD isC isR hC hR hn hdis hk hF hP1 hD1
    exact kk r u H1 locs1 hw h1 h2 hS1)
theorem w_calll {S : Type} {post : Int64 → S → Prop} {w2 : S → va_W} {wc wr : va_W} (hP : va_P D vwCl ws H) (hD : va_D A0 ws) (hS : va_S A0 H0 H locs) (isC isR : List Nat) (hC : isC.map (fun i => ws[i]?) = wc.map some) (hR : isR.map (fun i => ws[i]?) = wr.map some) (hn : va_nd isR = true) (hdis : ∀ i ∈ isR, i ∉ isC) (hF : ∀ q, va_A wc H.size q → A0 q)
    (hr : va_Run p l e R s m args below meth c H locs cells slots mc ms (F0 m pc ls st0) rest (QWl D wc H.size post w2 a) (va_A wc H.size))
    (kk : ∀ (r : Int64) (u : S) (H1 : Heap) (locs1 : List Loc), post r u → va_P D vwCl (wr ++ w2 u) H1 → va_D A0 (wr ++ w2 u) → va_S A0 H0 H1 locs1 → W p l e R s m args below meth c H1 locs1 (cells + mc) (slots + ms) Q (F0 m (pc + 3) ls (.long r :: rest))) : W p l e R s m args below meth c H locs cells slots Q (F0 m pc ls st0) :=
  va_calll (A1 := va_A wc H.size) (free := va_A wc H.size) hr hS (fun q _ h => hF q h) hF (fun r u t H1 locs1 ht _ hw hB _ hk hS1 => by
    obtain ⟨hP1, hD1⟩ := hB
    rw [ht] at hP1
    obtain ⟨h1, h2⟩ := va_join hP hD isC isR hC hR hn hdis hk hF hP1 hD1
    exact kk r u H1 locs1 hw h1 h2 hS1)
theorem w_callv {S : Type} {post : S → Prop} {w2 : S → va_W} {wc wr : va_W} (hP : va_P D vwCl ws H) (hD : va_D A0 ws) (hS : va_S A0 H0 H locs) (isC isR : List Nat) (hC : isC.map (fun i => ws[i]?) = wc.map some) (hR : isR.map (fun i => ws[i]?) = wr.map some) (hn : va_nd isR = true) (hdis : ∀ i ∈ isR, i ∉ isC) (hF : ∀ q, va_A wc H.size q → A0 q)
    (hr : va_Run p l e R s m args below meth c H locs cells slots mc ms (F0 m pc ls st0) rest (QWv D wc H.size post w2 a) (va_A wc H.size))
    (kk : ∀ (u : S) (H1 : Heap) (locs1 : List Loc), post u → va_P D vwCl (wr ++ w2 u) H1 → va_D A0 (wr ++ w2 u) → va_S A0 H0 H1 locs1 → W p l e R s m args below meth c H1 locs1 (cells + mc) (slots + ms) Q (F0 m (pc + 3) ls rest)) : W p l e R s m args below meth c H locs cells slots Q (F0 m pc ls st0) :=
  va_callv (A1 := va_A wc H.size) (free := va_A wc H.size) hr hS (fun q _ h => hF q h) hF (fun u t H1 locs1 ht _ hw hB _ hk hS1 => by
    obtain ⟨hP1, hD1⟩ := hB
    rw [ht] at hP1
    obtain ⟨h1, h2⟩ := va_join hP hD isC isR hC hR hn hdis hk hF hP1 hD1
    exact kk u H1 locs1 hw h1 h2 hS1)
theorem w_callr {S : Type} {post : S → Prop} {w2 : S → va_W} {rf : Nat} {wc wr : va_W} (hP : va_P D vwCl ws H) (hD : va_D A0 ws) (hS : va_S A0 H0 H locs) (isC isR : List Nat) (hC : isC.map (fun i => ws[i]?) = wc.map some) (hR : isR.map (fun i => ws[i]?) = wr.map some) (hn : va_nd isR = true) (hdis : ∀ i ∈ isR, i ∉ isC) (hF : ∀ q, va_A wc H.size q → A0 q)
    (hr : va_Run p l e R s m args below meth c H locs cells slots mc ms (F0 m pc ls st0) rest (QWr D wc H.size post w2 rf a) (va_A wc H.size))
    (kk : ∀ (u : S) (H1 : Heap) (locs1 : List Loc), post u → va_P D vwCl (wr ++ w2 u) H1 → va_D A0 (wr ++ w2 u) → va_S A0 H0 H1 locs1 → W p l e R s m args below meth c H1 locs1 (cells + mc) (slots + ms) Q (F0 m (pc + 3) ls (.ref rf :: rest))) : W p l e R s m args below meth c H locs cells slots Q (F0 m pc ls st0) :=
  va_callr (A1 := va_A wc H.size) (free := va_A wc H.size) hr hS (fun q _ h => hF q h) hF (fun u b t H1 locs1 ht _ hw hB _ hk hS1 => by
    obtain ⟨rfl, hP1, hD1⟩ := hB
    rw [ht] at hP1
    obtain ⟨h1, h2⟩ := va_join hP hD isC isR hC hR hn hdis hk hF hP1 hD1
    exact kk u H1 locs1 hw h1 h2 hS1)
end MYC

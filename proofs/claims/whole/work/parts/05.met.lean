/-! a method's entry and its ends, in the words of the bundle -/
def AtE (p : Program) (y : MethodName) (ws : List Cond) (cc : ByteArray) (maxL : Nat) (ret : Option FieldType) (s : State) (m : MethodId) (args : Array Value) (meth : Method) (c : Code) : Prop :=
  p.tables.exec = Jvm.exec ∧ c.code = cc ∧ meth.sig.returnType = ret ∧ c.maxLocals = maxL ∧ meth.locks = false ∧ (∀ w ∈ ws, w.before args s = true) ∧ s.vm.findClass y.cls = some m.cls ∧ meth.name = y.name
section MET
variable {l : Launch} {y : MethodName} {ws ws' : List Cond} {rm : Room} {D : va_G} {cI cJ : ClassId} {wd : va_W} {sz t : Nat} {av : List Value} {Qc : Array Value → State → Outcome → State → Prop} {mc ms : Nat} {free : Addr → Prop} {cc : ByteArray} {maxL : Nat} {ret : Option FieldType}
theorem met_R (hy : plainName y.cls = true) (hw : ws = Cond.code y cc maxL ret :: ws') (hlen : (lg_sl av).length ≤ maxL)
    (body : ∀ (p : Program) (e : Env) (s : State) (m : MethodId) (args : Array Value) (below : List Frame) (meth : Method) (c : Code) (Q : State → Prop) (ls : Array Slot), Q = MQ below Qc args s mc ms free → AtE p y ws cc maxL ret s m args meth c → KB D cI cJ s → va_P D vwCl wd s.heap → lv_has ls maxL (lv_args 0 av) → W p l e rm s m args below meth c s.heap [] 0 0 Q (F0 m 0 ls [])) : Met l y ws rm (PR D cI cJ wd av) Qc mc ms free := by
  refine Met.ofW (cc := cc) (maxL := maxL) (ret := ret) hy hw ?_
  intro p e s m args below meth c s₁ B hml hv
  obtain ⟨ha, hK, hP⟩ := hv
  have hl := lv_entry av (n := maxL) hlen
  subst ha
  rw [lg_entry_eq]
  exact body p e s m _ below meth c _ _ rfl ⟨B.exec, B.bytes, B.returns, hml, B.notSynchronized, atoms_spec (ws := ws) B.pre, findClass_of_methodNamed B.named, (name_of_methodNamed B.named B.method).1⟩ hK hP hl
theorem met_X (hy : plainName y.cls = true) (hw : ws = Cond.code y cc maxL ret :: ws') (hlen : (lg_sl av).length ≤ maxL)
    (body : ∀ (p : Program) (e : Env) (s : State) (m : MethodId) (args : Array Value) (below : List Frame) (meth : Method) (c : Code) (Q : State → Prop) (ls : Array Slot) (A : Nat → Prop), Q = MQ below Qc args s mc ms free → A = va_A wd sz → AtE p y ws cc maxL ret s m args meth c → KB D cI cJ s → va_P D vwCl wd s.heap → va_D A wd → (∀ q : Nat, s.heap.size ≤ q → A q) → lv_has ls maxL (lv_args 0 av) → W p l e rm s m args below meth c s.heap [] 0 0 Q (F0 m 0 ls [])) : Met l y ws rm (PX D cI cJ wd sz av) Qc mc ms free := by
  refine Met.ofW (cc := cc) (maxL := maxL) (ret := ret) hy hw ?_
  intro p e s m args below meth c s₁ B hml hv
  obtain ⟨ha, hsz, hK, hP, hD⟩ := hv
  have hl := lv_entry av (n := maxL) hlen
  subst ha
  rw [lg_entry_eq]
  exact body p e s m _ below meth c _ _ _ rfl rfl ⟨B.exec, B.bytes, B.returns, hml, B.notSynchronized, atoms_spec (ws := ws) B.pre, findClass_of_methodNamed B.named, (name_of_methodNamed B.named B.method).1⟩ hK hP hD.self (fun q h => Or.inr (by rw [← hsz]; exact h)) hl
theorem met_RT (hy : plainName y.cls = true) (hw : ws = Cond.code y cc maxL ret :: ws') (hlen : (lg_sl av).length ≤ maxL)
    (body : ∀ (p : Program) (e : Env) (s : State) (m : MethodId) (args : Array Value) (below : List Frame) (meth : Method) (c : Code) (Q : State → Prop) (ls : Array Slot), Q = MQ below Qc args s mc ms free → FT t NA s → AtE p y ws cc maxL ret s m args meth c → KB D cI cJ s → va_P D vwCl wd s.heap → lv_has ls maxL (lv_args 0 av) → W p l e rm s m args below meth c s.heap [] 0 0 Q (F0 m 0 ls [])) : Met l y ws rm (PRT D cI cJ t wd av) Qc mc ms free := by
  refine Met.ofW (cc := cc) (maxL := maxL) (ret := ret) hy hw ?_
  intro p e s m args below meth c s₁ B hml hv
  obtain ⟨ha, hK, hT, hP⟩ := hv
  have hl := lv_entry av (n := maxL) hlen
  subst ha
  rw [lg_entry_eq]
  exact body p e s m _ below meth c _ _ rfl hT ⟨B.exec, B.bytes, B.returns, hml, B.notSynchronized, atoms_spec (ws := ws) B.pre, findClass_of_methodNamed B.named, (name_of_methodNamed B.named B.method).1⟩ hK hP hl
theorem met_XT (hy : plainName y.cls = true) (hw : ws = Cond.code y cc maxL ret :: ws') (hlen : (lg_sl av).length ≤ maxL)
    (body : ∀ (p : Program) (e : Env) (s : State) (m : MethodId) (args : Array Value) (below : List Frame) (meth : Method) (c : Code) (Q : State → Prop) (ls : Array Slot) (A : Nat → Prop), Q = MQ below Qc args s mc ms free → A = va_A wd sz → FT t A s → AtE p y ws cc maxL ret s m args meth c → KB D cI cJ s → va_P D vwCl wd s.heap → va_D A wd → (∀ q : Nat, s.heap.size ≤ q → A q) → lv_has ls maxL (lv_args 0 av) → W p l e rm s m args below meth c s.heap [] 0 0 Q (F0 m 0 ls [])) : Met l y ws rm (PXT D cI cJ t wd sz av) Qc mc ms free := by
  refine Met.ofW (cc := cc) (maxL := maxL) (ret := ret) hy hw ?_
  intro p e s m args below meth c s₁ B hml hv
  obtain ⟨ha, hsz, hK, hT, hP, hD⟩ := hv
  have hl := lv_entry av (n := maxL) hlen
  subst ha
  rw [lg_entry_eq]
  exact body p e s m _ below meth c _ _ _ rfl rfl hT ⟨B.exec, B.bytes, B.returns, hml, B.notSynchronized, atoms_spec (ws := ws) B.pre, findClass_of_methodNamed B.named, (name_of_methodNamed B.named B.method).1⟩ hK hP hD.self (fun q h => Or.inr (by rw [← hsz]; exact h)) hl
end MET
section RET
variable {p : Program} {l : Launch} {e : Env} {R : Room} {s : State} {m : MethodId} {args : Array Value} {below : List Frame} {meth : Method} {c : Code} {H : Heap} {locs : List Loc} {Q : State → Prop}
variable {cc : ByteArray} {pc : Nat} {ls : Array Slot} {D : va_G} {A : Nat → Prop} {wd : va_W} {sz mc ms : Nat}
theorem r_iret (hx : p.tables.exec = Jvm.exec) (hb : c.code = cc) (hr : meth.sig.returnType = some .int) (hlk : meth.locks = false) {post : Int32 → Prop} (hQ : Q = MQ below (QRi post) args s 0 0 NA) (hS : va_S NA s.heap H locs) {v : Int32} (hp : post v) (hdg : decode cc pc = .ok (.ireturn, 1)) : W p l e R s m args below meth c H locs 0 0 Q (F0 m pc ls [.int v]) := by
  subst hQ
  exact W.iret hx hb hr (fun t ht hW => ⟨⟨v, (), rfl, hp, trivial⟩, hS.F ht⟩) hS.2.2 hdg hlk
theorem r_zret (hx : p.tables.exec = Jvm.exec) (hb : c.code = cc) (hr : meth.sig.returnType = some .boolean) (hlk : meth.locks = false) {post : Int32 → Prop} (hQ : Q = MQ below (QRi post) args s 0 0 NA) (hS : va_S NA s.heap H locs) {b : Bool} {v : Int32} (hv : v = bI b) (hp : post (bI b)) (hdg : decode cc pc = .ok (.ireturn, 1)) : W p l e R s m args below meth c H locs 0 0 Q (F0 m pc ls [.int v]) := by
  subst hQ
  subst hv
  exact W.zret hx hb hr (narrow_bI b) (fun t ht hW => ⟨⟨_, (), rfl, hp, trivial⟩, hS.F ht⟩) hS.2.2 hdg hlk
theorem r_lret (hx : p.tables.exec = Jvm.exec) (hb : c.code = cc) (hr : meth.sig.returnType = some .long) (hlk : meth.locks = false) {post : Int64 → Prop} (hQ : Q = MQ below (QRl post) args s 0 0 NA) (hS : va_S NA s.heap H locs) {v : Int64} (hp : post v) (hdg : decode cc pc = .ok (.lreturn, 1)) : W p l e R s m args below meth c H locs 0 0 Q (F0 m pc ls [.long v]) := by
  subst hQ
  exact W.lret hx hb hr (fun t ht hW => ⟨⟨v, (), rfl, hp, trivial⟩, hS.F ht⟩) hS.2.2 hdg hlk
theorem w_iret (hx : p.tables.exec = Jvm.exec) (hb : c.code = cc) (hr : meth.sig.returnType = some .int) (hlk : meth.locks = false) {S : Type} {post : Int32 → S → Prop} {w2 : S → va_W} (hQ : Q = MQ below (QWi D wd sz post w2) args s mc ms (va_A wd sz)) (hA : A = va_A wd sz) {v : Int32} (u : S) (hP : va_P D vwCl (w2 u) H) (hD : va_D A (w2 u)) (hS : va_S A s.heap H locs) (hp : post v u) (hdg : decode cc pc = .ok (.ireturn, 1)) : W p l e R s m args below meth c H locs mc ms Q (F0 m pc ls [.int v]) := by
  subst hQ
  subst hA
  exact W.iret hx hb hr (fun t ht hW => ⟨⟨v, u, rfl, hp, by rw [ht]; exact hP, hD⟩, hS.F ht⟩) hS.2.2 hdg hlk
theorem w_zret (hx : p.tables.exec = Jvm.exec) (hb : c.code = cc) (hr : meth.sig.returnType = some .boolean) (hlk : meth.locks = false) {S : Type} {post : Int32 → S → Prop} {w2 : S → va_W} (hQ : Q = MQ below (QWi D wd sz post w2) args s mc ms (va_A wd sz)) (hA : A = va_A wd sz) {b : Bool} {v : Int32} (hv : v = bI b) (u : S) (hP : va_P D vwCl (w2 u) H) (hD : va_D A (w2 u)) (hS : va_S A s.heap H locs) (hp : post (bI b) u) (hdg : decode cc pc = .ok (.ireturn, 1)) : W p l e R s m args below meth c H locs mc ms Q (F0 m pc ls [.int v]) := by
  subst hQ
  subst hA
  subst hv
  exact W.zret hx hb hr (narrow_bI b) (fun t ht hW => ⟨⟨_, u, rfl, hp, by rw [ht]; exact hP, hD⟩, hS.F ht⟩) hS.2.2 hdg hlk
theorem w_lret (hx : p.tables.exec = Jvm.exec) (hb : c.code = cc) (hr : meth.sig.returnType = some .long) (hlk : meth.locks = false) {S : Type} {post : Int64 → S → Prop} {w2 : S → va_W} (hQ : Q = MQ below (QWl D wd sz post w2) args s mc ms (va_A wd sz)) (hA : A = va_A wd sz) {v : Int64} (u : S) (hP : va_P D vwCl (w2 u) H) (hD : va_D A (w2 u)) (hS : va_S A s.heap H locs) (hp : post v u) (hdg : decode cc pc = .ok (.lreturn, 1)) : W p l e R s m args below meth c H locs mc ms Q (F0 m pc ls [.long v]) := by
  subst hQ
  subst hA
  exact W.lret hx hb hr (fun t ht hW => ⟨⟨v, u, rfl, hp, by rw [ht]; exact hP, hD⟩, hS.F ht⟩) hS.2.2 hdg hlk
theorem w_vret (hx : p.tables.exec = Jvm.exec) (hb : c.code = cc) (hr : meth.sig.returnType = none) (hlk : meth.locks = false) {S : Type} {post : S → Prop} {w2 : S → va_W} (hQ : Q = MQ below (QWv D wd sz post w2) args s mc ms (va_A wd sz)) (hA : A = va_A wd sz) (u : S) (hP : va_P D vwCl (w2 u) H) (hD : va_D A (w2 u)) (hS : va_S A s.heap H locs) (hp : post u) (hdg : decode cc pc = .ok (.return_, 1)) : W p l e R s m args below meth c H locs mc ms Q (F0 m pc ls []) := by
  subst hQ
  subst hA
  exact W.vret hx hb hr (fun t ht hW => ⟨⟨u, rfl, hp, by rw [ht]; exact hP, hD⟩, hS.F ht⟩) hS.2.2 hdg hlk
theorem w_aret (hx : p.tables.exec = Jvm.exec) (hb : c.code = cc) {rt : FieldType} (hr : meth.sig.returnType = some rt) (hrt : (∃ n, rt = .object n) ∨ ∃ t, rt = .array t) (hlk : meth.locks = false) {S : Type} {post : S → Prop} {w2 : S → va_W} {rf : Nat} (hQ : Q = MQ below (QWr D wd sz post w2 rf) args s mc ms (va_A wd sz)) (hA : A = va_A wd sz) (u : S) (hP : va_P D vwCl (w2 u) H) (hD : va_D A (w2 u)) (hS : va_S A s.heap H locs) (hp : post u) (hdg : decode cc pc = .ok (.areturn, 1)) : W p l e R s m args below meth c H locs mc ms Q (F0 m pc ls [.ref rf]) := by
  subst hQ
  subst hA
  exact W.aret hx hb hr hrt (Or.inr ⟨rf, rfl⟩) (fun t ht hW => ⟨⟨u, rf, rfl, hp, rfl, by rw [ht]; exact hP, hD⟩, hS.F ht⟩) hS.2.2 hdg hlk
end RET
section TAB
variable {p : Program} {l : Launch} {e : Env} {R : Room} {s : State} {m : MethodId} {args : Array Value} {below : List Frame} {meth : Method} {c : Code} {H : Heap} {locs : List Loc} {cells slots : Nat} {Q : State → Prop}
variable {cc : ByteArray} {pc : Nat} {ls : Array Slot} {rest : List Value} {A : Nat → Prop}
theorem r_ti (hx : p.tables.exec = Jvm.exec) (hb : c.code = cc) {t : Nat} (hT : FT t A s) (hS : va_S A s.heap H locs) {i : Nat} (hi : i < 6) (hdg : decode cc pc = .ok (.iaload, 1))
    (kk : W p l e R s m args below meth c H locs cells slots Q (F0 m (pc + 1) ls (.int (nI (fT i)) :: rest))) : W p l e R s m args below meth c H locs cells slots Q (F0 m pc ls (.int (nI i) :: .ref t :: rest)) :=
  va_ti hx hb hT.2 hS (vp_in_nI hi (by decide)) (v := .int (nI (fT i))) (by rw [nI_clamp (by omega)]) hdg kk
end TAB

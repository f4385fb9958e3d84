/-! FRAME of the law's own methods: they call the class and catch what it throws -/
abbrev KL (D : va_G) (cA cL : ClassId) (U : State) : Prop := va_K D vwCl [(cA, .int), (cL, .long)] U
abbrev wO (ob : Nat) (cL : ClassId) (fo : Nat → Int64) : va_W := [(ob, .inl (cL, 1, .inr (.inl fo)))]
abbrev wL (a : Nat → Nat) (cA : ClassId) (F : Nat → Nat → Int32) (g : Nat → Int32) (ob : Nat) (cL : ClassId) (fo : Nat → Int64) : va_W := wX a cA F g ++ wO ob cL fo
def ZX (U : State) : Prop := ZU U ∧ va_Nc eA eI U ∧ va_Nc eS eI U ∧ va_Nc eS eA U
theorem ZX.same {u U : State} (hh : U.heap = u.heap) (hvm : u.vm = U.vm) (h : ZX u) : ZX U :=
  ⟨ZU.same hh hvm h.1, va_Nc.moved (by rw [hvm]; exact Vm.Alike.refl U.vm) h.2.1, va_Nc.moved (by rw [hvm]; exact Vm.Alike.refl U.vm) h.2.2.1, va_Nc.moved (by rw [hvm]; exact Vm.Alike.refl U.vm) h.2.2.2⟩
theorem ZX.warm {s U : State} (hh : U.heap = s.heap) (hW : s.WarmedH U.vm) (h : ZX s) : ZX U :=
  ⟨ZU.warm hh hW h.1, va_Nc.moved hW.alike h.2.1, va_Nc.moved hW.alike h.2.2.1, va_Nc.moved hW.alike h.2.2.2⟩
abbrev LB {S : Type} (D : va_G) (cA cL : ClassId) (w : S → va_W) (A : Nat → Prop) : S → State → Prop := fun u t => va_P D vwCl (w u) t.heap ∧ KL D cA cL t ∧ va_D A (w u)
abbrev LPre (D : va_G) (cA cL : ClassId) (w0 : va_W) (sz : Nat) (As : List Value) : Array Value → State → Prop := va_Pc As (fun U => U.heap.size = sz ∧ va_P D vwCl w0 U.heap ∧ KL D cA cL U ∧ va_D (fun _ => True) w0 ∧ ZX U)
/-- a method of the law's: answers r, leaves the world w u; it may make one exception -/
def Lw (l : Launch) (D : va_G) (cA cL : ClassId) {S : Type} (w0 : va_W) (w : S → va_W) (y : MethodName) (ws : List Cond) (rm : Room) (As : List Value) (post : Int32 → S → Prop) : Prop :=
  ∀ sz : Nat, Met l y ws rm (LPre D cA cL w0 sz As) (va_Qi post (LB D cA cL w (va_A w0 sz)) (va_A w0 sz)) 1 6 (va_A w0 sz)
section LENTRY
variable {l : Launch}
theorem Met.ofWH {y : MethodName} {ws ws' : List Cond} {rm : Room} {Pc : Array Value → State → Prop} {Qc : Array Value → State → Outcome → State → Prop} {mc ms : Nat} {free : Addr → Prop} {cc : ByteArray} {maxL : Nat} {ret : Option FieldType} {hh : List (Nat × Nat × Nat × Nat)}
    (hy : plainName y.cls = true) (hw : ws = Cond.codeWith y cc maxL ret hh :: ws')
    (body : ∀ p e s m args below meth c s₁, BodyLoose p l y (headSpec ws rm) cc maxL ret e s m args below meth c s₁ → c.maxLocals = maxL → c.exceptionTable.toList = tableOf hh → Pc args s →
      W p l e (headSpec ws rm).room s m args below meth c s.heap [] 0 0 (MQ below Qc args s mc ms free) (entryFrame m args maxL)) : Met l y ws rm Pc Qc mc ms free := by
  refine MetFree.of_bodyS (code := cc) (maxLocals := maxL) (ret := ret) hy ?_ ?_
  · intro args s m h hn
    obtain ⟨m9, meth, c, hn9, h1, h2, h3, h4, -, h5, h6, -⟩ := Cond.codeWith_spec (atoms_spec (ws := ws) h _ (by rw [hw]; exact List.mem_cons_self))
    cases hn.symm.trans hn9
    exact ⟨meth, c, h1, h2, h3, h4, h5, h6⟩
  · intro p e s m args below meth c s₁ B hml hP _
    have hh0 : s₁.heap = s.heap := by rw [B.state]; rfl
    have ht := vx_table (x := y) B (atoms_spec (ws := ws) B.pre _ (by rw [hw]; exact List.mem_cons_self))
    obtain ⟨t, a1, o, b1, b2, b3⟩ := body p e s m args below meth c s₁ B hml ht hP s₁ hh0 (Stand.of_body B)
    exact ⟨t, o, a1, b1, b2, ⟨b3.1, b3.2⟩⟩
theorem Lw.of {D : va_G} {cA cL : ClassId} {y : MethodName} {ws ws' : List Cond} {rm : Room} {As : List Value} {cc : ByteArray} {maxL : Nat} {hh : List (Nat × Nat × Nat × Nat)} {S : Type} {w0 : va_W} {w : S → va_W} {post : Int32 → S → Prop} (hy : plainName y.cls = true) (hw : ws = Cond.codeWith y cc maxL (some .int) hh :: ws') (hn : (lg_sl As).length ≤ maxL)
    (body : ∀ (p : Program) (e : Env) (s : State) (m : MethodId) (args : Array Value) (below : List Frame) (meth : Method) (c : Code) (ls : Array Slot) (A : Nat → Prop) (Q : State → Prop), p.tables.exec = Jvm.exec → c.code = cc → (∀ w ∈ ws, w.before args s = true) → s.vm.findClass y.cls = some m.cls → c.maxLocals = maxL → KL D cA cL s → va_P D vwCl w0 s.heap → va_D A w0 → (∀ q : Nat, s.heap.size ≤ q → A q) → va_S A s.heap s.heap [] → lv_has ls maxL (lv_args 0 As) → c.exceptionTable.toList = tableOf hh → ZX s →
      (∀ (pc : Nat) (ls : Array Slot) (v : Int32) (u : S) (H : Heap) (locs : List Loc), decode cc pc = .ok (.ireturn, 1) → va_P D vwCl (w u) H → va_D A (w u) → va_S A s.heap H locs → post v u → W p l e rm s m args below meth c H locs 1 6 Q (F0 m pc ls [.int v])) →
      W p l e rm s m args below meth c s.heap [] 0 0 Q (F0 m 0 ls [])) : Lw l D cA cL w0 w y ws rm As post := by
  intro sz
  refine Met.ofWH (cc := cc) (maxL := maxL) (ret := (some .int)) (hh := hh) hy hw ?_
  intro p e s m args below meth c s₁ B hml htab hv
  obtain ⟨rfl, hsz, hP, hK, hD, hZ⟩ := hv
  subst hsz
  rw [lg_entry_eq]
  exact body p e s m _ below meth c _ _ _ B.exec B.bytes (atoms_spec (ws := ws) B.pre) (findClass_of_methodNamed B.named) hml hK hP hD.self (fun q h => Or.inr h) va_S.rf (lv_entry As (n := maxL) hn) htab hZ
    (fun pc ls v u H locs hd hP hD hS hpost => W.iret (v := v) B.exec B.bytes B.returns (fun t ht hW => ⟨⟨v, u, rfl, hpost, by rw [ht]; exact hP, va_K.moved hW.alike hK, hD⟩, hS.F ht⟩) hS.2.2 hd B.notSynchronized)
end LENTRY
section LROWS
variable {p : Program} {l : Launch} {e : Env} {R : Room} {s : State} {m : MethodId} {args : Array Value} {below : List Frame} {meth : Method} {c : Code} {Q : State → Prop}
variable {cc : ByteArray} {pc : Nat} {ls : Array Slot} {rest st0 : List Value} {D : va_G} {cA : ClassId} {A : Nat → Prop} {w : va_W}
/-- what the class throws is caught here, by the row x of the table -/
theorem Bx.catch {E name own : String} {XQ : State → Outcome → State → Prop} (hr : vx_Run p l e R s m args below meth c s.heap [] 0 0 1 6 (F0 m pc ls st0) rest XQ (xSame E) (fun q => s.heap.size ≤ q)) (hXQ : ∀ a o t, ¬ XQ a o t)
    (hown : s.vm.findClass own = some m.cls) (pre : List ExceptionTableEntry) (x : ExceptionTableEntry) (suf : List ExceptionTableEntry) (hsplit : c.exceptionTable.toList = pre ++ x :: suf)
    (hpass : ∀ z ∈ pre, covers z pc = false ∨ (z.catchType ≠ 0 ∧ ∃ nm : String, (Cond.classLink own z.catchType nm).before args s = true ∧ va_Nc E nm s)) (hx : covers x pc = true) (h0 : x.catchType ≠ 0)
    (hlink : (Cond.classLink own x.catchType name).before args s = true) (hcast : (Cond.castable E name).before args s = true) (hP : va_P D vwCl w s.heap) (hA : ∀ q : Nat, s.heap.size ≤ q → A q)
    (kk : ∀ (q : Nat) (H1 : Heap) (locs1 : List Loc), va_P D vwCl w H1 → va_S A s.heap H1 locs1 → W p l e R s m args below meth c H1 locs1 1 6 Q (F0 m x.handlerPc ls [.ref q])) :
    W p l e R s m args below meth c s.heap [] 0 0 Q (F0 m pc ls st0) := by
  intro T hT X
  rcases hr T hT X with ⟨v, st₀, t, T', L, h9, X', hL, e1, e2, hq, st⟩ | ⟨q, st₀, t, T', L, E', ce, h9, X', hL, e1, e2, ⟨rfl, hz, hk⟩, hce, hcv, hcl, st⟩
  · exact absurd hq (hXQ _ _ _)
  · rw [h9] at hz hk
    have hP1 : va_P D vwCl w T'.heap := fun i z hi => (hP i z hi).kept (by rw [e1]; exact hk z.1 (hP i z hi).lt)
    have hS1 : va_S A s.heap T'.heap ([] ++ L) := ⟨by rw [e1]; exact hz, fun q9 h1 _ => by rw [e1]; exact hk q9 h1, fun z hz9 => by
      rcases List.mem_append.mp hz9 with h | h
      · cases h
      · exact hA _ (hL z h)⟩
    obtain ⟨t2, a1, b1⟩ := vx_catch (rest := rest) (pc := pc) (ls := ls) hown pre x suf hsplit hpass hx h0 hlink hcast (show T'.heap[q]? = some ce by rw [e1]; exact hce) hcv hcl (kk q T'.heap ([] ++ L) hP1 hS1) T' rfl X'
    exact ⟨t2, st.trans a1, b1⟩
end LROWS

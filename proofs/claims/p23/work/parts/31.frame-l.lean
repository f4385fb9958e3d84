/-! FRAME of the law's own methods, at no shift: they call the class and catch what it throws; each says by how much the heap has grown at least -/
abbrev wK (a : Nat → Nat) (cA : ClassId) (F : Nat → Nat → Int32) (g : Nat → Int32) (am ar : Nat) (Y : Nat → Int32) : va_W := wX a cA F g ++ [(am, .inl (cA, 7, .inl (fun _ => 0))), (ar, .inl (cA, 22, .inl Y))]
def ZX (U : State) : Prop := ZU U ∧ va_Nc eA eI U ∧ va_Nc eS eI U ∧ va_Nc eS eA U
theorem ZX.same {u U : State} (hh : U.heap = u.heap) (hvm : u.vm = U.vm) (h : ZX u) : ZX U :=
  ⟨ZU.same hh hvm h.1, va_Nc.moved (by rw [hvm]; exact Vm.Alike.refl U.vm) h.2.1, va_Nc.moved (by rw [hvm]; exact Vm.Alike.refl U.vm) h.2.2.1, va_Nc.moved (by rw [hvm]; exact Vm.Alike.refl U.vm) h.2.2.2⟩
theorem ZX.warm {s U : State} (hh : U.heap = s.heap) (hW : s.WarmedH U.vm) (h : ZX s) : ZX U :=
  ⟨ZU.warm hh hW h.1, va_Nc.moved hW.alike h.2.1, va_Nc.moved hW.alike h.2.2.1, va_Nc.moved hW.alike h.2.2.2⟩
/-- what ZX needs lies outside of A -/
def ZY (A : Nat → Prop) (s : State) : Prop := vx_Zq Bundle.tN "UNASSIGNED_STACK" Bundle.steD A s s.heap ∧ vx_Zq Bundle.tN "SUPPRESSED_SENTINEL" Bundle.listD A s s.heap ∧ ZX s
theorem va_S.rb {A : Nat → Prop} {H0 H : Heap} {locs : List Loc} (h : va_S A H0 H locs) : va_S A H H locs := ⟨Nat.le_refl _, fun _ _ _ => rfl, h.2.2⟩
theorem va_S.tr {A : Nat → Prop} {H0 H H1 : Heap} {locs locs1 : List Loc} (h : va_S A H0 H locs) (k : va_S A H H1 locs1) : va_S A H0 H1 locs1 :=
  ⟨Nat.le_trans h.1 k.1, fun q h1 h2 => (k.2.1 q (Nat.lt_of_lt_of_le h1 h.1) h2).trans (h.2.1 q h1 h2), k.2.2⟩
theorem ZqLater {C n d : String} {A : Nat → Prop} {s U : State} {H : Heap} {locs : List Loc} (h : vx_Zq C n d A s s.heap) (hA : ∀ q : Nat, s.heap.size ≤ q → A q) (hS : va_S A s.heap H locs) (hU : U.heap = H) (hW : s.WarmedH U.vm) : vx_Zq C n d A U U.heap := by
  rw [hU]
  exact ((h.moved hW.alike).kept (fun a h1 h2 => hS.2.1 a h1 h2))
theorem ZY.later {A : Nat → Prop} {s : State} {H : Heap} {locs : List Loc} (hZ : ZY A s) (hA : ∀ q : Nat, s.heap.size ≤ q → A q) (hS : va_S A s.heap H locs) : ∀ U : State, U.heap = H → s.WarmedH U.vm → ZX U := by
  intro U hU hW
  obtain ⟨y1, y2, ⟨⟨-, -, ⟨a1, h3⟩, ⟨a2, h4⟩, ⟨a3, h5⟩, h6, h7, h8, h9, h10, h11⟩, n1, n2, n3⟩⟩ := hZ
  have hq : ∀ q : Nat, U.heap.size ≤ q → A q := fun q h => hA q (Nat.le_trans hS.1 (by rw [← hU]; exact h))
  exact ⟨⟨(ZqLater y1 hA hS hU hW).narrow hq, (ZqLater y2 hA hS hU hW).narrow hq, ⟨a1, vk_R.warm hW h3⟩, ⟨a2, vk_R.warm hW h4⟩, ⟨a3, vk_R.warm hW h5⟩, va_Nw.warmC hW h6, va_Nw.warmC hW h7, va_Nw.warmC hW h8, va_Nw.warmD hW h9, va_Nw.warmD hW h10, va_Nw.warmD hW h11⟩, va_Nc.moved hW.alike n1, va_Nc.moved hW.alike n2, va_Nc.moved hW.alike n3⟩
theorem ZY.same {A : Nat → Prop} {u U : State} (hh : U.heap = u.heap) (hvm : u.vm = U.vm) (h : ZY A u) : ZY A U := by
  obtain ⟨h1, h2, h3⟩ := h
  refine ⟨?_, ?_, ZX.same hh hvm h3⟩
  · rw [hh]; exact vx_Zq.moved (by rw [hvm]; exact Vm.Alike.refl U.vm) h1
  · rw [hh]; exact vx_Zq.moved (by rw [hvm]; exact Vm.Alike.refl U.vm) h2
abbrev LB {S : Type} (D : va_G) (cA : ClassId) (w : S → va_W) (A : Nat → Prop) (lo : Nat) : S → State → Prop := fun u t => va_P D vwCl (w u) t.heap ∧ KA D cA t ∧ va_D A (w u) ∧ lo ≤ t.heap.size
abbrev LPre (D : va_G) (cA : ClassId) (w0 : va_W) (sz : Nat) (As : List Value) : Array Value → State → Prop := va_Pc As (fun U => U.heap.size = sz ∧ va_P D vwCl w0 U.heap ∧ KA D cA U ∧ va_D (fun _ => True) w0 ∧ ZY (va_A w0 sz) U)
/-- a method of the law's: it answers r and leaves the world w u; at least gr cells are new, at most mc of ms slots -/
def Lq (l : Launch) (D : va_G) (cA : ClassId) {S : Type} (w0 : va_W) (w : S → va_W) (y : MethodName) (ws : List Cond) (rm : Room) (As : List Value) (post : Int32 → S → Prop) (gr mc ms : Nat) : Prop :=
  ∀ sz : Nat, Met l y ws rm (LPre D cA w0 sz As) (va_Qi post (LB D cA w (va_A w0 sz) (sz + gr)) (va_A w0 sz)) mc ms (va_A w0 sz)
/-- the same, with a long for its answer -/
def Lj (l : Launch) (D : va_G) (cA : ClassId) {S : Type} (w0 : va_W) (w : S → va_W) (y : MethodName) (ws : List Cond) (rm : Room) (As : List Value) (post : Int64 → S → Prop) (gr mc ms : Nat) : Prop :=
  ∀ sz : Nat, Met l y ws rm (LPre D cA w0 sz As) (va_Ql post (LB D cA w (va_A w0 sz) (sz + gr)) (va_A w0 sz)) mc ms (va_A w0 sz)
section LENTRY
variable {l : Launch}
theorem Met.ofWH {y : MethodName} {ws ws' : List Cond} {rm : Room} {Pc : Array Value → State → Prop} {Qc : Array Value → State → Outcome → State → Prop} {mc ms : Nat} {free : Addr → Prop} {cc : ByteArray} {maxL : Nat} {ret : Option FieldType} {hh : List (Nat × Nat × Nat × Nat)}
    (hy : plainName y.cls = true) (hw : ws = Cond.codeWith y cc maxL ret hh :: ws')
    (body : ∀ p e s m args below meth c s₁, BodyLoose p l y (headSpec ws rm) cc maxL ret e s m args below meth c s₁ → c.maxLocals = maxL → c.exceptionTable.toList = tableOf hh → Pc args s →
      W p l e (headSpec ws rm).room s m args below meth c s.heap [] 0 0 (MQ below Qc args s mc ms free) (entryFrame m args maxL)) : Met l y ws rm Pc Qc mc ms free := by
  refine MetFree.of_bodyS (code := cc) (maxLocals := maxL) (ret := ret) hy ?_ ?_
  · intro args s m h hn
    obtain ⟨m9, meth, c, hn9, h1, h2, h3, h4, -, h5, h6, -⟩ := Cond.codeWith_spec (atoms_spec (ws := ws) h _ (by rw [hw]; exact List.mem_cons_self))
    cases hn.symm.trans hn9
    exact ⟨meth, c, h1, h2, h3, h4, h5, h6⟩
  · intro p e s m args below meth c s₁ B hml hP _
    have hh0 : s₁.heap = s.heap := by rw [B.state]; rfl
    have ht := vx_table (x := y) B (atoms_spec (ws := ws) B.pre _ (by rw [hw]; exact List.mem_cons_self))
    obtain ⟨t, a1, o, b1, b2, b3⟩ := body p e s m args below meth c s₁ B hml ht hP s₁ hh0 (Stand.of_body B)
    exact ⟨t, o, a1, b1, b2, ⟨b3.1, b3.2⟩⟩
variable {D : va_G} {cA : ClassId} {y : MethodName} {ws ws' : List Cond} {rm : Room} {As : List Value} {cc : ByteArray} {maxL gr mc ms : Nat} {hh : List (Nat × Nat × Nat × Nat)} {S : Type} {w0 : va_W} {w : S → va_W} {post : Int32 → S → Prop}
/-- with a table of exceptions -/
theorem Lq.ofH (hy : plainName y.cls = true) (hw : ws = Cond.codeWith y cc maxL (some .int) hh :: ws') (hn : (lg_sl As).length ≤ maxL)
    (body : ∀ (p : Program) (e : Env) (s : State) (m : MethodId) (args : Array Value) (below : List Frame) (meth : Method) (c : Code) (ls : Array Slot) (A : Nat → Prop) (Q : State → Prop), p.tables.exec = Jvm.exec → c.code = cc → (∀ w ∈ ws, w.before args s = true) → s.vm.findClass y.cls = some m.cls → c.maxLocals = maxL → KA D cA s → va_P D vwCl w0 s.heap → va_D A w0 → (∀ q : Nat, s.heap.size ≤ q → A q) → va_S A s.heap s.heap [] → lv_has ls maxL (lv_args 0 As) → c.exceptionTable.toList = tableOf hh → ZY A s →
      (∀ (pc : Nat) (ls : Array Slot) (v : Int32) (u : S) (H : Heap) (locs : List Loc), decode cc pc = .ok (.ireturn, 1) → va_P D vwCl (w u) H → va_D A (w u) → va_S A s.heap H locs → s.heap.size + gr ≤ H.size → post v u → W p l e rm s m args below meth c H locs mc ms Q (F0 m pc ls [.int v])) →
      W p l e rm s m args below meth c s.heap [] 0 0 Q (F0 m 0 ls [])) : Lq l D cA w0 w y ws rm As post gr mc ms := by
  intro sz
  refine Met.ofWH (cc := cc) (maxL := maxL) (ret := (some .int)) (hh := hh) hy hw ?_
  intro p e s m args below meth c s₁ B hml htab hv
  obtain ⟨rfl, hsz, hP, hK, hD, hZ⟩ := hv
  subst hsz
  rw [lg_entry_eq]
  exact body p e s m _ below meth c _ _ _ B.exec B.bytes (atoms_spec (ws := ws) B.pre) (findClass_of_methodNamed B.named) hml hK hP hD.self (fun q h => Or.inr h) va_S.rf (lv_entry As (n := maxL) hn) htab hZ
    (fun pc ls v u H locs hd hP hD hS hG hpost => W.iret (v := v) B.exec B.bytes B.returns (fun t ht hW => ⟨⟨v, u, rfl, hpost, by rw [ht]; exact hP, va_K.moved hW.alike hK, hD, by rw [ht]; exact hG⟩, hS.F ht⟩) hS.2.2 hd B.notSynchronized)
/-- a truth value -/
theorem Lq.ofz (hy : plainName y.cls = true) (hw : ws = Cond.code y cc maxL (some .boolean) :: ws') (hn : (lg_sl As).length ≤ maxL)
    (body : ∀ (p : Program) (e : Env) (s : State) (m : MethodId) (args : Array Value) (below : List Frame) (meth : Method) (c : Code) (ls : Array Slot) (A : Nat → Prop) (Q : State → Prop), p.tables.exec = Jvm.exec → c.code = cc → (∀ w ∈ ws, w.before args s = true) → s.vm.findClass y.cls = some m.cls → c.maxLocals = maxL → KA D cA s → va_P D vwCl w0 s.heap → va_D A w0 → (∀ q : Nat, s.heap.size ≤ q → A q) → va_S A s.heap s.heap [] → lv_has ls maxL (lv_args 0 As) → ZY A s →
      (∀ (pc : Nat) (ls : Array Slot) (v : Int32) (u : S) (H : Heap) (locs : List Loc), decode cc pc = .ok (.ireturn, 1) → va_P D vwCl (w u) H → va_D A (w u) → va_S A s.heap H locs → s.heap.size + gr ≤ H.size → post v u → (v = 0 ∨ v = 1) → W p l e rm s m args below meth c H locs mc ms Q (F0 m pc ls [.int v])) →
      W p l e rm s m args below meth c s.heap [] 0 0 Q (F0 m 0 ls [])) : Lq l D cA w0 w y ws rm As post gr mc ms := by
  intro sz
  refine Met.ofW (cc := cc) (maxL := maxL) (ret := (some .boolean)) hy hw ?_
  intro p e s m args below meth c s₁ B hml hv
  obtain ⟨rfl, hsz, hP, hK, hD, hZ⟩ := hv
  subst hsz
  rw [lg_entry_eq]
  exact body p e s m _ below meth c _ _ _ B.exec B.bytes (atoms_spec (ws := ws) B.pre) (findClass_of_methodNamed B.named) hml hK hP hD.self (fun q h => Or.inr h) va_S.rf (lv_entry As (n := maxL) hn) hZ
    (fun pc ls v u H locs hd hP hD hS hG hpost hz => W.zret (v := v) B.exec B.bytes B.returns (by rcases hz with h | h <;> subst h <;> rfl) (fun t ht hW => ⟨⟨v, u, rfl, hpost, by rw [ht]; exact hP, va_K.moved hW.alike hK, hD, by rw [ht]; exact hG⟩, hS.F ht⟩) hS.2.2 hd B.notSynchronized)
theorem Lj.of {post : Int64 → S → Prop} (hy : plainName y.cls = true) (hw : ws = Cond.code y cc maxL (some .long) :: ws') (hn : (lg_sl As).length ≤ maxL)
    (body : ∀ (p : Program) (e : Env) (s : State) (m : MethodId) (args : Array Value) (below : List Frame) (meth : Method) (c : Code) (ls : Array Slot) (A : Nat → Prop) (Q : State → Prop), p.tables.exec = Jvm.exec → c.code = cc → (∀ w ∈ ws, w.before args s = true) → s.vm.findClass y.cls = some m.cls → c.maxLocals = maxL → KA D cA s → va_P D vwCl w0 s.heap → va_D A w0 → (∀ q : Nat, s.heap.size ≤ q → A q) → va_S A s.heap s.heap [] → lv_has ls maxL (lv_args 0 As) → ZY A s →
      (∀ (pc : Nat) (ls : Array Slot) (v : Int64) (u : S) (H : Heap) (locs : List Loc), decode cc pc = .ok (.lreturn, 1) → va_P D vwCl (w u) H → va_D A (w u) → va_S A s.heap H locs → s.heap.size + gr ≤ H.size → post v u → W p l e rm s m args below meth c H locs mc ms Q (F0 m pc ls [.long v])) →
      W p l e rm s m args below meth c s.heap [] 0 0 Q (F0 m 0 ls [])) : Lj l D cA w0 w y ws rm As post gr mc ms := by
  intro sz
  refine Met.ofW (cc := cc) (maxL := maxL) (ret := (some .long)) hy hw ?_
  intro p e s m args below meth c s₁ B hml hv
  obtain ⟨rfl, hsz, hP, hK, hD, hZ⟩ := hv
  subst hsz
  rw [lg_entry_eq]
  exact body p e s m _ below meth c _ _ _ B.exec B.bytes (atoms_spec (ws := ws) B.pre) (findClass_of_methodNamed B.named) hml hK hP hD.self (fun q h => Or.inr h) va_S.rf (lv_entry As (n := maxL) hn) hZ
    (fun pc ls v u H locs hd hP hD hS hG hpost => W.lret (v := v) B.exec B.bytes B.returns (fun t ht hW => ⟨⟨v, u, rfl, hpost, by rw [ht]; exact hP, va_K.moved hW.alike hK, hD, by rw [ht]; exact hG⟩, hS.F ht⟩) hS.2.2 hd B.notSynchronized)
end LENTRY
section LROWS
variable {p : Program} {l : Launch} {e : Env} {R : Room} {s : State} {m : MethodId} {args : Array Value} {below : List Frame} {meth : Method} {c : Code} {H : Heap} {locs : List Loc} {cells slots : Nat} {Q : State → Prop}
variable {cc : ByteArray} {pc : Nat} {ls : Array Slot} {rest st0 : List Value} {D : va_G} {cA : ClassId} {A A0 : Nat → Prop} {w : va_W}
variable {nL maxL n index gr mc ms : Nat} {Ts ws : List Cond} {own : String} {y : MethodName} {bytes : ByteArray} {ret : Option FieldType} {rm : Room} {As : List Value}
theorem ri_top {x : Int32} (v : Int32) (h : x = v) (k : W p l e R s m args below meth c H locs cells slots Q (F0 m pc ls (.int v :: rest))) : W p l e R s m args below meth c H locs cells slots Q (F0 m pc ls (.int x :: rest)) := by
  subst h; exact k
theorem ri_topl {x : Int64} (v : Int64) (h : x = v) (k : W p l e R s m args below meth c H locs cells slots Q (F0 m pc ls (.long v :: rest))) : W p l e R s m args below meth c H locs cells slots Q (F0 m pc ls (.long x :: rest)) := by
  subst h; exact k
/-- what the class throws is caught here, by the row x of the table; what was thrown is a new cell -/
theorem Bx.catch {E name own : String} {XQ : State → Outcome → State → Prop} (hr : vx_Run p l e R s m args below meth c s.heap [] 0 0 1 6 (F0 m pc ls st0) rest XQ (xSame E) (fun q => s.heap.size ≤ q)) (hXQ : ∀ a o t, ¬ XQ a o t)
    (hown : s.vm.findClass own = some m.cls) (pre : List ExceptionTableEntry) (x : ExceptionTableEntry) (suf : List ExceptionTableEntry) (hsplit : c.exceptionTable.toList = pre ++ x :: suf)
    (hpass : ∀ z ∈ pre, covers z pc = false ∨ (z.catchType ≠ 0 ∧ ∃ nm : String, (Cond.classLink own z.catchType nm).before args s = true ∧ va_Nc E nm s)) (hx : covers x pc = true) (h0 : x.catchType ≠ 0)
    (hlink : (Cond.classLink own x.catchType name).before args s = true) (hcast : (Cond.castable E name).before args s = true) (hP : va_P D vwCl w s.heap) (hA : ∀ q : Nat, s.heap.size ≤ q → A q)
    (kk : ∀ (q : Nat) (H1 : Heap) (locs1 : List Loc), va_P D vwCl w H1 → va_S A s.heap H1 locs1 → s.heap.size + 1 ≤ H1.size → W p l e R s m args below meth c H1 locs1 1 6 Q (F0 m x.handlerPc ls [.ref q])) :
    W p l e R s m args below meth c s.heap [] 0 0 Q (F0 m pc ls st0) := by
  intro T hT X
  rcases hr T hT X with ⟨v, st₀, t, T', L, h9, X', hL, e1, e2, hq, st⟩ | ⟨q, st₀, t, T', L, E', ce, h9, X', hL, e1, e2, ⟨rfl, hz, hk⟩, hce, hcv, hcl, st⟩
  · exact absurd hq (hXQ _ _ _)
  · rw [h9] at hz hk
    have hP1 : va_P D vwCl w T'.heap := fun i z hi => (hP i z hi).kept (by rw [e1]; exact hk z.1 (hP i z hi).lt)
    have hG1 : s.heap.size + 1 ≤ T'.heap.size := by rw [e1]; exact hz
    have hS1 : va_S A s.heap T'.heap ([] ++ L) := ⟨Nat.le_of_succ_le hG1, fun q9 h1 _ => by rw [e1]; exact hk q9 h1, fun z hz9 => by
      rcases List.mem_append.mp hz9 with h | h
      · cases h
      · exact hA _ (hL z h)⟩
    obtain ⟨t2, a1, b1⟩ := vx_catch (rest := rest) (pc := pc) (ls := ls) hown pre x suf hsplit hpass hx h0 hlink hcast (show T'.heap[q]? = some ce by rw [e1]; exact hce) hcv hcl (kk q T'.heap ([] ++ L) hP1 hS1 hG1) T' rfl X'
    exact ⟨t2, st.trans a1, b1⟩
theorem PreL {wc w0 : va_W} (isC : List Nat) (hC : isC.map (fun i => wc[i]?) = w0.map some) (hnC : va_nd isC = true) (hK : KA D cA s) (hP : va_P D vwCl wc H) (hD : va_D A0 wc) (hS : va_S A0 s.heap H locs) (hA : ∀ q : Nat, s.heap.size ≤ q → A0 q) (hZ : ZY A0 s) : PreS s H (LPre D cA w0 H.size As) As := by
  have hP' : va_P D vwCl w0 H := fun k z hk => by
    have h1 : (isC.map (fun i => wc[i]?))[k]? = some (some z) := by rw [hC, List.getElem?_map, hk]; rfl
    rw [List.getElem?_map] at h1
    cases hi : isC[k]? with
    | none => rw [hi] at h1; cases h1
    | some i => rw [hi] at h1; exact hP i z (Option.some.inj h1)
  have hD' : va_D A0 w0 := hD.sub isC hnC hC
  have hB : ∀ q : Nat, va_A w0 H.size q → A0 q := fun q h => h.elim (fun ⟨k, e9, h9⟩ => hD'.2 k (q, e9) h9) (fun h9 => hA q (Nat.le_trans hS.1 h9))
  exact ⟨fun a U g mk z => by obtain ⟨z0, z1, zP, zK, zD, zZ⟩ := z; exact ⟨z0, z1, zP, va_K.moved (u := U) (U := U.calling g mk a) (Vm.Alike.refl U.vm) zK, zD, ZY.same (u := U) (U := U.calling g mk a) rfl rfl zZ⟩,
    fun U hU hW => ⟨rfl, by rw [hU], by rw [hU]; exact hP', va_K.moved hW.alike hK, hD'.weaken (fun _ _ _ _ => trivial), (ZqLater hZ.1 hA hS hU hW).narrow hB, (ZqLater hZ.2.1 hA hS hU hW).narrow hB, hZ.later hA hS U hU hW⟩⟩
/-- a method of the law's is called; it has a table of exceptions -/
theorem Lq.callH {hh : List (Nat × Nat × Nat × Nat)} {S9 : Type} {wc wr w0 : va_W} {ww : S9 → va_W} {post : Int32 → S9 → Prop} (isC isR : List Nat) (S : CallFix p m c cc nL s args Ts own) (hM : Lq l D cA w0 ww y ws rm As post gr mc ms) (cw : vx_CSW R s args own index y bytes maxL ret hh ws rm mc ms n) (hK : KA D cA s) (hP : va_P D vwCl wc H) (hD : va_D A0 wc) (hS : va_S A0 s.heap H locs) (hA : ∀ q : Nat, s.heap.size ≤ q → A0 q) (hZ : ZY A0 s)
    (hC : isC.map (fun i => wc[i]?) = w0.map some) (hR : isR.map (fun i => wc[i]?) = wr.map some) (hnC : va_nd isC = true) (hnR : va_nd isR = true) (hdis : ∀ i ∈ isR, i ∉ isC)
    (hst : st0 = As.reverse ++ rest) (hn : As.length = n) (hls : ls.size = nL) (hrm : (rest.map fun v => v.category).sum ≤ 8) (hdg : decode cc pc = .ok (.invokestatic index, 3)) (hf : cells + mc ≤ R.cells ∧ slots + ms ≤ R.slots)
    (kk : ∀ (r : Int32) (u : S9) (H1 : Heap) (locs1 : List Loc), post r u → va_P D vwCl (wr ++ ww u) H1 → va_D A0 (wr ++ ww u) → va_S A0 s.heap H1 locs1 → H.size + gr ≤ H1.size → W p l e R s m args below meth c H1 locs1 (cells + mc) (slots + ms) Q (F0 m (pc + 3) ls (.int r :: rest))) : W p l e R s m args below meth c H locs cells slots Q (F0 m pc ls st0) := by
  have hF := va_free hD hS hA isC hC
  refine va_calli (vx_runSW S (hM H.size) cw (PreL (As := As) isC hC hnC hK hP hD hS hA hZ) rfl hn hls hst (lv_room hrm) hdg hf) hS (fun q _ h => hF q h) hF (fun r u t H1 locs1 ht hvm hw hB hz1 hk1 hS1 => ?_)
  obtain ⟨hP1, hK1, hD1, hG1⟩ := hB
  rw [ht] at hP1 hG1
  obtain ⟨hP2, hD2⟩ := va_join hP hD isC isR hC hR hnR hdis hk1 hF hP1 hD1
  exact kk r u H1 locs1 hw hP2 hD2 hS1 hG1
/-- .. it has none -/
theorem Lq.callS {S9 : Type} {wc wr w0 : va_W} {ww : S9 → va_W} {post : Int32 → S9 → Prop} (isC isR : List Nat) (S : CallFix p m c cc nL s args Ts own) (hM : Lq l D cA w0 ww y ws rm As post gr mc ms) (cw : CallB R s args own index y bytes maxL ret ws rm mc ms n ∧ (Cond.static y).before args s = true) (hK : KA D cA s) (hP : va_P D vwCl wc H) (hD : va_D A0 wc) (hS : va_S A0 s.heap H locs) (hA : ∀ q : Nat, s.heap.size ≤ q → A0 q) (hZ : ZY A0 s)
    (hC : isC.map (fun i => wc[i]?) = w0.map some) (hR : isR.map (fun i => wc[i]?) = wr.map some) (hnC : va_nd isC = true) (hnR : va_nd isR = true) (hdis : ∀ i ∈ isR, i ∉ isC)
    (hst : st0 = As.reverse ++ rest) (hn : As.length = n) (hls : ls.size = nL) (hrm : (rest.map fun v => v.category).sum ≤ 8) (hdg : decode cc pc = .ok (.invokestatic index, 3)) (hf : cells + mc ≤ R.cells ∧ slots + ms ≤ R.slots)
    (kk : ∀ (r : Int32) (u : S9) (H1 : Heap) (locs1 : List Loc), post r u → va_P D vwCl (wr ++ ww u) H1 → va_D A0 (wr ++ ww u) → va_S A0 s.heap H1 locs1 → H.size + gr ≤ H1.size → W p l e R s m args below meth c H1 locs1 (cells + mc) (slots + ms) Q (F0 m (pc + 3) ls (.int r :: rest))) : W p l e R s m args below meth c H locs cells slots Q (F0 m pc ls st0) := by
  have hF := va_free hD hS hA isC hC
  refine va_calli (va_runS S (hM H.size) cw (PreL (As := As) isC hC hnC hK hP hD hS hA hZ) rfl hn hls hst (lv_room hrm) hdg hf) hS (fun q _ h => hF q h) hF (fun r u t H1 locs1 ht hvm hw hB hz1 hk1 hS1 => ?_)
  obtain ⟨hP1, hK1, hD1, hG1⟩ := hB
  rw [ht] at hP1 hG1
  obtain ⟨hP2, hD2⟩ := va_join hP hD isC isR hC hR hnR hdis hk1 hF hP1 hD1
  exact kk r u H1 locs1 hw hP2 hD2 hS1 hG1
/-- .. and its answer is a long -/
theorem Lj.callS {S9 : Type} {wc wr w0 : va_W} {ww : S9 → va_W} {post : Int64 → S9 → Prop} (isC isR : List Nat) (S : CallFix p m c cc nL s args Ts own) (hM : Lj l D cA w0 ww y ws rm As post gr mc ms) (cw : CallB R s args own index y bytes maxL ret ws rm mc ms n ∧ (Cond.static y).before args s = true) (hK : KA D cA s) (hP : va_P D vwCl wc H) (hD : va_D A0 wc) (hS : va_S A0 s.heap H locs) (hA : ∀ q : Nat, s.heap.size ≤ q → A0 q) (hZ : ZY A0 s)
    (hC : isC.map (fun i => wc[i]?) = w0.map some) (hR : isR.map (fun i => wc[i]?) = wr.map some) (hnC : va_nd isC = true) (hnR : va_nd isR = true) (hdis : ∀ i ∈ isR, i ∉ isC)
    (hst : st0 = As.reverse ++ rest) (hn : As.length = n) (hls : ls.size = nL) (hrm : (rest.map fun v => v.category).sum ≤ 8) (hdg : decode cc pc = .ok (.invokestatic index, 3)) (hf : cells + mc ≤ R.cells ∧ slots + ms ≤ R.slots)
    (kk : ∀ (r : Int64) (u : S9) (H1 : Heap) (locs1 : List Loc), post r u → va_P D vwCl (wr ++ ww u) H1 → va_D A0 (wr ++ ww u) → va_S A0 s.heap H1 locs1 → H.size + gr ≤ H1.size → W p l e R s m args below meth c H1 locs1 (cells + mc) (slots + ms) Q (F0 m (pc + 3) ls (.long r :: rest))) : W p l e R s m args below meth c H locs cells slots Q (F0 m pc ls st0) := by
  have hF := va_free hD hS hA isC hC
  refine va_calll (va_runS S (hM H.size) cw (PreL (As := As) isC hC hnC hK hP hD hS hA hZ) rfl hn hls hst (lv_room hrm) hdg hf) hS (fun q _ h => hF q h) hF (fun r u t H1 locs1 ht hvm hw hB hz1 hk1 hS1 => ?_)
  obtain ⟨hP1, hK1, hD1, hG1⟩ := hB
  rw [ht] at hP1 hG1
  obtain ⟨hP2, hD2⟩ := va_join hP hD isC isR hC hR hnR hdis hk1 hF hP1 hD1
  exact kk r u H1 locs1 hw hP2 hD2 hS1 hG1
end LROWS

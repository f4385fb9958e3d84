/-! FRAME: the worlds of the two classes, and the kinds of contract that this claim's methods have -/
abbrev fsX (a : Nat → Nat) (F : Nat → Nat → Int32) : List Value := [.ref (a 0), .ref (a 1), .ref (a 2), .ref (a 3), .ref (a 4), .int (F 5 0), .int (F 6 0), .int (F 7 0), .ref (a 8), .ref (a 9), .ref (a 10), .ref (a 11), .ref (a 12), .ref (a 13), .ref (a 14), .ref (a 15)]
/-- the class' object, its rows; g: the row aheadOnDay -/
abbrev wX (a : Nat → Nat) (cA : ClassId) (F : Nat → Nat → Int32) (g : Nat → Int32) : va_W := [(a 16, .inr (0, fsX a F)), (a 0, .inl (cA, 4, .inl (F 0))), (a 1, .inl (cA, 4, .inl (F 1))), (a 2, .inl (cA, 4, .inl (F 2))), (a 3, .inl (cA, 4, .inl (F 3))), (a 4, .inl (cA, 4, .inl (F 4))), (a 8, .inl (cA, 80, .inl (F 8))), (a 9, .inl (cA, 80, .inl (F 9))), (a 10, .inl (cA, 80, .inl (F 10))), (a 11, .inl (cA, 80, .inl (F 11))), (a 12, .inl (cA, 120, .inl (F 12))), (a 13, .inl (cA, 80, .inl (F 13))), (a 14, .inl (cA, 6, .inl (F 14))), (a 15, .inl (cA, 7, .inl g))]
/-- a row of the state is written at one place -/
def fUp (F : Nat → Nat → Int32) (k j : Nat) (v : Int32) : Nat → Nat → Int32 := fun b => if b = k then upd (F b) j v else F b
abbrev KA (D : va_G) (cA : ClassId) (U : State) : Prop := va_K D vwCl [(cA, .int)] U
/-- a read that answers v; the heap stays -/
def Rd (l : Launch) (D : va_G) (cA : ClassId) (w : va_W) (y : MethodName) (ws : List Cond) (rm : Room) (As : List Value) (v : Int32) : Prop :=
  Met l y ws rm (va_Pc As (fun U => va_P D vwCl w U.heap ∧ KA D cA U)) (vp_Si (fun r => r = v)) 0 0 (fun _ => False)
/-- the same without an answer -/
def Ru (l : Launch) (D : va_G) (cA : ClassId) (w : va_W) (y : MethodName) (ws : List Cond) (rm : Room) (As : List Value) : Prop :=
  Met l y ws rm (va_Pc As (fun U => va_P D vwCl w U.heap ∧ KA D cA U)) (va_Sv (fun _ => True)) 0 0 (fun _ => False)
abbrev WB {S : Type} (D : va_G) (cA : ClassId) (w : S → va_W) (A : Nat → Prop) : S → State → Prop := fun u t => va_P D vwCl (w u) t.heap ∧ KA D cA t ∧ va_D A (w u)
abbrev WP (D : va_G) (cA : ClassId) (w0 : va_W) (sz : Nat) (As : List Value) : Array Value → State → Prop := va_Pc As (fun U => U.heap.size = sz ∧ va_P D vwCl w0 U.heap ∧ KA D cA U ∧ va_D (fun _ => True) w0)
/-- a write that answers r and leaves the world w u, post r u -/
def Wi (l : Launch) (D : va_G) (cA : ClassId) {S : Type} (w0 : va_W) (w : S → va_W) (y : MethodName) (ws : List Cond) (rm : Room) (As : List Value) (post : Int32 → S → Prop) : Prop :=
  ∀ sz : Nat, Met l y ws rm (WP D cA w0 sz As) (va_Qi post (WB D cA w (va_A w0 sz)) (va_A w0 sz)) 0 0 (va_A w0 sz)
def Wv (l : Launch) (D : va_G) (cA : ClassId) {S : Type} (w0 : va_W) (w : S → va_W) (y : MethodName) (ws : List Cond) (rm : Room) (As : List Value) (post : S → Prop) : Prop :=
  ∀ sz : Nat, Met l y ws rm (WP D cA w0 sz As) (va_Qv post (WB D cA w (va_A w0 sz)) (va_A w0 sz)) 0 0 (va_A w0 sz)
def eI : String := "java/lang/IndexOutOfBoundsException"
def eA : String := "java/lang/IllegalArgumentException"
def eS : String := "java/lang/IllegalStateException"
def iS (c : String) : MethodName := ⟨c, "<init>", "(Ljava/lang/String;)V"⟩
/-- what a throw needs of the start: two statics of Throwable, the three texts, what can be cast, what is declared -/
def ZU (U : State) : Prop := vx_Zq Bundle.tN "UNASSIGNED_STACK" Bundle.steD (fun q => U.heap.size ≤ q) U U.heap ∧ vx_Zq Bundle.tN "SUPPRESSED_SENTINEL" Bundle.listD (fun q => U.heap.size ≤ q) U U.heap ∧ (∃ a1 : Nat, vk_R RX0 149 "there is no such worker, site, shift or week" a1 U) ∧ (∃ a2 : Nat, vk_R RX0 156 "an argument is out of range" a2 U) ∧ (∃ a3 : Nat, vk_R RX0 161 "the shifts and holidays so far do not allow this" a3 U) ∧
  va_Nw (.castable eI eI) U ∧ va_Nw (.castable eA eA) U ∧ va_Nw (.castable eS eS) U ∧ va_Nw (.declares (iS "java/lang/RuntimeException")) U ∧ va_Nw (.declares (iS "java/lang/Exception")) U ∧ va_Nw (.declares (iS "java/lang/Throwable")) U
/-- thrown: an E, and what was there stays -/
def xSame (E : String) : String → State → State → Prop := fun E' st t => E' = E ∧ st.heap.size + 1 ≤ t.heap.size ∧ ∀ q : Nat, q < st.heap.size → t.heap[q]? = st.heap[q]?
def noQ : Array Value → State → Outcome → State → Prop := fun _ _ _ _ => False
/-- it throws an E -/
def Bx (l : Launch) (D : va_G) (cA : ClassId) (w : va_W) (y : MethodName) (ws : List Cond) (rm : Room) (As : List Value) (E : String) : Prop :=
  ∀ sz : Nat, vx_Met l y ws rm (va_Pc As (fun U => U.heap.size = sz ∧ va_P D vwCl w U.heap ∧ KA D cA U ∧ ZU U)) noQ (xSame E) 1 6 (fun q => sz ≤ q)
theorem ZU.moved {u U : State} (hh : U.heap = u.heap) (hvm : u.vm.Alike U.vm) (hR : ∀ (k : Nat) (tx : String) (a : Nat), vk_R RX0 k tx a u → vk_R RX0 k tx a U) (hC : ∀ c t : String, va_Nw (.castable c t) u → va_Nw (.castable c t) U) (hd : ∀ x : MethodName, va_Nw (.declares x) u → va_Nw (.declares x) U) (h : ZU u) : ZU U := by
  obtain ⟨h1, h2, ⟨a1, h3⟩, ⟨a2, h4⟩, ⟨a3, h5⟩, h6, h7, h8, h9, h10, h11⟩ := h
  refine ⟨?_, ?_, ⟨a1, hR _ _ _ h3⟩, ⟨a2, hR _ _ _ h4⟩, ⟨a3, hR _ _ _ h5⟩, hC _ _ h6, hC _ _ h7, hC _ _ h8, hd _ h9, hd _ h10, hd _ h11⟩
  · rw [hh]; exact vx_Zq.moved hvm h1
  · rw [hh]; exact vx_Zq.moved hvm h2
theorem ZU.same {u U : State} (hh : U.heap = u.heap) (hvm : u.vm = U.vm) (h : ZU u) : ZU U :=
  ZU.moved hh (by rw [hvm]; exact Vm.Alike.refl U.vm) (fun k tx a h9 => vk_R.same hvm.symm h9) (fun c t h9 => va_Nw.same rfl hvm h9) (fun x h9 => va_Nw.same rfl hvm h9) h
theorem ZU.warm {s U : State} (hh : U.heap = s.heap) (hW : s.WarmedH U.vm) (h : ZU s) : ZU U :=
  ZU.moved hh hW.alike (fun k tx a h9 => vk_R.warm hW h9) (fun c t h9 => va_Nw.warmC hW h9) (fun x h9 => va_Nw.warmD hW h9) h
section ENTRY
variable {l : Launch} {D : va_G} {cA : ClassId} {y : MethodName} {ws ws' : List Cond} {rm : Room} {As : List Value} {cc : ByteArray} {maxL : Nat}
theorem Rd.of {w : va_W} {v : Int32} (hy : plainName y.cls = true) (hw : ws = Cond.code y cc maxL (some .int) :: ws') (hn : (lg_sl As).length ≤ maxL)
    (body : ∀ (p : Program) (e : Env) (s : State) (m : MethodId) (args : Array Value) (below : List Frame) (meth : Method) (c : Code) (ls : Array Slot) (Q : State → Prop), p.tables.exec = Jvm.exec → c.code = cc → (∀ w ∈ ws, w.before args s = true) → s.vm.findClass y.cls = some m.cls → c.maxLocals = maxL → KA D cA s → va_P D vwCl w s.heap → lv_has ls maxL (lv_args 0 As) → (∀ (pc : Nat) (ls : Array Slot) (v' : Int32), decode cc pc = .ok (.ireturn, 1) → v' = v → W p l e rm s m args below meth c s.heap [] 0 0 Q (F0 m pc ls [.int v'])) →
      W p l e rm s m args below meth c s.heap [] 0 0 Q (F0 m 0 ls [])) : Rd l D cA w y ws rm As v := by
  refine Met.ofW (cc := cc) (maxL := maxL) (ret := (some .int)) hy hw ?_
  intro p e s m args below meth c s₁ B hml hv
  obtain ⟨rfl, hP, hK⟩ := hv
  rw [lg_entry_eq]
  exact body p e s m _ below meth c _ _ B.exec B.bytes (atoms_spec (ws := ws) B.pre) (findClass_of_methodNamed B.named) hml hK hP (lv_entry As (n := maxL) hn)
    (fun pc ls v' hd hv' => by subst hv'; exact W.iret (v := v') B.exec B.bytes B.returns (fun t ht hW => ⟨v', rfl, rfl, ht⟩) (fun _ h => nomatch h) hd B.notSynchronized)
theorem Rd.ofz {w : va_W} {v : Int32} (hy : plainName y.cls = true) (hw : ws = Cond.code y cc maxL (some .boolean) :: ws') (hn : (lg_sl As).length ≤ maxL)
    (body : ∀ (p : Program) (e : Env) (s : State) (m : MethodId) (args : Array Value) (below : List Frame) (meth : Method) (c : Code) (ls : Array Slot) (Q : State → Prop), p.tables.exec = Jvm.exec → c.code = cc → (∀ w ∈ ws, w.before args s = true) → s.vm.findClass y.cls = some m.cls → c.maxLocals = maxL → KA D cA s → va_P D vwCl w s.heap → lv_has ls maxL (lv_args 0 As) → (∀ (pc : Nat) (ls : Array Slot) (v' : Int32), decode cc pc = .ok (.ireturn, 1) → v' = v → (v' = 0 ∨ v' = 1) → W p l e rm s m args below meth c s.heap [] 0 0 Q (F0 m pc ls [.int v'])) →
      W p l e rm s m args below meth c s.heap [] 0 0 Q (F0 m 0 ls [])) : Rd l D cA w y ws rm As v := by
  refine Met.ofW (cc := cc) (maxL := maxL) (ret := (some .boolean)) hy hw ?_
  intro p e s m args below meth c s₁ B hml hv
  obtain ⟨rfl, hP, hK⟩ := hv
  rw [lg_entry_eq]
  exact body p e s m _ below meth c _ _ B.exec B.bytes (atoms_spec (ws := ws) B.pre) (findClass_of_methodNamed B.named) hml hK hP (lv_entry As (n := maxL) hn)
    (fun pc ls v' hd hv' hz => by subst hv'; exact W.zret (v := v') B.exec B.bytes B.returns (by rcases hz with h | h <;> subst h <;> rfl) (fun t ht hW => ⟨v', rfl, rfl, ht⟩) (fun _ h => nomatch h) hd B.notSynchronized)
theorem Ru.of {w : va_W} (hy : plainName y.cls = true) (hw : ws = Cond.code y cc maxL none :: ws') (hn : (lg_sl As).length ≤ maxL)
    (body : ∀ (p : Program) (e : Env) (s : State) (m : MethodId) (args : Array Value) (below : List Frame) (meth : Method) (c : Code) (ls : Array Slot) (Q : State → Prop), p.tables.exec = Jvm.exec → c.code = cc → (∀ w ∈ ws, w.before args s = true) → s.vm.findClass y.cls = some m.cls → c.maxLocals = maxL → KA D cA s → va_P D vwCl w s.heap → lv_has ls maxL (lv_args 0 As) → (∀ (pc : Nat) (ls : Array Slot), decode cc pc = .ok (.return_, 1) → W p l e rm s m args below meth c s.heap [] 0 0 Q (F0 m pc ls [])) →
      W p l e rm s m args below meth c s.heap [] 0 0 Q (F0 m 0 ls [])) : Ru l D cA w y ws rm As := by
  refine Met.ofW (cc := cc) (maxL := maxL) (ret := none) hy hw ?_
  intro p e s m args below meth c s₁ B hml hv
  obtain ⟨rfl, hP, hK⟩ := hv
  rw [lg_entry_eq]
  exact body p e s m _ below meth c _ _ B.exec B.bytes (atoms_spec (ws := ws) B.pre) (findClass_of_methodNamed B.named) hml hK hP (lv_entry As (n := maxL) hn)
    (fun pc ls hd => W.vret B.exec B.bytes B.returns (fun t ht hW => ⟨rfl, trivial, ht⟩) (fun _ h => nomatch h) hd B.notSynchronized)
theorem Wi.of {S : Type} {w0 : va_W} {w : S → va_W} {post : Int32 → S → Prop} (hy : plainName y.cls = true) (hw : ws = Cond.code y cc maxL (some .int) :: ws') (hn : (lg_sl As).length ≤ maxL)
    (body : ∀ (p : Program) (e : Env) (s : State) (m : MethodId) (args : Array Value) (below : List Frame) (meth : Method) (c : Code) (ls : Array Slot) (A : Nat → Prop) (Q : State → Prop), p.tables.exec = Jvm.exec → c.code = cc → (∀ w ∈ ws, w.before args s = true) → s.vm.findClass y.cls = some m.cls → c.maxLocals = maxL → KA D cA s → va_P D vwCl w0 s.heap → va_D A w0 → (∀ q : Nat, s.heap.size ≤ q → A q) → va_S A s.heap s.heap [] → lv_has ls maxL (lv_args 0 As) → (∀ (pc : Nat) (ls : Array Slot) (v : Int32) (u : S) (H : Heap) (locs : List Loc), decode cc pc = .ok (.ireturn, 1) → va_P D vwCl (w u) H → va_D A (w u) → va_S A s.heap H locs → post v u → W p l e rm s m args below meth c H locs 0 0 Q (F0 m pc ls [.int v])) →
      W p l e rm s m args below meth c s.heap [] 0 0 Q (F0 m 0 ls [])) : Wi l D cA w0 w y ws rm As post := by
  intro sz
  refine Met.ofW (cc := cc) (maxL := maxL) (ret := (some .int)) hy hw ?_
  intro p e s m args below meth c s₁ B hml hv
  obtain ⟨rfl, hsz, hP, hK, hD⟩ := hv
  subst hsz
  rw [lg_entry_eq]
  exact body p e s m _ below meth c _ _ _ B.exec B.bytes (atoms_spec (ws := ws) B.pre) (findClass_of_methodNamed B.named) hml hK hP hD.self (fun q h => Or.inr h) va_S.rf (lv_entry As (n := maxL) hn)
    (fun pc ls v u H locs hd hP hD hS hpost => W.iret (v := v) B.exec B.bytes B.returns (fun t ht hW => ⟨⟨v, u, rfl, hpost, by rw [ht]; exact hP, va_K.moved hW.alike hK, hD⟩, hS.F ht⟩) hS.2.2 hd B.notSynchronized)
theorem Wi.ofz {S : Type} {w0 : va_W} {w : S → va_W} {post : Int32 → S → Prop} (hy : plainName y.cls = true) (hw : ws = Cond.code y cc maxL (some .boolean) :: ws') (hn : (lg_sl As).length ≤ maxL)
    (body : ∀ (p : Program) (e : Env) (s : State) (m : MethodId) (args : Array Value) (below : List Frame) (meth : Method) (c : Code) (ls : Array Slot) (A : Nat → Prop) (Q : State → Prop), p.tables.exec = Jvm.exec → c.code = cc → (∀ w ∈ ws, w.before args s = true) → s.vm.findClass y.cls = some m.cls → c.maxLocals = maxL → KA D cA s → va_P D vwCl w0 s.heap → va_D A w0 → (∀ q : Nat, s.heap.size ≤ q → A q) → va_S A s.heap s.heap [] → lv_has ls maxL (lv_args 0 As) → (∀ (pc : Nat) (ls : Array Slot) (v : Int32) (u : S) (H : Heap) (locs : List Loc), decode cc pc = .ok (.ireturn, 1) → va_P D vwCl (w u) H → va_D A (w u) → va_S A s.heap H locs → post v u → (v = 0 ∨ v = 1) → W p l e rm s m args below meth c H locs 0 0 Q (F0 m pc ls [.int v])) →
      W p l e rm s m args below meth c s.heap [] 0 0 Q (F0 m 0 ls [])) : Wi l D cA w0 w y ws rm As post := by
  intro sz
  refine Met.ofW (cc := cc) (maxL := maxL) (ret := (some .boolean)) hy hw ?_
  intro p e s m args below meth c s₁ B hml hv
  obtain ⟨rfl, hsz, hP, hK, hD⟩ := hv
  subst hsz
  rw [lg_entry_eq]
  exact body p e s m _ below meth c _ _ _ B.exec B.bytes (atoms_spec (ws := ws) B.pre) (findClass_of_methodNamed B.named) hml hK hP hD.self (fun q h => Or.inr h) va_S.rf (lv_entry As (n := maxL) hn)
    (fun pc ls v u H locs hd hP hD hS hpost hz => W.zret (v := v) B.exec B.bytes B.returns (by rcases hz with h | h <;> subst h <;> rfl) (fun t ht hW => ⟨⟨v, u, rfl, hpost, by rw [ht]; exact hP, va_K.moved hW.alike hK, hD⟩, hS.F ht⟩) hS.2.2 hd B.notSynchronized)
theorem Wv.of {S : Type} {w0 : va_W} {w : S → va_W} {post : S → Prop} (hy : plainName y.cls = true) (hw : ws = Cond.code y cc maxL none :: ws') (hn : (lg_sl As).length ≤ maxL)
    (body : ∀ (p : Program) (e : Env) (s : State) (m : MethodId) (args : Array Value) (below : List Frame) (meth : Method) (c : Code) (ls : Array Slot) (A : Nat → Prop) (Q : State → Prop), p.tables.exec = Jvm.exec → c.code = cc → (∀ w ∈ ws, w.before args s = true) → s.vm.findClass y.cls = some m.cls → c.maxLocals = maxL → KA D cA s → va_P D vwCl w0 s.heap → va_D A w0 → (∀ q : Nat, s.heap.size ≤ q → A q) → va_S A s.heap s.heap [] → lv_has ls maxL (lv_args 0 As) → (∀ (pc : Nat) (ls : Array Slot) (u : S) (H : Heap) (locs : List Loc), decode cc pc = .ok (.return_, 1) → va_P D vwCl (w u) H → va_D A (w u) → va_S A s.heap H locs → post u → W p l e rm s m args below meth c H locs 0 0 Q (F0 m pc ls [])) →
      W p l e rm s m args below meth c s.heap [] 0 0 Q (F0 m 0 ls [])) : Wv l D cA w0 w y ws rm As post := by
  intro sz
  refine Met.ofW (cc := cc) (maxL := maxL) (ret := none) hy hw ?_
  intro p e s m args below meth c s₁ B hml hv
  obtain ⟨rfl, hsz, hP, hK, hD⟩ := hv
  subst hsz
  rw [lg_entry_eq]
  exact body p e s m _ below meth c _ _ _ B.exec B.bytes (atoms_spec (ws := ws) B.pre) (findClass_of_methodNamed B.named) hml hK hP hD.self (fun q h => Or.inr h) va_S.rf (lv_entry As (n := maxL) hn)
    (fun pc ls u H locs hd hP hD hS hpost => W.vret B.exec B.bytes B.returns (fun t ht hW => ⟨⟨u, rfl, hpost, by rw [ht]; exact hP, va_K.moved hW.alike hK, hD⟩, hS.F ht⟩) hS.2.2 hd B.notSynchronized)
theorem Bx.of {w : va_W} {E : String} {ret : Option FieldType} (hy : plainName y.cls = true) (hw : ws = Cond.code y cc maxL ret :: ws') (hn : (lg_sl As).length ≤ maxL)
    (body : ∀ (p : Program) (e : Env) (s : State) (m : MethodId) (args : Array Value) (below : List Frame) (meth : Method) (c : Code) (ls : Array Slot), p.tables.exec = Jvm.exec → c.code = cc → (∀ w ∈ ws, w.before args s = true) → s.vm.findClass y.cls = some m.cls → c.maxLocals = maxL → KA D cA s → va_P D vwCl w s.heap → lv_has ls maxL (lv_args 0 As) → (∀ x ∈ c.exceptionTable.toList, False) → meth.locks = false → ZU s →
      W p l e rm s m args below meth c s.heap [] 0 0 (vx_MQ below noQ (xSame E) args s 1 6 (fun q => s.heap.size ≤ q)) (F0 m 0 ls [])) : Bx l D cA w y ws rm As E := by
  intro sz
  refine vx_ofW (cc := cc) (maxL := maxL) (ret := ret) hy hw ?_
  intro p e s m args below meth c s₁ B hml htab hv
  obtain ⟨rfl, hsz, hP, hK, hZ⟩ := hv
  subst hsz
  rw [lg_entry_eq]
  exact body p e s m _ below meth c _ B.exec B.bytes (atoms_spec (ws := ws) B.pre) (findClass_of_methodNamed B.named) hml hK hP (lv_entry As (n := maxL) hn) htab B.notSynchronized hZ
end ENTRY
section ROWS
variable {p : Program} {l : Launch} {e : Env} {R : Room} {s : State} {m : MethodId} {args : Array Value} {below : List Frame} {meth : Method} {c : Code} {H : Heap} {locs : List Loc} {cells slots : Nat} {Q : State → Prop}
variable {cc : ByteArray} {pc : Nat} {ls : Array Slot} {rest st0 : List Value} {D : va_G} {cA : ClassId} {A0 : Nat → Prop} {H0 : Heap}
variable {nL maxL n index : Nat} {Ts ws : List Cond} {own C : String} {y : MethodName} {bytes : ByteArray} {ret : Option FieldType} {rm : Room} {w : va_W} {As : List Value} {v : Int32} {b q0 ci : Nat} {fs : List Value} {q : vw_C}
theorem PreRd (hK : KA D cA s) (hP : va_P D vwCl w H) : PreS s H (va_Pc As (fun U => va_P D vwCl w U.heap ∧ KA D cA U)) As :=
  ⟨fun a U g mk z => by obtain ⟨z0, zP, zK⟩ := z; exact ⟨z0, zP, va_K.moved (u := U) (U := U.calling g mk a) (Vm.Alike.refl U.vm) zK⟩, fun U hU hW => ⟨rfl, by rw [hU]; exact hP, va_K.moved hW.alike hK⟩⟩
theorem Rd.callS (S : CallFix p m c cc nL s args Ts own) (hM : Rd l D cA w y ws rm As v) (cw : CallB R s args own index y bytes maxL ret ws rm 0 0 n ∧ (Cond.static y).before args s = true) (hK : KA D cA s) (hP : va_P D vwCl w H) (hst : st0 = As.reverse ++ rest) (hn : As.length = n) (hls : ls.size = nL) (hrm : (rest.map fun v => v.category).sum ≤ 8) (hdg : decode cc pc = .ok (.invokestatic index, 3)) (hf : cells ≤ R.cells ∧ slots ≤ R.slots)
    (kk : W p l e R s m args below meth c H locs cells slots Q (F0 m (pc + 3) ls (.int v :: rest))) : W p l e R s m args below meth c H locs cells slots Q (F0 m pc ls st0) :=
  vp_callSi (W.runS S hM cw (PreRd hK hP) rfl hn hls hst (lv_room hrm) hdg ⟨hf.1, hf.2⟩) (fun r hr => by subst hr; exact kk)
theorem Ru.callS (S : CallFix p m c cc nL s args Ts own) (hM : Ru l D cA w y ws rm As) (cw : CallB R s args own index y bytes maxL ret ws rm 0 0 n ∧ (Cond.static y).before args s = true) (hK : KA D cA s) (hP : va_P D vwCl w H) (hst : st0 = As.reverse ++ rest) (hn : As.length = n) (hls : ls.size = nL) (hrm : (rest.map fun v => v.category).sum ≤ 8) (hdg : decode cc pc = .ok (.invokestatic index, 3)) (hf : cells ≤ R.cells ∧ slots ≤ R.slots)
    (kk : W p l e R s m args below meth c H locs cells slots Q (F0 m (pc + 3) ls rest)) : W p l e R s m args below meth c H locs cells slots Q (F0 m pc ls st0) :=
  va_csv (W.runS S hM cw (PreRd hK hP) rfl hn hls hst (lv_room hrm) hdg ⟨hf.1, hf.2⟩) (fun _ => kk)
theorem Rd.callV (S : CallFix p m c cc nL s args Ts own) (hM : Rd l D cA w y ws rm (.ref b :: As) v) (cw : CallW R s args own C index y bytes maxL ret ws rm 0 0 n) (hK : KA D cA s) (hP : va_P D vwCl w H) (he : w[q0]? = some (b, .inr (ci, fs))) (hc : vwCl[ci]? = some q) (hC : q.1 = C) (hst : st0 = As.reverse ++ .ref b :: rest) (hn : As.length = n) (hls : ls.size = nL) (hrm : (rest.map fun v => v.category).sum ≤ 8) (hdg : decode cc pc = .ok (.invokevirtual index, 3)) (hf : cells ≤ R.cells ∧ slots ≤ R.slots)
    (kk : W p l e R s m args below meth c H locs cells slots Q (F0 m (pc + 3) ls (.int v :: rest))) : W p l e R s m args below meth c H locs cells slots Q (F0 m pc ls st0) := by
  subst hC
  exact vp_callSi (W.runV S hM cw ⟨(PreRd (As := .ref b :: As) hK hP).1, va_recv hK hP hc he, (PreRd (As := .ref b :: As) hK hP).2⟩ rfl hn hls hst (lv_room hrm) hdg ⟨hf.1, hf.2⟩) (fun r hr => by subst hr; exact kk)
theorem PreWr {wc w0 : va_W} (isC : List Nat) (hC : isC.map (fun i => wc[i]?) = w0.map some) (hnd : va_nd isC = true) (hK : KA D cA s) (hP : va_P D vwCl wc H) (hD : va_D A0 wc) : PreS s H (WP D cA w0 H.size As) As := by
  have hD' : va_D (fun _ => True) w0 := (hD.sub isC hnd hC).weaken (fun _ _ _ _ => trivial)
  have hP' : va_P D vwCl w0 H := by
    intro k z hk
    have h1 : (isC.map (fun i => wc[i]?))[k]? = some (some z) := by rw [hC, List.getElem?_map, hk]; rfl
    rw [List.getElem?_map] at h1
    cases hi : isC[k]? with
    | none => rw [hi] at h1; cases h1
    | some i => rw [hi] at h1; exact hP i z (Option.some.inj h1)
  exact ⟨fun a U g mk z => by obtain ⟨z0, z1, zP, zK, zD⟩ := z; exact ⟨z0, z1, zP, va_K.moved (u := U) (U := U.calling g mk a) (Vm.Alike.refl U.vm) zK, zD⟩, fun U hU hW => ⟨rfl, by rw [hU], by rw [hU]; exact hP', va_K.moved hW.alike hK, hD'⟩⟩
theorem Wi.callV {S9 : Type} {wc wr w0 : va_W} {ww : S9 → va_W} {post : Int32 → S9 → Prop} (isC isR : List Nat) (S : CallFix p m c cc nL s args Ts own) (hM : Wi l D cA w0 ww y ws rm (.ref b :: As) post) (cw : CallW R s args own C index y bytes maxL ret ws rm 0 0 n) (hK : KA D cA s) (hP : va_P D vwCl wc H) (hD : va_D A0 wc) (hS : va_S A0 H0 H locs) (hA : ∀ q : Nat, H0.size ≤ q → A0 q)
    (hC : isC.map (fun i => wc[i]?) = w0.map some) (hR : isR.map (fun i => wc[i]?) = wr.map some) (hnC : va_nd isC = true) (hnR : va_nd isR = true) (hdis : ∀ i ∈ isR, i ∉ isC)
    (he : wc[q0]? = some (b, .inr (ci, fs))) (hc : vwCl[ci]? = some q) (hC9 : q.1 = C) (hst : st0 = As.reverse ++ .ref b :: rest) (hn : As.length = n) (hls : ls.size = nL) (hrm : (rest.map fun v => v.category).sum ≤ 8) (hdg : decode cc pc = .ok (.invokevirtual index, 3)) (hf : cells ≤ R.cells ∧ slots ≤ R.slots)
    (kk : ∀ (r : Int32) (u : S9) (H1 : Heap) (locs1 : List Loc), post r u → va_P D vwCl (wr ++ ww u) H1 → va_D A0 (wr ++ ww u) → va_S A0 H0 H1 locs1 → W p l e R s m args below meth c H1 locs1 cells slots Q (F0 m (pc + 3) ls (.int r :: rest))) : W p l e R s m args below meth c H locs cells slots Q (F0 m pc ls st0) := by
  subst hC9
  have hF := va_free hD hS hA isC hC
  have hpre := PreWr (As := .ref b :: As) isC hC hnC hK hP hD
  refine va_calli (va_runV S (hM H.size) cw ⟨hpre.1, va_recv hK hP hc he, hpre.2⟩ rfl hn hls hst (lv_room hrm) hdg ⟨hf.1, hf.2⟩) hS (fun q _ h => hF q h) hF (fun r u t H1 locs1 ht hvm hw hB hz1 hk1 hS1 => ?_)
  obtain ⟨hP1, hK1, hD1⟩ := hB
  rw [ht] at hP1
  obtain ⟨hP2, hD2⟩ := va_join hP hD isC isR hC hR hnR hdis hk1 hF hP1 hD1
  exact kk r u H1 locs1 hw hP2 hD2 hS1
theorem Wv.callV {S9 : Type} {wc wr w0 : va_W} {ww : S9 → va_W} {post : S9 → Prop} (isC isR : List Nat) (S : CallFix p m c cc nL s args Ts own) (hM : Wv l D cA w0 ww y ws rm (.ref b :: As) post) (cw : CallW R s args own C index y bytes maxL ret ws rm 0 0 n) (hK : KA D cA s) (hP : va_P D vwCl wc H) (hD : va_D A0 wc) (hS : va_S A0 H0 H locs) (hA : ∀ q : Nat, H0.size ≤ q → A0 q)
    (hC : isC.map (fun i => wc[i]?) = w0.map some) (hR : isR.map (fun i => wc[i]?) = wr.map some) (hnC : va_nd isC = true) (hnR : va_nd isR = true) (hdis : ∀ i ∈ isR, i ∉ isC)
    (he : wc[q0]? = some (b, .inr (ci, fs))) (hc : vwCl[ci]? = some q) (hC9 : q.1 = C) (hst : st0 = As.reverse ++ .ref b :: rest) (hn : As.length = n) (hls : ls.size = nL) (hrm : (rest.map fun v => v.category).sum ≤ 8) (hdg : decode cc pc = .ok (.invokevirtual index, 3)) (hf : cells ≤ R.cells ∧ slots ≤ R.slots)
    (kk : ∀ (u : S9) (H1 : Heap) (locs1 : List Loc), post u → va_P D vwCl (wr ++ ww u) H1 → va_D A0 (wr ++ ww u) → va_S A0 H0 H1 locs1 → W p l e R s m args below meth c H1 locs1 cells slots Q (F0 m (pc + 3) ls rest)) : W p l e R s m args below meth c H locs cells slots Q (F0 m pc ls st0) := by
  subst hC9
  have hF := va_free hD hS hA isC hC
  have hpre := PreWr (As := .ref b :: As) isC hC hnC hK hP hD
  refine va_callv (va_runV S (hM H.size) cw ⟨hpre.1, va_recv hK hP hc he, hpre.2⟩ rfl hn hls hst (lv_room hrm) hdg ⟨hf.1, hf.2⟩) hS (fun q _ h => hF q h) hF (fun u t H1 locs1 ht hvm hw hB hz1 hk1 hS1 => ?_)
  obtain ⟨hP1, hK1, hD1⟩ := hB
  rw [ht] at hP1
  obtain ⟨hP2, hD2⟩ := va_join hP hD isC isR hC hR hnR hdis hk1 hF hP1 hD1
  exact kk u H1 locs1 hw hP2 hD2 hS1
theorem Wv.callS {S9 : Type} {wc wr w0 : va_W} {ww : S9 → va_W} {post : S9 → Prop} (isC isR : List Nat) (S : CallFix p m c cc nL s args Ts own) (hM : Wv l D cA w0 ww y ws rm As post) (cw : CallB R s args own index y bytes maxL ret ws rm 0 0 n ∧ (Cond.static y).before args s = true) (hK : KA D cA s) (hP : va_P D vwCl wc H) (hD : va_D A0 wc) (hS : va_S A0 H0 H locs) (hA : ∀ q : Nat, H0.size ≤ q → A0 q)
    (hC : isC.map (fun i => wc[i]?) = w0.map some) (hR : isR.map (fun i => wc[i]?) = wr.map some) (hnC : va_nd isC = true) (hnR : va_nd isR = true) (hdis : ∀ i ∈ isR, i ∉ isC)
    (hst : st0 = As.reverse ++ rest) (hn : As.length = n) (hls : ls.size = nL) (hrm : (rest.map fun v => v.category).sum ≤ 8) (hdg : decode cc pc = .ok (.invokestatic index, 3)) (hf : cells ≤ R.cells ∧ slots ≤ R.slots)
    (kk : ∀ (u : S9) (H1 : Heap) (locs1 : List Loc), post u → va_P D vwCl (wr ++ ww u) H1 → va_D A0 (wr ++ ww u) → va_S A0 H0 H1 locs1 → W p l e R s m args below meth c H1 locs1 cells slots Q (F0 m (pc + 3) ls rest)) : W p l e R s m args below meth c H locs cells slots Q (F0 m pc ls st0) := by
  have hF := va_free hD hS hA isC hC
  have hpre := PreWr (As := As) isC hC hnC hK hP hD
  refine va_callv (va_runS S (hM H.size) cw hpre rfl hn hls hst (lv_room hrm) hdg ⟨hf.1, hf.2⟩) hS (fun q _ h => hF q h) hF (fun u t H1 locs1 ht hvm hw hB hz1 hk1 hS1 => ?_)
  obtain ⟨hP1, hK1, hD1⟩ := hB
  rw [ht] at hP1
  obtain ⟨hP2, hD2⟩ := va_join hP hD isC isR hC hR hnR hdis hk1 hF hP1 hD1
  exact kk u H1 locs1 hw hP2 hD2 hS1
/-- a callee that throws E, in a method that has written nothing: it throws E too -/
theorem PreBx {sz : Nat} (hsz : s.heap.size = sz) (hK : KA D cA s) (hP : va_P D vwCl w s.heap) (hZ : ZU s) : PreS s s.heap (va_Pc As (fun U => U.heap.size = sz ∧ va_P D vwCl w U.heap ∧ KA D cA U ∧ ZU U)) As :=
  ⟨fun a U g mk z => by obtain ⟨z0, z1, zP, zK, zZ⟩ := z; exact ⟨z0, z1, zP, va_K.moved (u := U) (U := U.calling g mk a) (Vm.Alike.refl U.vm) zK, ZU.same (u := U) (U := U.calling g mk a) rfl rfl zZ⟩,
    fun U hU hW => ⟨rfl, by rw [hU]; exact hsz, by rw [hU]; exact hP, va_K.moved hW.alike hK, ZU.warm hU hW hZ⟩⟩
theorem Bx.out {E : String} {XQ : State → Outcome → State → Prop} (htab : ∀ x ∈ c.exceptionTable.toList, False) (hlocks : meth.locks = false)
    (hr : vx_Run p l e R s m args below meth c s.heap [] 0 0 1 6 (F0 m pc ls st0) rest XQ (xSame E) (fun q => s.heap.size ≤ q)) (hXQ : ∀ a o t, ¬ XQ a o t) : W p l e R s m args below meth c s.heap [] 0 0 (vx_MQ below noQ (xSame E) args s 1 6 (fun q => s.heap.size ≤ q)) (F0 m pc ls st0) := by
  intro T hT X
  rcases hr T hT X with ⟨v, st₀, t, T', L, h0, X', hL, e1, e2, hq, st⟩ | ⟨q, st₀, t, T', L, E', ce, h0, X', hL, e1, e2, ⟨rfl, hz, hk⟩, hce, hcv, hcl, st⟩
  · exact absurd hq (hXQ _ _ _)
  · rw [h0] at hz hk
    obtain ⟨t2, a1, b1⟩ := vx_out (rest := rest) (pc := pc) (ls := ls) (below := below) (Qc := noQ) (XC := xSame E') (free := fun q => s.heap.size ≤ q) (mc := 1) (ms := 6) (fun x hx => (htab x hx).elim) hlocks (by rw [e1]; exact hce) hcv hcl
      (fun t9 ht9 hvm9 => ⟨rfl, by rw [ht9, e1]; exact hz, fun q9 hq9 => by rw [ht9, e1]; exact hk q9 hq9⟩) (fun z hz9 => by
        rcases List.mem_append.mp hz9 with h | h
        · cases h
        · exact hL z h) (Nat.le_refl _) (Nat.le_refl _) T' rfl X'
    exact ⟨t2, st.trans a1, b1⟩
theorem Bx.thruS {E : String} (S : CallFix p m c cc nL s args Ts own) (htab : ∀ x ∈ c.exceptionTable.toList, False) (hlocks : meth.locks = false) (hM : Bx l D cA w y ws rm As E) (cw : CallB R s args own index y bytes maxL ret ws rm 1 6 n ∧ (Cond.static y).before args s = true) (hK : KA D cA s) (hP : va_P D vwCl w s.heap) (hZ : ZU s) (hst : st0 = As.reverse ++ rest) (hn : As.length = n) (hls : ls.size = nL) (hrm : (rest.map fun v => v.category).sum ≤ 8) (hdg : decode cc pc = .ok (.invokestatic index, 3)) (hf : 1 ≤ R.cells ∧ 6 ≤ R.slots) :
    W p l e R s m args below meth c s.heap [] 0 0 (vx_MQ below noQ (xSame E) args s 1 6 (fun q => s.heap.size ≤ q)) (F0 m pc ls st0) :=
  Bx.out htab hlocks (vx_runS S (hM s.heap.size) cw (PreBx rfl hK hP hZ) rfl hn hls hst (lv_room hrm) hdg ⟨by rw [Nat.zero_add]; exact hf.1, by rw [Nat.zero_add]; exact hf.2⟩) (fun _ _ _ h => h)
end ROWS

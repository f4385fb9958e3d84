/-! ===== BEGIN words of one list among another's, by their places ===== -/
theorem goodIn_r {big : List Cond} (ws : List Cond) (ps : List Nat) (hp : ws = ps.filterMap (fun i => big[i]?)) (h : ws.all goodWord = true) : GoodIn big ws := by
  intro w hw
  have h1 := List.all_eq_true.mp h w hw
  rw [hp] at hw
  obtain ⟨i, -, hi⟩ := List.mem_filterMap.mp hw
  have hm : w ∈ big := by first | exact List.mem_of_getElem? hi | exact List.getElem?_mem hi
  exact ⟨hm, good_of_word h1⟩
theorem goodIn_app {big a b : List Cond} (ha : GoodIn big a) (hb : GoodIn big b) : GoodIn big (a ++ b) := fun w h => (List.mem_append.mp h).elim (ha w) (hb w)
theorem goodIn_ca {big a b : List Cond} {c : Cond} (ha : GoodIn big (c :: a)) (hb : GoodIn big b) : GoodIn big (c :: (a ++ b)) := fun w h => (List.mem_cons.mp h).elim (fun e => ha w (List.mem_cons.mpr (Or.inl e))) (fun h => (List.mem_append.mp h).elim (fun h => ha w (List.mem_cons.mpr (Or.inr h))) (hb w))
theorem goodIn_sub {big ws : List Cond} (hm : ∀ w ∈ ws, w ∈ big) (h : ws.all goodWord = true) : GoodIn big ws := fun w hw => ⟨hm w hw, good_of_word (List.all_eq_true.mp h w hw)⟩
/-! ===== END ===== -/

/-! ===== BEGIN exceptions that leave a method, and their catching by the caller (launches without stack traces) ===== -/
section VXA
/-! The laws vx_back, vx_callV, vx_callS, vx_callSW, vx_throw0, vx_throwS follow proofs of the library, with one case more: JvmDerived/Free/Laws.lean (Back.of_free), Shelf42/LK1.lean (callV, callS), Shelf/KitTraced.lean (throwNew0V, throwNewS). -/
/-- where a method has thrown q: the class by its name, the cell, what was written, the world -/
def vx_T (XC : String → State → State → Prop) (st : State) (q : Addr) (t : State) (mc ms : Nat) (free : Addr → Prop) : Prop :=
  ∃ (E : String) (ce : Cell) (L : List Loc), XC E st t ∧ t.heap[q]? = some ce ∧ ce.vm = .none ∧ st.vm.findClass E = some ce.cls ∧ st.WarmedH t.vm ∧ st.sameButNew ({ t with vm := st.vm } : State) L mc ms ∧ ∀ z ∈ L, free z.base
def vx_Q (Qc : Array Value → State → Outcome → State → Prop) (XC : String → State → State → Prop) (mc ms : Nat) (free : Addr → Prop) : Array Value → State → Outcome → State → Prop := fun a st o t =>
  (Qc a st o t ∧ ∃ L, FrameEnd st o t L mc ms ∧ ∀ q ∈ L, free q.base) ∨ ∃ q, o = .threw q ∧ vx_T XC st q t mc ms free
/-- a callee that returns or throws -/
def vx_Met (l : Launch) (y : MethodName) (ws : List Cond) (rm : Room) (Pc : Array Value → State → Prop) (Qc : Array Value → State → Outcome → State → Prop) (XC : String → State → State → Prop) (mc ms : Nat) (free : Addr → Prop) : Prop :=
  MetFree l y (headSpec ws rm) Pc (fun _ _ _ _ _ => True) (vx_Q Qc XC mc ms free)
def vx_Post (XC : String → State → State → Prop) (mc ms : Nat) (free : Addr → Prop) : Pt → Array Value → Addr → Pt → Prop := fun A a q B =>
  ∃ (g : JFrame) (mk : MethodId) (t : State) (L : List Loc) (E : String) (ce : Cell), B.U.heap = t.heap ∧ B.U.vm = t.vm ∧ XC E (A.U.calling g mk a) t ∧ t.heap[q]? = some ce ∧ ce.vm = .none ∧ A.U.vm.findClass E = some ce.cls ∧ B.locs = A.locs ++ L ∧ (∀ z ∈ L, free z.base) ∧ B.cells = A.cells + mc ∧ B.slots = A.slots + ms
def vx_Back (l : Launch) (R : Room) (p : Program) (e : Env) (below : List Frame) (s : State) (sargs : Array Value) (y : MethodName) (len W9 : Nat)
    (Pre : Pt → Array Value → Prop) (Post : Pt → Array Value → Option Value → Pt → Prop) (PostX : Pt → Array Value → Addr → Pt → Prop) : Prop :=
  ∀ (m : MethodId) (meth : Method) (c : Code) (A : Pt) (g : JFrame) (ig : Instr) (mk : MethodId) (a : Array Value),
    Stand p l e R s m sargs below meth c A.U A.locs A.cells A.slots → g.method = m → g.locals.size = c.maxLocals → decode c.code g.pc = .ok (ig, len) →
    2 * g.monitorRoom + (g.stack.map fun v => v.category).sum ≤ W9 → A.U.methodNamed? y = some mk → Pre A a →
    (∃ (v : Option Value) (B : Pt), Stand p l e R s m sargs below meth c B.U B.locs B.cells B.slots ∧ Post A a v B ∧
      Steps p.tables e below (doInvoke e (A.U.setTop g) [] mk a).1 (B.U.setTop { g with pc := g.pc + len, stack := v.toList ++ g.stack })) ∨
    (∃ (q : Addr) (B : Pt), Stand p l e R s m sargs below meth c B.U B.locs B.cells B.slots ∧ PostX A a q B ∧
      Steps p.tables e below (doInvoke e (A.U.setTop g) [] mk a).1 ((B.U.setTop g).pushFrame (.throwing q)))
section Payer
variable {l : Launch} {R : Room} {p : Program} {e : Env} {below : List Frame} {s : State} {sargs : Array Value} {y : MethodName} {len W9 : Nat}
theorem vx_back {ws : List Cond} {rm : Room} {Pc : Array Value → State → Prop} {Qc : Array Value → State → Outcome → State → Prop} {XC : String → State → State → Prop} {mc ms : Nat} {free : Addr → Prop} {bytes : ByteArray} {maxL : Nat} {ret : Option FieldType}
    (hM : vx_Met l y ws rm Pc Qc XC mc ms free) (hblind : FrameBlind Pc) (hrc : rm.cells = mc) (hrs : rm.slots = ms)
    (hframes : rm.frames + 1 ≤ R.frames) (hlocals : W9 + (maxL + 11) + rm.locals ≤ R.locals)
    (hws : ∀ w ∈ ws, ∀ a' U, s.WarmedH U.vm → w.before a' U = true) (hcode : Cond.code y bytes maxL ret ∈ ws) (hinit : ∀ a' U, s.WarmedH U.vm → (Cond.initialized y.cls).before a' U = true) :
    vx_Back l R p e below s sargs y len W9 (PreOf R mc ms Pc) (PostOf Qc mc ms free) (vx_Post XC mc ms free) := by
  intro m meth c A g ig mk a X hg hsize hdg hW hn hp
  have h1 : (headSpec ws rm).pre.before a A.U = true := atoms_intro fun w hw => hws w hw _ _ X.warmed
  have h2 : (Cond.code y bytes maxL ret).before a A.U = true := hws _ hcode _ _ X.warmed
  have h3 : (Cond.initialized y.cls).before a A.U = true := hinit _ _ X.warmed
  have h4 : A.cells + (headSpec ws rm).room.cells ≤ R.cells := by rw [show (headSpec ws rm).room.cells = mc from hrc]; exact hp.1
  have h5 : A.slots + (headSpec ws rm).room.slots ≤ R.slots := by rw [show (headSpec ws rm).room.slots = ms from hrs]; exact hp.2.1
  have hPc : Pc a (A.U.calling g mk a) := hblind _ _ _ _ hp.2.2
  obtain ⟨U, Ls, c0, s0⟩ := A
  dsimp only [Pt.U, Pt.locs, Pt.cells, Pt.slots] at h1 h2 h3 h4 h5 X hn hPc ⊢
  obtain ⟨methY, cY, hmY, hcY, -, hlY, -, -, -, -⟩ := Cond.code_spec hn h2
  obtain ⟨kY, hkY, -⟩ := className_of_methodNamed hn
  have hinitY : kY.init = .initialized := Cond.initialized_spec (findClass_of_methodNamed hn) hkY h3
  have h : At U g.method c below := by rw [hg]; exact X.here
  have hlocals9 : W9 + (maxL + 11) + (headSpec ws rm).room.locals ≤ R.locals := hlocals
  have happ : (headSpec ws rm).appliesLoose y e.platform (U.calling g mk a) = true :=
    Spec.appliesLoose_calling (g := g) h hdg hn hkY hinitY
      (X.room_calling (g := g) (R' := (headSpec ws rm).room) hsize hmY hcY hframes (by rw [hlY]; omega) h4 h5) h1
  obtain ⟨mid, hmid⟩ := h.above
  have hfr : (U.setTop g).frames = (.java g :: mid) ++ below := by rw [State.frames_setTop' g h.top, hmid]; rfl
  obtain ⟨o, s₂, hsteps, -, hend, hq⟩ := Steps.callFree hM p X.admits X.cas X.clock (acts := []) hfr happ hPc trivial
  have hq' : vx_Q Qc XC mc ms free a (U.calling g mk a) o s₂ := hq
  rw [State.frames_setTop' g h.top] at hend
  obtain ⟨g₀, hg0⟩ := Option.isSome_iff_exists.mp h.top
  obtain ⟨r, hr⟩ := State.topJava?_eq_some.mp hg0
  have hr' : (({ U with heap := s₂.heap, slotsUsed := s₂.slotsUsed } : State).setVm s₂.vm).frames = .java g₀ :: r := hr
  rcases hq' with ⟨hqc, L, hfe, hL⟩ | ⟨q, rfl, E, ce, L, hx, hce, hcv, hcl, hW₂, hsm, hL⟩
  · obtain ⟨⟨v, rfl⟩, hW₂, e2, q2, q3, q4, q5, q6⟩ := id hfe
    have e3 : s₂ = ({ (U.calling g mk a).setFrames s₂.frames with heap := s₂.heap, slotsUsed := s₂.slotsUsed } : State).setVm s₂.vm := by
      have : s₂ = ({ s₂ with vm := (U.calling g mk a).vm } : State).setVm s₂.vm := rfl
      rw [e2] at this
      exact this
    obtain ⟨c₂, i₂, len₂, hc₂, hd₂, hf₂⟩ := hend
    have hW' : U.WarmedH s₂.vm := hW₂
    have hcc : c₂ = c := by
      have h1 : s₂.code? g.method = U.code? g.method := by
        rw [State.code?_eq, State.code?_eq, hW'.alike.method?]
      exact Option.some.inj (hc₂.symm.trans (h1.trans h.code))
    subst hcc
    have hlen : len₂ = len := by rw [hdg] at hd₂; cases hd₂; rfl
    subst hlen
    have hs₂ : s₂ = (({ U with heap := s₂.heap, slotsUsed := s₂.slotsUsed } : State).setVm s₂.vm).setTop { g with pc := g.pc + len₂, stack := v.toList ++ g.stack } := by
      refine e3.trans ?_
      rw [hf₂, State.calling_eq h.top, State.setFrames_setFrames, State.setTop_of_frames _ hr', hr]
      rfl
    have hsame : U.sameButNew ({ U with heap := s₂.heap, slotsUsed := s₂.slotsUsed } : State) L mc ms := by
      refine ⟨?_, q2, q3, q4, q5, q6⟩
      obtain ⟨t, ht, -⟩ := State.frames_cons hr
      show ({ U with heap := s₂.heap, slotsUsed := s₂.slotsUsed } : State) = { U.setFrames U.frames with heap := s₂.heap, slotsUsed := s₂.slotsUsed }
      rw [State.setFrames_self ht]
    subst hg
    refine Or.inl ⟨v, ⟨(({ U with heap := s₂.heap, slotsUsed := s₂.slotsUsed } : State).setVm s₂.vm), Ls ++ L, c0 + mc, s0 + ms⟩,
      ⟨X.admits, X.cas, X.clock, X.frames, X.room, X.hears, X.method, X.code, (X.here.setHeapUsed s₂.heap s₂.slotsUsed).setVm hW'.alike, X.tail, State.WarmedH.trans X.warmed hW', X.limits, X.bytes, X.same.trans (hsame.setVm s.vm)⟩,
      ⟨g, mk, s₂, L, rfl, rfl, hqc, rfl, hL, rfl, rfl⟩, ?_⟩
    show Steps p.tables e below _ ((({ U with heap := s₂.heap, slotsUsed := s₂.slotsUsed } : State).setVm s₂.vm).setTop { g with pc := g.pc + len₂, stack := v.toList ++ g.stack })
    rw [← hs₂]
    exact hsteps
  · obtain ⟨e2, q2, q3, q4, q5, q6⟩ := id hsm
    have e3 : s₂ = ({ (U.calling g mk a).setFrames s₂.frames with heap := s₂.heap, slotsUsed := s₂.slotsUsed } : State).setVm s₂.vm := by
      have : s₂ = ({ s₂ with vm := (U.calling g mk a).vm } : State).setVm s₂.vm := rfl
      rw [e2] at this
      exact this
    have hf₂ : s₂.frames = .throwing q :: .java g :: U.frames.tail := hend
    have hW' : U.WarmedH s₂.vm := hW₂
    have hs₂ : s₂ = ((({ U with heap := s₂.heap, slotsUsed := s₂.slotsUsed } : State).setVm s₂.vm).setTop g).pushFrame (.throwing q) := by
      refine e3.trans ?_
      rw [hf₂, State.calling_eq h.top, State.setFrames_setFrames, State.pushFrame, State.frames_setTop _ hr', State.setTop_of_frames _ hr', State.setFrames_setFrames, hr]
      rfl
    have hsame : U.sameButNew ({ U with heap := s₂.heap, slotsUsed := s₂.slotsUsed } : State) L mc ms := by
      refine ⟨?_, q2, q3, q4, q5, q6⟩
      obtain ⟨t, ht, -⟩ := State.frames_cons hr
      show ({ U with heap := s₂.heap, slotsUsed := s₂.slotsUsed } : State) = { U.setFrames U.frames with heap := s₂.heap, slotsUsed := s₂.slotsUsed }
      rw [State.setFrames_self ht]
    subst hg
    refine Or.inr ⟨q, ⟨(({ U with heap := s₂.heap, slotsUsed := s₂.slotsUsed } : State).setVm s₂.vm), Ls ++ L, c0 + mc, s0 + ms⟩,
      ⟨X.admits, X.cas, X.clock, X.frames, X.room, X.hears, X.method, X.code, (X.here.setHeapUsed s₂.heap s₂.slotsUsed).setVm hW'.alike, X.tail, State.WarmedH.trans X.warmed hW', X.limits, X.bytes, X.same.trans (hsame.setVm s.vm)⟩,
      ⟨g, mk, s₂, L, E, ce, rfl, rfl, hx, hce, hcv, hcl, rfl, hL, rfl, rfl⟩, ?_⟩
    show Steps p.tables e below _ (((({ U with heap := s₂.heap, slotsUsed := s₂.slotsUsed } : State).setVm s₂.vm).setTop g).pushFrame (.throwing q))
    rw [← hs₂]
    exact hsteps
end Payer
section Calls
variable {p : Program} {l : Launch} {e : Env} {R : Room} {s : State} {m : MethodId} {args : Array Value} {below : List Frame} {meth : Method} {c : Code} {T : State} {locs : List Loc} {cells slots : Nat}
theorem vx_callV (X : Stand p l e R s m args below meth c T locs cells slots) (hexec : p.tables.exec = Jvm.exec) {own C : String} {index : Nat} {y : MethodName} {bytes : ByteArray} {maxL : Nat} {ret : Option FieldType}
    (hown : s.vm.findClass own = some m.cls) (hlink : (Cond.methodLink own index y).before args s = true) (hinst : (Cond.instanceMethod y).before args s = true) (hsel : (Cond.selects C y y).before args s = true)
    (hcode : (Cond.code y bytes maxL ret).before args s = true) (hy : y.cls ≠ "java/lang/invoke/MethodHandle" ∧ y.cls ≠ "java/lang/invoke/VarHandle")
    {W9 : Nat} {Pre : Pt → Array Value → Prop} {Post : Pt → Array Value → Option Value → Pt → Prop} {PostX : Pt → Array Value → Addr → Pt → Prop} (hK : vx_Back l R p e below s args y 3 W9 Pre Post PostX)
    {b : Addr} {cellB : Cell} (hcell : T.heap[b]? = some cellB) (hobj : cellB.vm.isStatics = false) (hcls : s.vm.findClass C = some cellB.cls)
    {g : JFrame} (hg : g.method = m) (hsize : g.locals.size = c.maxLocals) {argsL rest : List Value} (hlen : ∀ sig, parseMethodDescriptor y.desc = some sig → argsL.length = sig.parameters.length)
    (hstack : g.stack = argsL.reverse ++ .ref b :: rest) (hW : 2 * g.monitorRoom + (rest.map fun v => v.category).sum ≤ W9) (hdg : decode c.code g.pc = .ok (.invokevirtual index, 3))
    (hpre : ∀ vm₁, s.WarmedH vm₁ → Pre ⟨T.setVm vm₁, locs, cells, slots⟩ (Value.ref b :: argsL).toArray) :
    (∃ (v : Option Value) (vm₁ : Vm) (B : Pt), s.WarmedH vm₁ ∧ Stand p l e R s m args below meth c B.U B.locs B.cells B.slots ∧ Post ⟨T.setVm vm₁, locs, cells, slots⟩ (Value.ref b :: argsL).toArray v B ∧
      ∀ target, Steps p.tables e below (B.U.setTop { g with pc := g.pc + 3, stack := v.toList ++ rest }) target → Steps p.tables e below (T.setTop g) target) ∨
    (∃ (q : Addr) (vm₁ : Vm) (B : Pt), s.WarmedH vm₁ ∧ Stand p l e R s m args below meth c B.U B.locs B.cells B.slots ∧ PostX ⟨T.setVm vm₁, locs, cells, slots⟩ (Value.ref b :: argsL).toArray q B ∧
      Steps p.tables e below (T.setTop g) ((B.U.setTop { g with stack := rest }).pushFrame (.throwing q))) := by
  obtain ⟨mk, methM, hnamed, hmethM, hstM, habM⟩ := Cond.instanceMethod_spec hinst
  obtain ⟨methM', cM, hmethM', -, -, -, -, -, -, hsigM⟩ := Cond.code_spec hnamed hcode
  cases hmethM.symm.trans hmethM'
  obtain ⟨c2, r2, m2, q1, q2, q3, q4, kP, hkP, hkPi⟩ := Cond.selects_spec hsel
  cases hcls.symm.trans q1
  cases (State.methodFound?_of_named hnamed hy).symm.trans q2
  cases hnamed.symm.trans q3
  have hselP : selectMethod e.platform s.vm cellB.cls mk = .method mk := by rw [Launch.admits_selectMethod X.admits]; exact q4
  obtain ⟨vm₁, X₁, hstep₁⟩ := X.invokevirtual hexec hown hlink hnamed hmethM hstM hkP hkPi hy (a := b) (cell := cellB) hcell
    (fun z h => by rw [h] at hobj; cases hobj) hselP hmethM habM hkP hkPi (g := g) hg (argsL := argsL) (rest := rest) (hlen _ hsigM) hstack hdg
  rcases hK m meth c ⟨T.setVm vm₁, locs, cells, slots⟩ { g with stack := rest } (.invokevirtual index) mk (Value.ref b :: argsL).toArray X₁ hg hsize hdg hW (X₁.named hnamed) (hpre vm₁ X₁.warmed) with ⟨v, B, X', hpost, hsteps⟩ | ⟨q, B, X', hpost, hsteps⟩
  · exact Or.inl ⟨v, vm₁, B, X₁.warmed, X', hpost, fun target h => hstep₁ _ fun acts => by rw [doInvoke_state]; exact hsteps.trans h⟩
  · exact Or.inr ⟨q, vm₁, B, X₁.warmed, X', hpost, hstep₁ _ fun acts => by rw [doInvoke_state]; exact hsteps⟩
theorem vx_callS (X : Stand p l e R s m args below meth c T locs cells slots) (hexec : p.tables.exec = Jvm.exec) {own : String} {index : Nat} {y : MethodName} {bytes : ByteArray} {maxL : Nat} {ret : Option FieldType}
    (hown : s.vm.findClass own = some m.cls) (hlink : (Cond.methodLink own index y).before args s = true) (hstat : (Cond.static y).before args s = true) (hinit : (Cond.initialized y.cls).before args s = true)
    (hcode : (Cond.code y bytes maxL ret).before args s = true) (hy : y.cls ≠ "java/lang/invoke/MethodHandle" ∧ y.cls ≠ "java/lang/invoke/VarHandle")
    {W9 : Nat} {Pre : Pt → Array Value → Prop} {Post : Pt → Array Value → Option Value → Pt → Prop} {PostX : Pt → Array Value → Addr → Pt → Prop} (hK : vx_Back l R p e below s args y 3 W9 Pre Post PostX)
    {g : JFrame} (hg : g.method = m) (hsize : g.locals.size = c.maxLocals) {argsL rest : List Value} (hlen : ∀ sig, parseMethodDescriptor y.desc = some sig → argsL.length = sig.parameters.length)
    (hstack : g.stack = argsL.reverse ++ rest) (hW : 2 * g.monitorRoom + (rest.map fun v => v.category).sum ≤ W9) (hdg : decode c.code g.pc = .ok (.invokestatic index, 3))
    (hpre : ∀ vm₁, s.WarmedH vm₁ → Pre ⟨T.setVm vm₁, locs, cells, slots⟩ argsL.toArray) :
    (∃ (v : Option Value) (vm₁ : Vm) (B : Pt), s.WarmedH vm₁ ∧ Stand p l e R s m args below meth c B.U B.locs B.cells B.slots ∧ Post ⟨T.setVm vm₁, locs, cells, slots⟩ argsL.toArray v B ∧
      ∀ target, Steps p.tables e below (B.U.setTop { g with pc := g.pc + 3, stack := v.toList ++ rest }) target → Steps p.tables e below (T.setTop g) target) ∨
    (∃ (q : Addr) (vm₁ : Vm) (B : Pt), s.WarmedH vm₁ ∧ Stand p l e R s m args below meth c B.U B.locs B.cells B.slots ∧ PostX ⟨T.setVm vm₁, locs, cells, slots⟩ argsL.toArray q B ∧
      Steps p.tables e below (T.setTop g) ((B.U.setTop { g with stack := rest }).pushFrame (.throwing q))) := by
  obtain ⟨mk, hnamed⟩ := Cond.code_named hcode
  obtain ⟨methM, cM, hmethM, -, -, -, -, -, -, hsigM⟩ := Cond.code_spec hnamed hcode
  have hstatic : methM.isStatic = true := Cond.static_spec hnamed hmethM hstat
  obtain ⟨kP, hkP, -⟩ := className_of_methodNamed hnamed
  have hinitP : kP.init = .initialized := Cond.initialized_spec (findClass_of_methodNamed hnamed) hkP hinit
  obtain ⟨vm₁, X₁, hstep₁⟩ := X.invokestatic hexec hown hlink hnamed hmethM hstatic hkP hinitP hy (g := g) hg (argsL := argsL) (rest := rest) (hlen _ hsigM) hstack hdg
  rcases hK m meth c ⟨T.setVm vm₁, locs, cells, slots⟩ { g with stack := rest } (.invokestatic index) mk argsL.toArray X₁ hg hsize hdg hW (X₁.named hnamed) (hpre vm₁ X₁.warmed) with ⟨v, B, X', hpost, hsteps⟩ | ⟨q, B, X', hpost, hsteps⟩
  · exact Or.inl ⟨v, vm₁, B, X₁.warmed, X', hpost, fun target h => hstep₁ _ fun acts => by rw [doInvoke_state]; exact hsteps.trans h⟩
  · exact Or.inr ⟨q, vm₁, B, X₁.warmed, X', hpost, hstep₁ _ fun acts => by rw [doInvoke_state]; exact hsteps⟩
end Calls
theorem vx_cls {s : State} {T : State} {vm₁ : Vm} {E : String} {k : ClassId} (hW : s.WarmedH vm₁) (h : (T.setVm vm₁).vm.findClass E = some k) : s.vm.findClass E = some k := by
  have h1 : vm₁.findClass E = some k := h
  rw [hW.alike.findClass] at h1
  exact h1
/-- the method's frame g, with q thrown over it -/
def vx_W (p : Program) (l : Launch) (e : Env) (R : Room) (s : State) (m : MethodId) (args : Array Value) (below : List Frame) (meth : Method) (c : Code) (H : Heap) (locs : List Loc) (cells slots : Nat) (Q : State → Prop) (g : JFrame) (q : Addr) : Prop :=
  ∀ T : State, T.heap = H → Stand p l e R s m args below meth c T locs cells slots → ∃ t, Steps p.tables e below ((T.setTop g).pushFrame (.throwing q)) t ∧ Q t
def vx_Run (p : Program) (l : Launch) (e : Env) (R : Room) (s : State) (m : MethodId) (args : Array Value) (below : List Frame) (meth : Method) (c : Code) (H : Heap) (locs : List Loc) (cells slots mc ms : Nat) (g : JFrame) (rest : List Value) (Qa : State → Outcome → State → Prop) (XC : String → State → State → Prop) (free : Addr → Prop) : Prop :=
  ∀ T : State, T.heap = H → Stand p l e R s m args below meth c T locs cells slots →
    (∃ (v : Option Value) (st₀ t T' : State) (L : List Loc), st₀.heap = H ∧ Stand p l e R s m args below meth c T' (locs ++ L) (cells + mc) (slots + ms) ∧ (∀ q ∈ L, free q.base) ∧ T'.heap = t.heap ∧ T'.vm = t.vm ∧ Qa st₀ (.returned v) t ∧
      Goes p e below T g T' { g with pc := g.pc + 3, stack := v.toList ++ rest }) ∨
    (∃ (q : Addr) (st₀ t T' : State) (L : List Loc) (E : String) (ce : Cell), st₀.heap = H ∧ Stand p l e R s m args below meth c T' (locs ++ L) (cells + mc) (slots + ms) ∧ (∀ z ∈ L, free z.base) ∧ T'.heap = t.heap ∧ T'.vm = t.vm ∧ XC E st₀ t ∧ t.heap[q]? = some ce ∧ ce.vm = .none ∧ s.vm.findClass E = some ce.cls ∧
      Steps p.tables e below (T.setTop g) ((T'.setTop { g with stack := rest }).pushFrame (.throwing q)))
def vx_X {S : Type} (px : S → Prop) (B : String → S → State → Prop) (A : Nat → Prop) : String → State → State → Prop := fun E st t => ∃ u : S, px u ∧ B E u t ∧ va_F A st t
section Runs
variable {p : Program} {l : Launch} {e : Env} {R : Room} {s : State} {m : MethodId} {args : Array Value} {below : List Frame} {meth : Method} {c : Code} {H : Heap} {locs : List Loc} {cells slots : Nat}
variable {y : MethodName} {bytes cc : ByteArray} {maxL nL mc ms n index : Nat} {ret : Option FieldType} {ws : List Cond} {rm : Room} {Pc : Array Value → State → Prop} {Qc : Array Value → State → Outcome → State → Prop} {XC : String → State → State → Prop} {free : Addr → Prop} {Ts : List Cond} {own C : String} {b : Addr} {As rest : List Value} {g : JFrame}
theorem vx_callBack (cb : CallB R s args own index y bytes maxL ret ws rm mc ms n) (hM : vx_Met l y ws rm Pc Qc XC mc ms free) (hbl : FrameBlind Pc) : vx_Back l R p e below s args y 3 8 (PreOf R mc ms Pc) (PostOf Qc mc ms free) (vx_Post XC mc ms free) := by
  obtain ⟨hrc, hrs, hfr, hlo, hws, hcw, -, hini, -⟩ := cb
  exact vx_back (bytes := bytes) (maxL := maxL) (ret := ret) hM hbl hrc hrs hfr hlo hws hcw (fun a' U hW => word_at hW (Or.inl (by first | rfl | simp [Cond.onTables, Cond.keeps, Cond.steady])) hini)
theorem vx_runV (S : CallFix p m c cc nL s args Ts own) (hM : vx_Met l y ws rm Pc Qc XC mc ms free) (cw : CallW R s args own C index y bytes maxL ret ws rm mc ms n) (hp : PreV s H C b Pc As)
    (hg : g.method = m) (hn : As.length = n) (hsize : g.locals.size = nL) (hstack : g.stack = As.reverse ++ .ref b :: rest) (hW : 2 * g.monitorRoom + (rest.map fun v => v.category).sum ≤ 8) (hdg : decode cc g.pc = .ok (.invokevirtual index, 3)) (hf : cells + mc ≤ R.cells ∧ slots + ms ≤ R.slots) :
    vx_Run p l e R s m args below meth c H locs cells slots mc ms g rest (Qc (Value.ref b :: As).toArray) XC free := by
  have hK : vx_Back l R p e below s args y 3 8 (PreOf R mc ms Pc) (PostOf Qc mc ms free) (vx_Post XC mc ms free) := vx_callBack cw.1 hM hp.1
  obtain ⟨⟨-, -, -, -, -, -, hcode, -, hy, hlen, hl⟩, hin, hse⟩ := cw
  obtain ⟨hx, hb, hml, ho, -⟩ := S
  obtain ⟨-, ⟨cellB, hcB, hoB, hclB⟩, hPc⟩ := hp
  intro T hT X
  rcases vx_callV X hx (C := C) (bytes := bytes) (maxL := maxL) (ret := ret) ho hl hin hse hcode hy hK (by rw [hT]; exact hcB) hoB hclB hg (hsize.trans hml.symm) (argsL := As) (rest := rest) (fun sig h => hn.trans (hlen sig h)) hstack hW (by rw [hb]; exact hdg)
    (fun vm₁ hW₁ => ⟨hf.1, hf.2, hPc (T.setVm vm₁) hT hW₁⟩) with ⟨v, vm₁, ⟨U', l2, c2, s2⟩, hW₁, X', ⟨g', mk, t, L, e1, e2, hq, h1, hL, h2, h3⟩, st⟩ | ⟨q, vm₁, ⟨U', l2, c2, s2⟩, hW₁, X', ⟨g', mk, t, L, E, ce, e1, e2, hq, hce, hcv, hcl, h1, hL, h2, h3⟩, st⟩
  · dsimp only [Pt.U, Pt.locs, Pt.cells, Pt.slots] at X' e1 e2 h1 h2 h3 st
    subst h1; subst h2; subst h3
    exact Or.inl ⟨v, (T.setVm vm₁).calling g' mk (Value.ref b :: As).toArray, t, U', L, hT, X', hL, e1, e2, hq, st⟩
  · dsimp only [Pt.U, Pt.locs, Pt.cells, Pt.slots] at X' e1 e2 h1 h2 h3 st hcl
    subst h1; subst h2; subst h3
    exact Or.inr ⟨q, (T.setVm vm₁).calling g' mk (Value.ref b :: As).toArray, t, U', L, E, ce, hT, X', hL, e1, e2, hq, hce, hcv, vx_cls hW₁ hcl, st⟩
theorem vx_runS (S : CallFix p m c cc nL s args Ts own) (hM : vx_Met l y ws rm Pc Qc XC mc ms free) (cw : CallB R s args own index y bytes maxL ret ws rm mc ms n ∧ (Cond.static y).before args s = true) (hp : PreS s H Pc As)
    (hg : g.method = m) (hn : As.length = n) (hsize : g.locals.size = nL) (hstack : g.stack = As.reverse ++ rest) (hW : 2 * g.monitorRoom + (rest.map fun v => v.category).sum ≤ 8) (hdg : decode cc g.pc = .ok (.invokestatic index, 3)) (hf : cells + mc ≤ R.cells ∧ slots + ms ≤ R.slots) :
    vx_Run p l e R s m args below meth c H locs cells slots mc ms g rest (Qc As.toArray) XC free := by
  have hK : vx_Back l R p e below s args y 3 8 (PreOf R mc ms Pc) (PostOf Qc mc ms free) (vx_Post XC mc ms free) := vx_callBack cw.1 hM hp.1
  obtain ⟨⟨-, -, -, -, -, -, hcode, hini, hy, hlen, hl⟩, hstt⟩ := cw
  obtain ⟨hx, hb, hml, ho, -⟩ := S
  intro T hT X
  rcases vx_callS X hx (bytes := bytes) (maxL := maxL) (ret := ret) ho hl hstt hini hcode hy hK hg (hsize.trans hml.symm) (argsL := As) (rest := rest) (fun sig h => hn.trans (hlen sig h)) hstack hW (by rw [hb]; exact hdg)
    (fun vm₁ hW₁ => ⟨hf.1, hf.2, hp.2 (T.setVm vm₁) hT hW₁⟩) with ⟨v, vm₁, ⟨U', l2, c2, s2⟩, hW₁, X', ⟨g', mk, t, L, e1, e2, hq, h1, hL, h2, h3⟩, st⟩ | ⟨q, vm₁, ⟨U', l2, c2, s2⟩, hW₁, X', ⟨g', mk, t, L, E, ce, e1, e2, hq, hce, hcv, hcl, h1, hL, h2, h3⟩, st⟩
  · dsimp only [Pt.U, Pt.locs, Pt.cells, Pt.slots] at X' e1 e2 h1 h2 h3 st
    subst h1; subst h2; subst h3
    exact Or.inl ⟨v, (T.setVm vm₁).calling g' mk As.toArray, t, U', L, hT, X', hL, e1, e2, hq, st⟩
  · dsimp only [Pt.U, Pt.locs, Pt.cells, Pt.slots] at X' e1 e2 h1 h2 h3 st hcl
    subst h1; subst h2; subst h3
    exact Or.inr ⟨q, (T.setVm vm₁).calling g' mk As.toArray, t, U', L, E, ce, hT, X', hL, e1, e2, hq, hce, hcv, vx_cls hW₁ hcl, st⟩
end Runs
section Rows
variable {p : Program} {l : Launch} {e : Env} {R : Room} {s : State} {m : MethodId} {args : Array Value} {below : List Frame} {meth : Method} {c : Code} {H : Heap} {locs : List Loc} {cells slots : Nat} {Q : State → Prop}
variable {mc ms : Nat} {free : Addr → Prop} {A0 A1 : Nat → Prop} {H0 : Heap} {a : Array Value} {pc : Nat} {ls : Array Slot} {st0 rest : List Value}
theorem vx_keep {st₀ t T' : State} {L : List Loc} (h0 : st₀.heap = H) (e1 : T'.heap = t.heap) (hS : va_S A0 H0 H locs) (hA : ∀ q, q < H.size → A1 q → A0 q) (hf : ∀ q, free q → A0 q) (hL : ∀ q ∈ L, free q.base) (hF : va_F A1 st₀ t) :
    H.size ≤ T'.heap.size ∧ (∀ q : Nat, q < H.size → ¬ A1 q → T'.heap[q]? = H[q]?) ∧ va_S A0 H0 T'.heap (locs ++ L) := by
  obtain ⟨hz, hk⟩ := hF
  rw [h0] at hz hk
  exact ⟨by rw [e1]; exact hz, fun q h1 h2 => by rw [e1]; exact hk q h1 h2,
    ⟨Nat.le_trans hS.1 (by rw [e1]; exact hz), fun q h1 h2 => by rw [e1, hk q (Nat.lt_of_lt_of_le h1 hS.1) (fun z => h2 (hA q (Nat.lt_of_lt_of_le h1 hS.1) z))]; exact hS.2.1 q h1 h2, fun q hq => by
      rcases List.mem_append.mp hq with h | h
      · exact hS.2.2 q h
      · exact hf _ (hL q h)⟩⟩
theorem vx_calli {S SX : Type} {post : Int32 → S → Prop} {px : SX → Prop} {B : S → State → Prop} {BX : String → SX → State → Prop} {AX : Nat → Prop} (hr : vx_Run p l e R s m args below meth c H locs cells slots mc ms (F0 m pc ls st0) rest (va_Qi post B A1 a) (vx_X px BX AX) free) (hS : va_S A0 H0 H locs) (hA : ∀ q, q < H.size → A1 q → A0 q) (hf : ∀ q, free q → A0 q) (hAX : ∀ q, q < H.size → AX q → A0 q)
    (kx : ∀ (E : String) (ce : Cell) (q9 : Addr) (u : SX) (t : State) (H1 : Heap) (locs1 : List Loc), t.heap = H1 → s.vm.Alike t.vm → px u → BX E u t → H.size ≤ H1.size → (∀ q : Nat, q < H.size → ¬ AX q → H1[q]? = H[q]?) → va_S A0 H0 H1 locs1 → H1[q9]? = some ce → ce.vm = .none → s.vm.findClass E = some ce.cls → vx_W p l e R s m args below meth c H1 locs1 (cells + mc) (slots + ms) Q (F0 m pc ls rest) q9)
    (kk : ∀ (r : Int32) (u : S) (t : State) (H1 : Heap) (locs1 : List Loc), t.heap = H1 → s.vm.Alike t.vm → post r u → B u t → H.size ≤ H1.size → (∀ q : Nat, q < H.size → ¬ A1 q → H1[q]? = H[q]?) → va_S A0 H0 H1 locs1 → W p l e R s m args below meth c H1 locs1 (cells + mc) (slots + ms) Q (F0 m (pc + 3) ls (.int r :: rest))) : W p l e R s m args below meth c H locs cells slots Q (F0 m pc ls st0) := by
  intro T hT X
  rcases hr T hT X with ⟨v, st₀, t, T', L, h0, X', hL, e1, e2, ⟨⟨r, u, hv, hp, hb⟩, hF⟩, st⟩ | ⟨q, st₀, t, T', L, E, ce, h0, X', hL, e1, e2, ⟨u, hp, hb, hF⟩, hce, hcv, hcl, st⟩
  · cases hv
    obtain ⟨k1, k2, k3⟩ := vx_keep h0 e1 hS hA hf hL hF
    obtain ⟨t2, a1, b1⟩ := kk r u t T'.heap (locs ++ L) e1.symm (by rw [← e2]; exact X'.warmed.alike) hp hb k1 k2 k3 T' rfl X'
    exact ⟨t2, st t2 a1, b1⟩
  · obtain ⟨k1, k2, k3⟩ := vx_keep h0 e1 hS hAX hf hL hF
    obtain ⟨t2, a1, b1⟩ := kx E ce q u t T'.heap (locs ++ L) e1.symm (by rw [← e2]; exact X'.warmed.alike) hp hb k1 k2 k3 (by rw [e1]; exact hce) hcv hcl T' rfl X'
    exact ⟨t2, st.trans a1, b1⟩
theorem vx_calll {S SX : Type} {post : Int64 → S → Prop} {px : SX → Prop} {B : S → State → Prop} {BX : String → SX → State → Prop} {AX : Nat → Prop} (hr : vx_Run p l e R s m args below meth c H locs cells slots mc ms (F0 m pc ls st0) rest (va_Ql post B A1 a) (vx_X px BX AX) free) (hS : va_S A0 H0 H locs) (hA : ∀ q, q < H.size → A1 q → A0 q) (hf : ∀ q, free q → A0 q) (hAX : ∀ q, q < H.size → AX q → A0 q)
    (kx : ∀ (E : String) (ce : Cell) (q9 : Addr) (u : SX) (t : State) (H1 : Heap) (locs1 : List Loc), t.heap = H1 → s.vm.Alike t.vm → px u → BX E u t → H.size ≤ H1.size → (∀ q : Nat, q < H.size → ¬ AX q → H1[q]? = H[q]?) → va_S A0 H0 H1 locs1 → H1[q9]? = some ce → ce.vm = .none → s.vm.findClass E = some ce.cls → vx_W p l e R s m args below meth c H1 locs1 (cells + mc) (slots + ms) Q (F0 m pc ls rest) q9)
    (kk : ∀ (r : Int64) (u : S) (t : State) (H1 : Heap) (locs1 : List Loc), t.heap = H1 → s.vm.Alike t.vm → post r u → B u t → H.size ≤ H1.size → (∀ q : Nat, q < H.size → ¬ A1 q → H1[q]? = H[q]?) → va_S A0 H0 H1 locs1 → W p l e R s m args below meth c H1 locs1 (cells + mc) (slots + ms) Q (F0 m (pc + 3) ls (.long r :: rest))) : W p l e R s m args below meth c H locs cells slots Q (F0 m pc ls st0) := by
  intro T hT X
  rcases hr T hT X with ⟨v, st₀, t, T', L, h0, X', hL, e1, e2, ⟨⟨r, u, hv, hp, hb⟩, hF⟩, st⟩ | ⟨q, st₀, t, T', L, E, ce, h0, X', hL, e1, e2, ⟨u, hp, hb, hF⟩, hce, hcv, hcl, st⟩
  · cases hv
    obtain ⟨k1, k2, k3⟩ := vx_keep h0 e1 hS hA hf hL hF
    obtain ⟨t2, a1, b1⟩ := kk r u t T'.heap (locs ++ L) e1.symm (by rw [← e2]; exact X'.warmed.alike) hp hb k1 k2 k3 T' rfl X'
    exact ⟨t2, st t2 a1, b1⟩
  · obtain ⟨k1, k2, k3⟩ := vx_keep h0 e1 hS hAX hf hL hF
    obtain ⟨t2, a1, b1⟩ := kx E ce q u t T'.heap (locs ++ L) e1.symm (by rw [← e2]; exact X'.warmed.alike) hp hb k1 k2 k3 (by rw [e1]; exact hce) hcv hcl T' rfl X'
    exact ⟨t2, st.trans a1, b1⟩
theorem vx_callf {S SX : Type} {post : UInt32 → S → Prop} {px : SX → Prop} {B : S → State → Prop} {BX : String → SX → State → Prop} {AX : Nat → Prop} (hr : vx_Run p l e R s m args below meth c H locs cells slots mc ms (F0 m pc ls st0) rest (va_Qf post B A1 a) (vx_X px BX AX) free) (hS : va_S A0 H0 H locs) (hA : ∀ q, q < H.size → A1 q → A0 q) (hf : ∀ q, free q → A0 q) (hAX : ∀ q, q < H.size → AX q → A0 q)
    (kx : ∀ (E : String) (ce : Cell) (q9 : Addr) (u : SX) (t : State) (H1 : Heap) (locs1 : List Loc), t.heap = H1 → s.vm.Alike t.vm → px u → BX E u t → H.size ≤ H1.size → (∀ q : Nat, q < H.size → ¬ AX q → H1[q]? = H[q]?) → va_S A0 H0 H1 locs1 → H1[q9]? = some ce → ce.vm = .none → s.vm.findClass E = some ce.cls → vx_W p l e R s m args below meth c H1 locs1 (cells + mc) (slots + ms) Q (F0 m pc ls rest) q9)
    (kk : ∀ (r : UInt32) (u : S) (t : State) (H1 : Heap) (locs1 : List Loc), t.heap = H1 → s.vm.Alike t.vm → post r u → B u t → H.size ≤ H1.size → (∀ q : Nat, q < H.size → ¬ A1 q → H1[q]? = H[q]?) → va_S A0 H0 H1 locs1 → W p l e R s m args below meth c H1 locs1 (cells + mc) (slots + ms) Q (F0 m (pc + 3) ls (.float r :: rest))) : W p l e R s m args below meth c H locs cells slots Q (F0 m pc ls st0) := by
  intro T hT X
  rcases hr T hT X with ⟨v, st₀, t, T', L, h0, X', hL, e1, e2, ⟨⟨r, u, hv, hp, hb⟩, hF⟩, st⟩ | ⟨q, st₀, t, T', L, E, ce, h0, X', hL, e1, e2, ⟨u, hp, hb, hF⟩, hce, hcv, hcl, st⟩
  · cases hv
    obtain ⟨k1, k2, k3⟩ := vx_keep h0 e1 hS hA hf hL hF
    obtain ⟨t2, a1, b1⟩ := kk r u t T'.heap (locs ++ L) e1.symm (by rw [← e2]; exact X'.warmed.alike) hp hb k1 k2 k3 T' rfl X'
    exact ⟨t2, st t2 a1, b1⟩
  · obtain ⟨k1, k2, k3⟩ := vx_keep h0 e1 hS hAX hf hL hF
    obtain ⟨t2, a1, b1⟩ := kx E ce q u t T'.heap (locs ++ L) e1.symm (by rw [← e2]; exact X'.warmed.alike) hp hb k1 k2 k3 (by rw [e1]; exact hce) hcv hcl T' rfl X'
    exact ⟨t2, st.trans a1, b1⟩
theorem vx_calld {S SX : Type} {post : UInt64 → S → Prop} {px : SX → Prop} {B : S → State → Prop} {BX : String → SX → State → Prop} {AX : Nat → Prop} (hr : vx_Run p l e R s m args below meth c H locs cells slots mc ms (F0 m pc ls st0) rest (va_Qd post B A1 a) (vx_X px BX AX) free) (hS : va_S A0 H0 H locs) (hA : ∀ q, q < H.size → A1 q → A0 q) (hf : ∀ q, free q → A0 q) (hAX : ∀ q, q < H.size → AX q → A0 q)
    (kx : ∀ (E : String) (ce : Cell) (q9 : Addr) (u : SX) (t : State) (H1 : Heap) (locs1 : List Loc), t.heap = H1 → s.vm.Alike t.vm → px u → BX E u t → H.size ≤ H1.size → (∀ q : Nat, q < H.size → ¬ AX q → H1[q]? = H[q]?) → va_S A0 H0 H1 locs1 → H1[q9]? = some ce → ce.vm = .none → s.vm.findClass E = some ce.cls → vx_W p l e R s m args below meth c H1 locs1 (cells + mc) (slots + ms) Q (F0 m pc ls rest) q9)
    (kk : ∀ (r : UInt64) (u : S) (t : State) (H1 : Heap) (locs1 : List Loc), t.heap = H1 → s.vm.Alike t.vm → post r u → B u t → H.size ≤ H1.size → (∀ q : Nat, q < H.size → ¬ A1 q → H1[q]? = H[q]?) → va_S A0 H0 H1 locs1 → W p l e R s m args below meth c H1 locs1 (cells + mc) (slots + ms) Q (F0 m (pc + 3) ls (.double r :: rest))) : W p l e R s m args below meth c H locs cells slots Q (F0 m pc ls st0) := by
  intro T hT X
  rcases hr T hT X with ⟨v, st₀, t, T', L, h0, X', hL, e1, e2, ⟨⟨r, u, hv, hp, hb⟩, hF⟩, st⟩ | ⟨q, st₀, t, T', L, E, ce, h0, X', hL, e1, e2, ⟨u, hp, hb, hF⟩, hce, hcv, hcl, st⟩
  · cases hv
    obtain ⟨k1, k2, k3⟩ := vx_keep h0 e1 hS hA hf hL hF
    obtain ⟨t2, a1, b1⟩ := kk r u t T'.heap (locs ++ L) e1.symm (by rw [← e2]; exact X'.warmed.alike) hp hb k1 k2 k3 T' rfl X'
    exact ⟨t2, st t2 a1, b1⟩
  · obtain ⟨k1, k2, k3⟩ := vx_keep h0 e1 hS hAX hf hL hF
    obtain ⟨t2, a1, b1⟩ := kx E ce q u t T'.heap (locs ++ L) e1.symm (by rw [← e2]; exact X'.warmed.alike) hp hb k1 k2 k3 (by rw [e1]; exact hce) hcv hcl T' rfl X'
    exact ⟨t2, st.trans a1, b1⟩
theorem vx_callv {S SX : Type} {post : S → Prop} {px : SX → Prop} {B : S → State → Prop} {BX : String → SX → State → Prop} {AX : Nat → Prop} (hr : vx_Run p l e R s m args below meth c H locs cells slots mc ms (F0 m pc ls st0) rest (va_Qv post B A1 a) (vx_X px BX AX) free) (hS : va_S A0 H0 H locs) (hA : ∀ q, q < H.size → A1 q → A0 q) (hf : ∀ q, free q → A0 q) (hAX : ∀ q, q < H.size → AX q → A0 q)
    (kx : ∀ (E : String) (ce : Cell) (q9 : Addr) (u : SX) (t : State) (H1 : Heap) (locs1 : List Loc), t.heap = H1 → s.vm.Alike t.vm → px u → BX E u t → H.size ≤ H1.size → (∀ q : Nat, q < H.size → ¬ AX q → H1[q]? = H[q]?) → va_S A0 H0 H1 locs1 → H1[q9]? = some ce → ce.vm = .none → s.vm.findClass E = some ce.cls → vx_W p l e R s m args below meth c H1 locs1 (cells + mc) (slots + ms) Q (F0 m pc ls rest) q9)
    (kk : ∀ (u : S) (t : State) (H1 : Heap) (locs1 : List Loc), t.heap = H1 → s.vm.Alike t.vm → post u → B u t → H.size ≤ H1.size → (∀ q : Nat, q < H.size → ¬ A1 q → H1[q]? = H[q]?) → va_S A0 H0 H1 locs1 → W p l e R s m args below meth c H1 locs1 (cells + mc) (slots + ms) Q (F0 m (pc + 3) ls (rest))) : W p l e R s m args below meth c H locs cells slots Q (F0 m pc ls st0) := by
  intro T hT X
  rcases hr T hT X with ⟨v, st₀, t, T', L, h0, X', hL, e1, e2, ⟨⟨u, hv, hp, hb⟩, hF⟩, st⟩ | ⟨q, st₀, t, T', L, E, ce, h0, X', hL, e1, e2, ⟨u, hp, hb, hF⟩, hce, hcv, hcl, st⟩
  · cases hv
    obtain ⟨k1, k2, k3⟩ := vx_keep h0 e1 hS hA hf hL hF
    obtain ⟨t2, a1, b1⟩ := kk u t T'.heap (locs ++ L) e1.symm (by rw [← e2]; exact X'.warmed.alike) hp hb k1 k2 k3 T' rfl X'
    exact ⟨t2, st t2 a1, b1⟩
  · obtain ⟨k1, k2, k3⟩ := vx_keep h0 e1 hS hAX hf hL hF
    obtain ⟨t2, a1, b1⟩ := kx E ce q u t T'.heap (locs ++ L) e1.symm (by rw [← e2]; exact X'.warmed.alike) hp hb k1 k2 k3 (by rw [e1]; exact hce) hcv hcl T' rfl X'
    exact ⟨t2, st.trans a1, b1⟩
/-- caught by the row x of this method's table; the rows ahead don't take it -/
theorem vx_catch {own name : String} {E : String} {ce : Cell} {q : Addr} (hown : s.vm.findClass own = some m.cls) (pre : List ExceptionTableEntry) (x : ExceptionTableEntry) (suf : List ExceptionTableEntry) (hsplit : c.exceptionTable.toList = pre ++ x :: suf)
    (hpass : ∀ z ∈ pre, covers z pc = false ∨ (z.catchType ≠ 0 ∧ ∃ nm : String, (Cond.classLink own z.catchType nm).before args s = true ∧ va_Nc E nm s)) (hx : covers x pc = true) (h0 : x.catchType ≠ 0)
    (hlink : (Cond.classLink own x.catchType name).before args s = true) (hcast : (Cond.castable E name).before args s = true) (hcell : H[q]? = some ce) (hv : ce.vm = .none) (hcl : s.vm.findClass E = some ce.cls)
    (kk : W p l e R s m args below meth c H locs cells slots Q (F0 m x.handlerPc ls [.ref q])) : vx_W p l e R s m args below meth c H locs cells slots Q (F0 m pc ls rest) q := by
  intro T hT X
  have hpl : e.platform.magicAccessors = ({} : Platform).magicAccessors := by rw [X.admits.platform]
  obtain ⟨c3, c4, hc3, hc4, hasg⟩ := Cond.castable_spec hcast
  cases Option.some.inj (hc3.symm.trans hcl)
  obtain ⟨c5, hc5, hcl5⟩ := Cond.classLink_spec hown hlink e.platform hpl
  cases Option.some.inj (hc4.symm.trans hc5)
  obtain ⟨vm', X', st⟩ := X.thenCaughtThrough q (g := F0 m pc ls rest) rfl (Steps.refl _) (by rw [hT]; exact hcell) (by rw [hv]; rfl) (by obtain ⟨k9, h9, -⟩ := Vm.findClass_spec hcl; exact ⟨k9, h9⟩) pre x suf hsplit
    (fun z hz => by
      rcases hpass z hz with h | ⟨hz0, nm, hl1, hn1⟩
      · exact Or.inl h
      · obtain ⟨c6, hc6, hcl6⟩ := Cond.classLink_spec hown hl1 e.platform hpl
        obtain ⟨a8, b8, h1, h2, h3⟩ := hn1
        cases Option.some.inj (h1.symm.trans hcl)
        cases Option.some.inj (h2.symm.trans hc6)
        exact Or.inr ⟨hz0, _, hcl6, h3⟩) hx (Or.inr ⟨h0, c4, hcl5, hasg⟩)
  obtain ⟨t, a1, b1⟩ := kk (T.setVm vm') hT X'
  exact ⟨t, st.trans a1, b1⟩
end Rows
section Ends
variable {p : Program} {l : Launch} {e : Env} {R : Room} {s : State} {m : MethodId} {args : Array Value} {below : List Frame} {meth : Method} {c : Code} {H : Heap} {locs : List Loc} {cells slots : Nat} {Q : State → Prop}
variable {mc ms : Nat} {free : Addr → Prop} {A0 A1 : Nat → Prop} {H0 : Heap} {a : Array Value} {ls : Array Slot} {st0 rest : List Value}
variable {Qc : Array Value → State → Outcome → State → Prop} {XC : String → State → State → Prop}
/-- what a body that may throw owes at its end -/
def vx_MQ (below : List Frame) (Qc : Array Value → State → Outcome → State → Prop) (XC : String → State → State → Prop) (a : Array Value) (s : State) (mc ms : Nat) (free : Addr → Prop) : State → Prop := fun t =>
  ∃ o, t.status = .running ∧ Ended t below o ∧ vx_Q Qc XC mc ms free a s o t
theorem vx_ret {g : JFrame} {mc ms : Nat} (k : W p l e R s m args below meth c H locs cells slots (MQ below Qc args s mc ms free) g) : W p l e R s m args below meth c H locs cells slots (vx_MQ below Qc XC args s mc ms free) g := by
  intro T hT X
  obtain ⟨t, a1, o, b1, b2, b3, b4⟩ := k T hT X
  exact ⟨t, a1, o, b1, b2, Or.inl ⟨b3, b4⟩⟩
/-- not caught here: it goes on to the caller -/
theorem vx_widen {g : JFrame} {q : Addr} {k n : Nat} (h1 : cells ≤ k) (h2 : slots ≤ n) (kk : vx_W p l e R s m args below meth c H locs k n Q g q) : vx_W p l e R s m args below meth c H locs cells slots Q g q := fun T hT X => kk T hT (stand_widen X h1 h2)
theorem vx_out {pc : Nat} {E : String} {ce : Cell} {q : Addr} {mc ms : Nat} (hout : ∀ x ∈ c.exceptionTable.toList, covers x pc = false) (hlocks : meth.locks = false) (hcell : H[q]? = some ce) (hv : ce.vm = .none) (hcl : s.vm.findClass E = some ce.cls)
    (hx : ∀ t : State, t.heap = H → s.vm.Alike t.vm → XC E s t) (hf : ∀ z ∈ locs, free z.base) (hc : cells ≤ mc) (hs : slots ≤ ms) :
    vx_W p l e R s m args below meth c H locs cells slots (vx_MQ below Qc XC args s mc ms free) (F0 m pc ls rest) q := by
  intro T hT X
  obtain ⟨st1, hrun, hend, hW, hsm⟩ := X.leaveThrown q (g := F0 m pc ls rest) rfl rfl rfl hout hlocks
  have hcell9 : (T.setFrames (.throwing q :: below)).heap[q]? = some ce := by
    show T.heap[q]? = some ce
    rw [hT]; exact hcell
  exact ⟨_, st1, .threw q, hrun, hend, Or.inr ⟨q, rfl, E, ce, locs, hx _ hT hW.alike, hcell9, hv, hcl, hW, hsm.mono hc hs, hf⟩⟩
theorem vx_frame {U : State} {k n : Nat} (h : s.sameButNew ({ U with vm := s.vm } : State) locs k n) : s.heap.size ≤ U.heap.size ∧ ∀ q : Nat, q < s.heap.size → (∀ z ∈ locs, z.base ≠ q) → U.heap[q]? = s.heap[q]? := by
  obtain ⟨-, h2, -, -, -, h6⟩ := h
  refine ⟨h2, fun q hq hz => ?_⟩
  obtain ⟨c9, e1, e2, e3, e4⟩ := h6 q _ (Array.getElem?_eq_getElem hq)
  have hs : c9.slots = (s.heap[q]).slots := Array.ext_getElem? fun i => e4 i fun hm => hz _ hm rfl
  have h9 : c9 = s.heap[q] := by
    rw [hs] at e2
    exact e2
  have e5 : U.heap[q]? = some c9 := e1
  rw [e5, h9, Array.getElem?_eq_getElem hq]
/-- the words of a throw but the four that speak of the heap -/
def vx_no (w : Cond) : Bool := decide (w ≠ .isRef (.static Bundle.tN "UNASSIGNED_STACK" Bundle.steD)) && decide (w ≠ .isRef (.static Bundle.tN "SUPPRESSED_SENTINEL" Bundle.listD)) && decide (w ≠ .laysStatic Bundle.tN "UNASSIGNED_STACK" Bundle.steD) && decide (w ≠ .laysStatic Bundle.tN "SUPPRESSED_SENTINEL" Bundle.listD)
def vx_at0 (own : String) (ic : Nat) (X : String) (names : List String) : List Cond := (Bundle.ownAtoms0 own ic X names).filter vx_no
def vx_atS (own : String) (ic : Nat) (X : String) (names : List String) : List Cond := (Bundle.ownAtoms own ic X names).filter vx_no
/-- a word that the tables alone decide, or a good one -/
def vx_ot (w : Cond) : Bool := w.onTables || goodWord w
theorem vx_ot_at {args a' : Array Value} {s U : State} {w : Cond} (hW : s.WarmedH U.vm) (hvm : s.vm = U.vm) (hg : vx_ot w = true) (h : w.before args s = true) : w.before a' U = true := by
  simp only [vx_ot, Bool.or_eq_true] at hg
  rcases hg with hg | hg
  · exact va_tabs hg hvm h
  · exact word_at hW (good_of_word hg) h
/-- a list's words: the good ones out of the method's own list, the others by premises of their own -/
theorem vx_hat {args : Array Value} {s : State} {L B : List Cond} (h1 : ∀ w ∈ L.filter goodWord, w.before args s = true) (h2 : ∀ w ∈ L.filter (fun w => !goodWord w), w ∈ B) (h3 : ∀ w ∈ B, w.before args s = true) : ∀ w ∈ L, w.before args s = true := by
  intro w hw
  by_cases g : goodWord w = true
  · exact h1 w (List.mem_filter.mpr ⟨hw, g⟩)
  · refine h3 w (h2 w (List.mem_filter.mpr ⟨hw, ?_⟩))
    show (!goodWord w) = true
    cases hgw : goodWord w
    · rfl
    · exact absurd hgw g
theorem vx_c {args : Array Value} {s : State} {w : Cond} {B : List Cond} (h : w.before args s = true) (t : ∀ w ∈ B, w.before args s = true) : ∀ w' ∈ w :: B, w'.before args s = true := fun w' h' => (List.mem_cons.mp h').elim (fun e => by rw [e]; exact h) (t w')
theorem vx_n {args : Array Value} {s : State} : ∀ w ∈ ([] : List Cond), w.before args s = true := fun _ h => nomatch h
theorem vx_own {args : Array Value} {s : State} {L : List Cond} (h1 : ∀ w ∈ L.filter vx_no, w.before args s = true)
    (hU : (Cond.isRef (.static Bundle.tN "UNASSIGNED_STACK" Bundle.steD)).before args s = true) (hN : (Cond.isRef (.static Bundle.tN "SUPPRESSED_SENTINEL" Bundle.listD)).before args s = true)
    (lU : (Cond.laysStatic Bundle.tN "UNASSIGNED_STACK" Bundle.steD).before args s = true) (lN : (Cond.laysStatic Bundle.tN "SUPPRESSED_SENTINEL" Bundle.listD).before args s = true) : ∀ w ∈ L, w.before args s = true := by
  intro w hw
  by_cases e1 : w = .isRef (.static Bundle.tN "UNASSIGNED_STACK" Bundle.steD)
  · rw [e1]; exact hU
  · by_cases e2 : w = .isRef (.static Bundle.tN "SUPPRESSED_SENTINEL" Bundle.listD)
    · rw [e2]; exact hN
    · by_cases e3 : w = .laysStatic Bundle.tN "UNASSIGNED_STACK" Bundle.steD
      · rw [e3]; exact lU
      · by_cases e4 : w = .laysStatic Bundle.tN "SUPPRESSED_SENTINEL" Bundle.listD
        · rw [e4]; exact lN
        · exact h1 w (List.mem_filter.mpr ⟨hw, by unfold vx_no; rw [decide_eq_true e1, decide_eq_true e2, decide_eq_true e3, decide_eq_true e4]; rfl⟩)
/-- where a static field lies, its class's statics cell in H -/
def vx_L (C n d : String) (A : Nat → Prop) (U : State) (H : Heap) : Prop := ∃ (c : ClassId) (k : Class) (i : Nat) (f : Field) (a : Nat) (cell : Cell), U.vm.findClass C = some c ∧ U.fieldFound? C n d = some (c, k, i, f) ∧ f.isStatic = true ∧ k.statics = some a ∧ H[a]? = some cell ∧ cell.vm.isStatics = true ∧ cell.cls = c ∧ f.slot < cell.slots.size ∧ k.staticTypes[f.slot]? = some f.type ∧ ¬ A a
theorem vx_L.moved {C n d : String} {A : Nat → Prop} {u U : State} {H : Heap} (hvm : u.vm.Alike U.vm) (h : vx_L C n d A u H) : vx_L C n d A U H := by
  obtain ⟨c, k, i, f, a, cell, h1, h2, h3, h4, h5, h6, h7, h8, h9, h10⟩ := h
  obtain ⟨k', hi', he⟩ := State.fieldFound?_setVm hvm h2
  exact ⟨c, k', i, f, a, cell, by rw [hvm.findClass]; exact h1, hi', h3, by rw [he]; exact h4, h5, h6, h7, h8, by rw [he]; exact h9, h10⟩
theorem vx_L.kept {C n d : String} {A : Nat → Prop} {U : State} {H H1 : Heap} (h : vx_L C n d A U H) (hq : ∀ a : Nat, a < H.size → ¬ A a → H1[a]? = H[a]?) : vx_L C n d A U H1 := by
  obtain ⟨c, k, i, f, a, cell, h1, h2, h3, h4, h5, h6, h7, h8, h9, h10⟩ := h
  exact ⟨c, k, i, f, a, cell, h1, h2, h3, h4, by rw [hq a (Array.getElem?_eq_some_iff.mp h5).1 h10]; exact h5, h6, h7, h8, h9, h10⟩
theorem vx_L.narrow {C n d : String} {A B : Nat → Prop} {U : State} {H : Heap} (h : vx_L C n d A U H) (hAB : ∀ q, B q → A q) : vx_L C n d B U H := by
  obtain ⟨c, k, i, f, a, cell, h1, h2, h3, h4, h5, h6, h7, h8, h9, h10⟩ := h
  exact ⟨c, k, i, f, a, cell, h1, h2, h3, h4, h5, h6, h7, h8, h9, fun z => h10 (hAB _ z)⟩
theorem vx_L.word {C n d : String} {A : Nat → Prop} {s : State} {args : Array Value} (h : vx_L C n d A s s.heap) : (Cond.laysStatic C n d).before args s = true := by
  obtain ⟨c, k, i, f, a, cell, h1, h2, h3, h4, h5, h6, h7, h8, h9, -⟩ := h
  show (Cond.laysStatic C n d).holds args s none s [] = true
  exact Cond.laysStatic_of h1 h2 h3 h4 h5 h6 h7 h8 h9
/-- .. and what it holds: null or some reference -/
def vx_Zq (C n d : String) (A : Nat → Prop) (U : State) (H : Heap) : Prop := va_Zq C n d A U H ∧ vx_L C n d A U H
theorem vx_Zq.moved {C n d : String} {A : Nat → Prop} {u U : State} {H : Heap} (hvm : u.vm.Alike U.vm) (h : vx_Zq C n d A u H) : vx_Zq C n d A U H := ⟨va_Zq.moved hvm h.1, vx_L.moved hvm h.2⟩
theorem vx_Zq.kept {C n d : String} {A : Nat → Prop} {U : State} {H H1 : Heap} (h : vx_Zq C n d A U H) (hq : ∀ a : Nat, a < H.size → ¬ A a → H1[a]? = H[a]?) : vx_Zq C n d A U H1 := ⟨va_Zq.kept h.1 hq, vx_L.kept h.2 hq⟩
theorem vx_Zq.narrow {C n d : String} {A B : Nat → Prop} {U : State} {H : Heap} (h : vx_Zq C n d A U H) (hAB : ∀ q, B q → A q) : vx_Zq C n d B U H := ⟨va_Zq.narrow h.1 hAB, vx_L.narrow h.2 hAB⟩
theorem vx_Zqof {args : Array Value} {s : State} {C n d : String} {A : Nat → Prop} (hl : (Cond.laysStatic C n d).before args s = true) (hini : (Cond.initialized C).before args s = true) (h : (Cond.isRef (.static C n d)).before args s = true) (hA : ∀ a : Nat, a < s.heap.size → ¬ A a) : vx_Zq C n d A s s.heap := by
  refine ⟨va_Zqof hl hini h hA, ?_⟩
  obtain ⟨c, k, i, f, a, cell, h1, h2, h3, h4, h5, h6, h7, h8, h9⟩ := Cond.laysStatic_spec hl
  exact ⟨c, k, i, f, a, cell, h1, h2, h3, h4, h5, h6, h7, h8, h9, hA a (Array.getElem?_eq_some_iff.mp h5).1⟩
theorem vx_isRef {C n d : String} {v : Value} {A : Nat → Prop} {s : State} {args : Array Value} (h : va_Z C n d v A s s.heap) (hv : v.isRef = true) : (Cond.isRef (.static C n d)).before args s = true := by
  obtain ⟨cf, kf, fi, f, a, cell, h1, h2, h3, h4, h5, h6, h7, -⟩ := h
  have he : (Term.static C n d).eval args s none [] s = some v := by
    simp [Term.eval, State.fieldNamed?, h1, h2, h4, h5, h6, h7]
  simp only [Cond.before, Cond.holds, Cond.value, he]
  cases v <;> simp_all [Value.isRef]
theorem vx_isRefq {C n d : String} {A : Nat → Prop} {s : State} {args : Array Value} (h : va_Zq C n d A s s.heap) : (Cond.isRef (.static C n d)).before args s = true := by
  rcases h with h | ⟨t, h⟩
  · exact vx_isRef h rfl
  · exact vx_isRef h rfl
/-- the same frame, seen from here: as if the method were called anew in this heap -/
theorem vx_rebase {T : State} (X : Stand p l e R s m args below meth c T locs cells slots) {R' : Room} (hf : R'.frames ≤ R.frames) (hl : R'.locals ≤ R.locals) (hc : cells + R'.cells ≤ R.cells) (hs : slots + R'.slots ≤ R.slots) :
    Stand p l e R' ((T.setVm s.vm).setFrames (.invoking m args :: below)) m args below meth c T [] 0 0 := by
  have htop : (T.setVm s.vm).topJava?.isSome := X.here.top
  have hF : ((T.setVm s.vm).setFrames (.invoking m args :: below)).frames = .invoking m args :: below := State.frames_setFrames _ (State.cur_lt_of_top htop)
  obtain ⟨g₀, hg0⟩ := Option.isSome_iff_exists.mp htop
  obtain ⟨r, hr⟩ := State.topJava?_eq_some.mp hg0
  have hl9 : e.platform.stackLimits (T.setVm s.vm).me = e.platform.stackLimits s.me := X.limits
  have hb9 : (T.setVm s.vm).me.stackBytes = s.me.stackBytes := X.bytes
  refine ⟨X.admits, X.cas, X.clock, hF, ?_, X.hears, X.method, X.code, X.here, X.tail, X.warmed, ?_, ?_, ?_⟩
  · have h := X.room
    have hU : ((T.setVm s.vm).setFrames (.invoking m args :: below)).localsInUse = s.localsInUse := by
      rw [State.localsInUse_invoking hF (meth := meth) (c := c) X.method X.code, State.localsInUse_invoking X.frames X.method X.code]
    simp only [State.hasRoom, Bool.and_eq_true, decide_eq_true_eq] at h ⊢
    obtain ⟨⟨⟨⟨h1, h2, h3, h4, h5, h6⟩, h7⟩, h8⟩, h9⟩ := h
    rw [X.frames, List.length_cons] at h2 h3
    have q1 := X.heapSize
    have q2 := X.used
    simp only [hF, hU, List.length_cons, State.stackLimits_setFrames, State.stackBytes_setFrames, hl9, hb9]
    refine ⟨⟨⟨⟨by omega, by omega, by omega, by omega, by omega, h6⟩, ?_⟩, ?_⟩, X.book⟩
    · show T.heap.size + R'.cells ≤ e.platform.maxCells
      omega
    · show T.slotsUsed + R'.slots ≤ e.platform.maxSlots
      omega
  · rw [State.stackLimits_setFrames]; rfl
  · rw [State.stackBytes_setFrames]; rfl
  · refine ⟨?_, Nat.le_refl _, Nat.le_refl _, ?_, ?_, fun a c9 h9 => ⟨c9, h9, rfl, rfl, fun _ _ => rfl⟩⟩
    · obtain ⟨t, ht, -⟩ := State.frames_cons hr
      show T.setVm s.vm = { ((T.setVm s.vm).setFrames (.invoking m args :: below)).setFrames (T.setVm s.vm).frames with heap := T.heap, slotsUsed := T.slotsUsed }
      rw [State.setFrames_setFrames, State.setFrames_self ht]
      rfl
    · show T.slotsUsed = T.slotsUsed + ((T.heap.toList.drop T.heap.size).map (·.slots.size)).sum
      rw [List.drop_eq_nil_of_le (Nat.le_of_eq Array.length_toList)]
      rfl
    · show ((T.heap.toList.drop T.heap.size).map (·.slots.size)).sum ≤ 0
      rw [List.drop_eq_nil_of_le (Nat.le_of_eq Array.length_toList)]
      exact Nat.le_refl _
/-- 'throw new E()': new; dup; invokespecial; athrow -/
theorem vx_throw0 {cc : ByteArray} {pc : Nat} (hexec : p.tables.exec = Jvm.exec) (hb : c.code = cc) (hl : l.stackTraces = false) {own cls : String} {names : List String} {ik ic mc ms : Nat} {A : Nat → Prop}
    (hown : s.vm.findClass own = some m.cls) (hcls : Bundle.fit cls = true) (hnames : ∀ n ∈ names, Bundle.fit n = true)
    (hk : (Cond.classLink own ik cls).before args s = true) (hini : (Cond.initialized cls).before args s = true) (hat : ∀ w ∈ vx_at0 own ic cls names, w.before args s = true)
    (hgood : ∀ w ∈ Cond.classLink own ik cls :: Cond.initialized cls :: vx_at0 own ic cls names, vx_ot w = true)
    (hU : vx_Zq Bundle.tN "UNASSIGNED_STACK" Bundle.steD A s s.heap) (hN : vx_Zq Bundle.tN "SUPPRESSED_SENTINEL" Bundle.listD A s s.heap) (hS : va_S A s.heap H locs) (hsize : ls.size = c.maxLocals)
    (d0 : decode cc pc = .ok (.new ik, 3)) (d3 : decode cc (pc + 3) = .ok (.dup, 1)) (d4 : decode cc (pc + 4) = .ok (.invokespecial ic, 3)) (d7 : decode cc (pc + 7) = .ok (.athrow, 1))
    (hout : ∀ x ∈ c.exceptionTable.toList, covers x (pc + 7) = false)
    (hRframes : names.length + 3 < R.frames) (hRlocals : (rest.map fun v => v.category).sum + (13 * (names.length + 1) + 42) ≤ R.locals) (hRcells : cells + 1 ≤ R.cells) (hRslots : slots + 6 ≤ R.slots) (hlocks : meth.locks = false)
    (hx : ∀ t : State, s.vm.Alike t.vm → H.size ≤ t.heap.size → (∀ q : Nat, q < H.size → t.heap[q]? = H[q]?) → XC cls s t)
    (hf : ∀ z ∈ locs, free z.base) (hc : cells + 1 ≤ mc) (hs : slots + 6 ≤ ms) :
    W p l e R s m args below meth c H locs cells slots (vx_MQ below Qc XC args s mc ms free) (F0 m pc ls rest) := by
  intro T hT X
  have htr : e.platform.stackTraces = false := (show e.platform.stackTraces = l.stackTraces by rw [X.admits.platform]).trans hl
  have Y := vx_rebase X (R' := { frames := R.frames, locals := R.locals, cells := 1, slots := 6 }) (Nat.le_refl _) (Nat.le_refl _) hRcells hRslots
  obtain ⟨s', hA⟩ : ∃ z, z = (T.setVm s.vm).setFrames (.invoking m args :: below) := ⟨_, rfl⟩
  rw [← hA] at Y
  have hvm : s'.vm = s.vm := by rw [hA]; rfl
  have hhp : s'.heap = H := by rw [hA]; exact hT
  have hW0 : s.WarmedH s'.vm := by rw [hvm]; exact State.WarmedH.refl s
  have hat' : ∀ w ∈ vx_at0 own ic cls names, w.before args s' = true := fun w hw => vx_ot_at hW0 hvm.symm (hgood w (List.mem_cons_of_mem _ (List.mem_cons_of_mem _ hw))) (hat w hw)
  have hk' : (Cond.classLink own ik cls).before args s' = true := vx_ot_at hW0 hvm.symm (hgood _ List.mem_cons_self) hk
  have hini' : (Cond.initialized cls).before args s' = true := vx_ot_at hW0 hvm.symm (hgood _ (List.mem_cons_of_mem _ List.mem_cons_self)) hini
  have hU' : vx_Zq Bundle.tN "UNASSIGNED_STACK" Bundle.steD A s' s'.heap := by rw [hhp]; exact vx_Zq.moved hW0.alike (hU.kept hS.2.1)
  have hN' : vx_Zq Bundle.tN "SUPPRESSED_SENTINEL" Bundle.listD A s' s'.heap := by rw [hhp]; exact vx_Zq.moved hW0.alike (hN.kept hS.2.1)
  have h : ∀ w ∈ Bundle.ownAtoms0 own ic cls names, w.before args s' = true := vx_own hat' (vx_isRefq hU'.1) (vx_isRefq hN'.1) hU'.2.word hN'.2.word
  have hown' : s'.vm.findClass own = some m.cls := by rw [hvm]; exact hown
  have hins : (Cond.instantiable cls 6).before args s' = true := h _ (by simp [Bundle.ownAtoms0])
  obtain ⟨vm₁, cX, kX, hfX, hkX, -, -, X₁, st1⟩ := Y.newCold hexec (own := own) (C := cls) (index := ik) (n := 6) hown' hk' hins hini'
    (g := F0 m pc ls rest) rfl (by rw [hb]; exact d0) (Nat.le_refl _) (Nat.le_refl _)
  generalize hT1 : (T.setVm vm₁).pushCell { cls := cX, slots := kX.instanceTypes.map defaultValue, vm := .none } = T1 at X₁ st1
  have hcat : (Value.ref T.heap.size).category = 1 := rfl
  have hcellA : T1.heap[T.heap.size]? = some (freshCell cX kX) := by rw [← hT1]; exact State.heap_pushCell_size _ _
  have d3' : decode c.code (pc + 3) = .ok (.dup, 1) := by rw [hb]; exact d3
  obtain ⟨U, hsteps, hrun, hend, hW, hsame, ce, hce, hO⟩ := X₁.ctorThrow0 hexec htr (own := own) (cls := cls) (names := names) (ic := ic) hown' hcls hnames h (fun x hx => nomatch hx) hfX hkX hcellA (by rw [hhp, hT]; exact Nat.le_refl _)
    (g := { method := m, pc := pc + 4, locals := ls, stack := .ref T.heap.size :: .ref T.heap.size :: rest, locked := none }) rfl hsize rfl rfl (rest := rest) rfl
    (by rw [hb]; exact d4) (by rw [hb]; exact d7) hout hRframes (by simp only [List.map_cons, List.sum_cons, hcat]; omega) hlocks
  obtain ⟨f1, f2⟩ := vx_frame hsame
  rw [hhp] at f1 f2
  have hWs : s.WarmedH U.vm := State.WarmedH.trans hW0 hW
  have hcl : s.vm.findClass cls = some ce.cls := by
    have h9 := hO.cls
    rw [hvm] at h9
    exact h9
  have hall : s.sameButNew ({ U with vm := s.vm } : State) locs mc ms := by
    subst hA
    obtain ⟨e1, e2⟩ := hsame
    rw [State.setFrames_setFrames] at e1
    have h2 : (T.setVm s.vm).sameButNew ({ U with vm := s.vm } : State) [] (0 + 1) (0 + 6) := ⟨e1, e2⟩
    have h3 := X.same.trans h2
    rw [List.append_nil] at h3
    exact h3.mono hc hs
  refine ⟨U, ?_, .threw T.heap.size, hrun, hend, Or.inr ⟨T.heap.size, rfl, cls, ce, locs, hx U hWs.alike f1 (fun q hq => f2 q hq (fun z hz => nomatch hz)), hce, hO.vm, hcl, hWs, hall, hf⟩⟩
  refine st1 _ ?_
  show Steps p.tables e below (T1.setTop { method := m, pc := pc + 3, locals := ls, stack := .ref T.heap.size :: rest, locked := none }) _
  jvm_step X₁.here [X₁.here.top, hexec, d3', Value.category]
  exact hsteps
/-- 'throw new E("text")': new; dup; ldc; invokespecial; athrow -/
theorem vx_throwS {cc : ByteArray} {pc : Nat} (hexec : p.tables.exec = Jvm.exec) (hb : c.code = cc) (hl : l.stackTraces = false) {own cls text : String} {names : List String} {ik is ic mc ms sa : Nat} {A : Nat → Prop}
    (hown : s.vm.findClass own = some m.cls) (hcls : Bundle.fit cls = true) (hnames : ∀ n ∈ names, Bundle.fit n = true)
    (hk : (Cond.classLink own ik cls).before args s = true) (hini : (Cond.initialized cls).before args s = true) (hstr : vk_R own is text sa s) (hat : ∀ w ∈ vx_atS own ic cls names, w.before args s = true)
    (hgood : ∀ w ∈ Cond.classLink own ik cls :: Cond.initialized cls :: vx_atS own ic cls names, vx_ot w = true)
    (hU : vx_Zq Bundle.tN "UNASSIGNED_STACK" Bundle.steD A s s.heap) (hN : vx_Zq Bundle.tN "SUPPRESSED_SENTINEL" Bundle.listD A s s.heap) (hS : va_S A s.heap H locs) (hsize : ls.size = c.maxLocals)
    (d0 : decode cc pc = .ok (.new ik, 3)) (d3 : decode cc (pc + 3) = .ok (.dup, 1)) (d4 : decode cc (pc + 4) = .ok (.ldc is, 2)) (d6 : decode cc (pc + 6) = .ok (.invokespecial ic, 3)) (d9 : decode cc (pc + 9) = .ok (.athrow, 1))
    (hout : ∀ x ∈ c.exceptionTable.toList, covers x (pc + 9) = false)
    (hRframes : names.length + 3 < R.frames) (hRlocals : (rest.map fun v => v.category).sum + (13 * (names.length + 1) + 43) ≤ R.locals) (hRcells : cells + 1 ≤ R.cells) (hRslots : slots + 6 ≤ R.slots) (hlocks : meth.locks = false)
    (hx : ∀ t : State, s.vm.Alike t.vm → H.size ≤ t.heap.size → (∀ q : Nat, q < H.size → t.heap[q]? = H[q]?) → XC cls s t)
    (hf : ∀ z ∈ locs, free z.base) (hc : cells + 1 ≤ mc) (hs : slots + 6 ≤ ms) :
    W p l e R s m args below meth c H locs cells slots (vx_MQ below Qc XC args s mc ms free) (F0 m pc ls rest) := by
  intro T hT X
  have htr : e.platform.stackTraces = false := (show e.platform.stackTraces = l.stackTraces by rw [X.admits.platform]).trans hl
  have Y := vx_rebase X (R' := { frames := R.frames, locals := R.locals, cells := 1, slots := 6 }) (Nat.le_refl _) (Nat.le_refl _) hRcells hRslots
  obtain ⟨s', hA⟩ : ∃ z, z = (T.setVm s.vm).setFrames (.invoking m args :: below) := ⟨_, rfl⟩
  rw [← hA] at Y
  have hvm : s'.vm = s.vm := by rw [hA]; rfl
  have hhp : s'.heap = H := by rw [hA]; exact hT
  have hW0 : s.WarmedH s'.vm := by rw [hvm]; exact State.WarmedH.refl s
  have hat' : ∀ w ∈ vx_atS own ic cls names, w.before args s' = true := fun w hw => vx_ot_at hW0 hvm.symm (hgood w (List.mem_cons_of_mem _ (List.mem_cons_of_mem _ hw))) (hat w hw)
  have hk' : (Cond.classLink own ik cls).before args s' = true := vx_ot_at hW0 hvm.symm (hgood _ List.mem_cons_self) hk
  have hini' : (Cond.initialized cls).before args s' = true := vx_ot_at hW0 hvm.symm (hgood _ (List.mem_cons_of_mem _ List.mem_cons_self)) hini
  have hU' : vx_Zq Bundle.tN "UNASSIGNED_STACK" Bundle.steD A s' s'.heap := by rw [hhp]; exact vx_Zq.moved hW0.alike (hU.kept hS.2.1)
  have hN' : vx_Zq Bundle.tN "SUPPRESSED_SENTINEL" Bundle.listD A s' s'.heap := by rw [hhp]; exact vx_Zq.moved hW0.alike (hN.kept hS.2.1)
  have h : ∀ w ∈ Bundle.ownAtoms own ic cls names, w.before args s' = true := vx_own hat' (vx_isRefq hU'.1) (vx_isRefq hN'.1) hU'.2.word hN'.2.word
  have hown' : s'.vm.findClass own = some m.cls := by rw [hvm]; exact hown
  have hins : (Cond.instantiable cls 6).before args s' = true := h _ (by simp [Bundle.ownAtoms])
  obtain ⟨vm₁, cX, kX, hfX, hkX, -, -, X₁, st1⟩ := Y.newCold hexec (own := own) (C := cls) (index := ik) (n := 6) hown' hk' hins hini'
    (g := F0 m pc ls rest) rfl (by rw [hb]; exact d0) (Nat.le_refl _) (Nat.le_refl _)
  generalize hT1 : (T.setVm vm₁).pushCell { cls := cX, slots := kX.instanceTypes.map defaultValue, vm := .none } = T1 at X₁ st1
  have hcat : (Value.ref T.heap.size).category = 1 := rfl
  have hcellA : T1.heap[T.heap.size]? = some (freshCell cX kX) := by rw [← hT1]; exact State.heap_pushCell_size _ _
  have d3' : decode c.code (pc + 3) = .ok (.dup, 1) := by rw [hb]; exact d3
  have d4' : decode c.code (pc + 4) = .ok (.ldc is, 2) := by rw [hb]; exact d4
  have hstr' : vk_R own is text sa s' := vk_R.warm hW0 hstr
  obtain ⟨U, hsteps, hrun, hend, hW, hsame, ce, hce, hO⟩ := X₁.ctorThrowS hexec htr (own := own) (cls := cls) (names := names) (ic := ic) hown' hcls hnames h (fun x hx => nomatch hx) hfX hkX hcellA (by rw [hhp, hT]; exact Nat.le_refl _) (msg := .ref sa) rfl
    (g := { method := m, pc := pc + 6, locals := ls, stack := .ref sa :: .ref T.heap.size :: .ref T.heap.size :: rest, locked := none }) rfl hsize rfl rfl (rest := rest) rfl
    (by rw [hb]; exact d6) (by rw [hb]; exact d9) hout hRframes (by simp only [List.map_cons, List.sum_cons, hcat]; omega) hlocks
  obtain ⟨f1, f2⟩ := vx_frame hsame
  rw [hhp] at f1 f2
  have hWs : s.WarmedH U.vm := State.WarmedH.trans hW0 hW
  have hcl : s.vm.findClass cls = some ce.cls := by
    have h9 := hO.cls
    rw [hvm] at h9
    exact h9
  have hall : s.sameButNew ({ U with vm := s.vm } : State) locs mc ms := by
    subst hA
    obtain ⟨e1, e2⟩ := hsame
    rw [State.setFrames_setFrames] at e1
    have h2 : (T.setVm s.vm).sameButNew ({ U with vm := s.vm } : State) [] (0 + 1) (0 + 6) := ⟨e1, e2⟩
    have h3 := X.same.trans h2
    rw [List.append_nil] at h3
    exact h3.mono hc hs
  refine ⟨U, ?_, .threw T.heap.size, hrun, hend, Or.inr ⟨T.heap.size, rfl, cls, ce, locs, hx U hWs.alike f1 (fun q hq => f2 q hq (fun z hz => nomatch hz)), hce, hO.vm, hcl, hWs, hall, hf⟩⟩
  refine st1 _ ?_
  show Steps p.tables e below (T1.setTop { method := m, pc := pc + 3, locals := ls, stack := .ref T.heap.size :: rest, locked := none }) _
  jvm_step X₁.here [X₁.here.top, hexec, d3', Value.category]
  exact X₁.ldcString hexec (own := own) (text := text) (index := is) (a := sa) hown' hstr'.1 hstr'.2
    (g := { method := m, pc := pc + 4, locals := ls, stack := .ref T.heap.size :: .ref T.heap.size :: rest, locked := none }) rfl d4' _ hsteps
/-- 'throw new E("text")', the text by a wide index -/
theorem vx_throwSW {cc : ByteArray} {pc : Nat} (hexec : p.tables.exec = Jvm.exec) (hb : c.code = cc) (hl : l.stackTraces = false) {own cls text : String} {names : List String} {ik is ic mc ms sa : Nat} {A : Nat → Prop}
    (hown : s.vm.findClass own = some m.cls) (hcls : Bundle.fit cls = true) (hnames : ∀ n ∈ names, Bundle.fit n = true)
    (hk : (Cond.classLink own ik cls).before args s = true) (hini : (Cond.initialized cls).before args s = true) (hstr : vk_R own is text sa s) (hat : ∀ w ∈ vx_atS own ic cls names, w.before args s = true)
    (hgood : ∀ w ∈ Cond.classLink own ik cls :: Cond.initialized cls :: vx_atS own ic cls names, vx_ot w = true)
    (hU : vx_Zq Bundle.tN "UNASSIGNED_STACK" Bundle.steD A s s.heap) (hN : vx_Zq Bundle.tN "SUPPRESSED_SENTINEL" Bundle.listD A s s.heap) (hS : va_S A s.heap H locs) (hsize : ls.size = c.maxLocals)
    (d0 : decode cc pc = .ok (.new ik, 3)) (d3 : decode cc (pc + 3) = .ok (.dup, 1)) (d4 : decode cc (pc + 4) = .ok (.ldc_w is, 3)) (d7 : decode cc (pc + 7) = .ok (.invokespecial ic, 3)) (d10 : decode cc (pc + 10) = .ok (.athrow, 1))
    (hout : ∀ x ∈ c.exceptionTable.toList, covers x (pc + 10) = false)
    (hRframes : names.length + 3 < R.frames) (hRlocals : (rest.map fun v => v.category).sum + (13 * (names.length + 1) + 43) ≤ R.locals) (hRcells : cells + 1 ≤ R.cells) (hRslots : slots + 6 ≤ R.slots) (hlocks : meth.locks = false)
    (hx : ∀ t : State, s.vm.Alike t.vm → H.size ≤ t.heap.size → (∀ q : Nat, q < H.size → t.heap[q]? = H[q]?) → XC cls s t)
    (hf : ∀ z ∈ locs, free z.base) (hc : cells + 1 ≤ mc) (hs : slots + 6 ≤ ms) :
    W p l e R s m args below meth c H locs cells slots (vx_MQ below Qc XC args s mc ms free) (F0 m pc ls rest) := by
  intro T hT X
  have htr : e.platform.stackTraces = false := (show e.platform.stackTraces = l.stackTraces by rw [X.admits.platform]).trans hl
  have Y := vx_rebase X (R' := { frames := R.frames, locals := R.locals, cells := 1, slots := 6 }) (Nat.le_refl _) (Nat.le_refl _) hRcells hRslots
  obtain ⟨s', hA⟩ : ∃ z, z = (T.setVm s.vm).setFrames (.invoking m args :: below) := ⟨_, rfl⟩
  rw [← hA] at Y
  have hvm : s'.vm = s.vm := by rw [hA]; rfl
  have hhp : s'.heap = H := by rw [hA]; exact hT
  have hW0 : s.WarmedH s'.vm := by rw [hvm]; exact State.WarmedH.refl s
  have hat' : ∀ w ∈ vx_atS own ic cls names, w.before args s' = true := fun w hw => vx_ot_at hW0 hvm.symm (hgood w (List.mem_cons_of_mem _ (List.mem_cons_of_mem _ hw))) (hat w hw)
  have hk' : (Cond.classLink own ik cls).before args s' = true := vx_ot_at hW0 hvm.symm (hgood _ List.mem_cons_self) hk
  have hini' : (Cond.initialized cls).before args s' = true := vx_ot_at hW0 hvm.symm (hgood _ (List.mem_cons_of_mem _ List.mem_cons_self)) hini
  have hU' : vx_Zq Bundle.tN "UNASSIGNED_STACK" Bundle.steD A s' s'.heap := by rw [hhp]; exact vx_Zq.moved hW0.alike (hU.kept hS.2.1)
  have hN' : vx_Zq Bundle.tN "SUPPRESSED_SENTINEL" Bundle.listD A s' s'.heap := by rw [hhp]; exact vx_Zq.moved hW0.alike (hN.kept hS.2.1)
  have h : ∀ w ∈ Bundle.ownAtoms own ic cls names, w.before args s' = true := vx_own hat' (vx_isRefq hU'.1) (vx_isRefq hN'.1) hU'.2.word hN'.2.word
  have hown' : s'.vm.findClass own = some m.cls := by rw [hvm]; exact hown
  have hins : (Cond.instantiable cls 6).before args s' = true := h _ (by simp [Bundle.ownAtoms])
  obtain ⟨vm₁, cX, kX, hfX, hkX, -, -, X₁, st1⟩ := Y.newCold hexec (own := own) (C := cls) (index := ik) (n := 6) hown' hk' hins hini'
    (g := F0 m pc ls rest) rfl (by rw [hb]; exact d0) (Nat.le_refl _) (Nat.le_refl _)
  generalize hT1 : (T.setVm vm₁).pushCell { cls := cX, slots := kX.instanceTypes.map defaultValue, vm := .none } = T1 at X₁ st1
  have hcat : (Value.ref T.heap.size).category = 1 := rfl
  have hcellA : T1.heap[T.heap.size]? = some (freshCell cX kX) := by rw [← hT1]; exact State.heap_pushCell_size _ _
  have d3' : decode c.code (pc + 3) = .ok (.dup, 1) := by rw [hb]; exact d3
  have d4' : decode c.code (pc + 4) = .ok (.ldc_w is, 3) := by rw [hb]; exact d4
  have hstr' : vk_R own is text sa s' := vk_R.warm hW0 hstr
  obtain ⟨U, hsteps, hrun, hend, hW, hsame, ce, hce, hO⟩ := X₁.ctorThrowS hexec htr (own := own) (cls := cls) (names := names) (ic := ic) hown' hcls hnames h (fun x hx => nomatch hx) hfX hkX hcellA (by rw [hhp, hT]; exact Nat.le_refl _) (msg := .ref sa) rfl
    (g := { method := m, pc := pc + 7, locals := ls, stack := .ref sa :: .ref T.heap.size :: .ref T.heap.size :: rest, locked := none }) rfl hsize rfl rfl (rest := rest) rfl
    (by rw [hb]; exact d7) (by rw [hb]; exact d10) hout hRframes (by simp only [List.map_cons, List.sum_cons, hcat]; omega) hlocks
  obtain ⟨f1, f2⟩ := vx_frame hsame
  rw [hhp] at f1 f2
  have hWs : s.WarmedH U.vm := State.WarmedH.trans hW0 hW
  have hcl : s.vm.findClass cls = some ce.cls := by
    have h9 := hO.cls
    rw [hvm] at h9
    exact h9
  have hall : s.sameButNew ({ U with vm := s.vm } : State) locs mc ms := by
    subst hA
    obtain ⟨e1, e2⟩ := hsame
    rw [State.setFrames_setFrames] at e1
    have h2 : (T.setVm s.vm).sameButNew ({ U with vm := s.vm } : State) [] (0 + 1) (0 + 6) := ⟨e1, e2⟩
    have h3 := X.same.trans h2
    rw [List.append_nil] at h3
    exact h3.mono hc hs
  refine ⟨U, ?_, .threw T.heap.size, hrun, hend, Or.inr ⟨T.heap.size, rfl, cls, ce, locs, hx U hWs.alike f1 (fun q hq => f2 q hq (fun z hz => nomatch hz)), hce, hO.vm, hcl, hWs, hall, hf⟩⟩
  refine st1 _ ?_
  show Steps p.tables e below (T1.setTop { method := m, pc := pc + 3, locals := ls, stack := .ref T.heap.size :: rest, locked := none }) _
  jvm_step X₁.here [X₁.here.top, hexec, d3', Value.category]
  exact X₁.ldcStringW hexec (own := own) (text := text) (index := is) (a := sa) hown' hstr'.1 hstr'.2
    (g := { method := m, pc := pc + 4, locals := ls, stack := .ref T.heap.size :: .ref T.heap.size :: rest, locked := none }) rfl d4' _ hsteps
end Ends
section Bodies
variable {l : Launch}
theorem vx_ofW {y : MethodName} {ws ws' : List Cond} {rm : Room} {Pc : Array Value → State → Prop} {Qc : Array Value → State → Outcome → State → Prop} {XC : String → State → State → Prop} {mc ms : Nat} {free : Addr → Prop} {cc : ByteArray} {maxL : Nat} {ret : Option FieldType}
    (hy : plainName y.cls = true) (hw : ws = Cond.code y cc maxL ret :: ws')
    (body : ∀ p e s m args below meth c s₁, BodyLoose p l y (headSpec ws rm) cc maxL ret e s m args below meth c s₁ → c.maxLocals = maxL → (∀ x ∈ c.exceptionTable.toList, False) → Pc args s →
      W p l e (headSpec ws rm).room s m args below meth c s.heap [] 0 0 (vx_MQ below Qc XC args s mc ms free) (entryFrame m args maxL)) : vx_Met l y ws rm Pc Qc XC mc ms free := by
  refine MetFree.of_bodyS (code := cc) (maxLocals := maxL) (ret := ret) hy ?_ ?_
  · intro args s m h hn
    obtain ⟨meth, c, h1, h2, h3, h4, h5, h6, -, -⟩ := Cond.code_spec hn (atoms_spec (ws := ws) h _ (by rw [hw]; exact List.mem_cons_self))
    exact ⟨meth, c, h1, h2, h3, h4, h5, h6⟩
  · intro p e s m args below meth c s₁ B hml hP _
    have hh0 : s₁.heap = s.heap := by rw [B.state]; rfl
    have ht : ∀ x ∈ c.exceptionTable.toList, False := by
      obtain ⟨meth9, c9, h1, h2, -, -, -, -, h7, -⟩ := Cond.code_spec B.named (atoms_spec (ws := ws) B.pre _ (by rw [hw]; exact List.mem_cons_self))
      cases Option.some.inj (h1.symm.trans B.method)
      cases Option.some.inj (h2.symm.trans (Stand.of_body B).code)
      intro x hx
      rw [Array.isEmpty_iff.mp h7] at hx
      cases hx
    obtain ⟨t, a1, o, b1, b2, b3⟩ := body p e s m args below meth c s₁ B hml ht hP s₁ hh0 (Stand.of_body B)
    exact ⟨t, o, a1, b1, b2, b3⟩
/-- the table of a body with handlers -/
theorem vx_table {p : Program} {x y : MethodName} {S : Spec} {cc bytes : ByteArray} {maxL maxL' : Nat} {ret ret' : Option FieldType} {e : Env} {s s₁ : State} {m : MethodId} {args : Array Value} {below : List Frame} {meth : Method} {c : Code} {hh : List (Nat × Nat × Nat × Nat)}
    (B : BodyLoose p l y S cc maxL ret e s m args below meth c s₁) (h : (Cond.codeWith y bytes maxL' ret' hh).before args s = true) : c.exceptionTable.toList = tableOf hh := by
  obtain ⟨m9, meth9, c9, hn9, h1, h2, -, -, h6, -⟩ := Cond.codeWith_spec h
  cases Option.some.inj (hn9.symm.trans B.named)
  cases Option.some.inj (h1.symm.trans B.method)
  cases Option.some.inj (h2.symm.trans (Stand.of_body B).code)
  rw [← h6, table_eq]
end Bodies
end VXA
/-! ===== END ===== -/
/-! ===== BEGIN a static call of a method with an exception table ===== -/
section VXS
variable {p : Program} {l : Launch} {e : Env} {R : Room} {s : State} {m : MethodId} {args : Array Value} {below : List Frame} {meth : Method} {c : Code} {T : State} {H : Heap} {locs : List Loc} {cells slots : Nat}
abbrev vx_CSW (R : Room) (s : State) (args : Array Value) (own : String) (index : Nat) (y : MethodName) (bytes : ByteArray) (maxL : Nat) (ret : Option FieldType) (hh : List (Nat × Nat × Nat × Nat)) (ws : List Cond) (rm : Room) (mc ms n : Nat) : Prop :=
  (rm.cells = mc ∧ rm.slots = ms ∧ rm.frames + 1 ≤ R.frames ∧ 8 + (maxL + 11) + rm.locals ≤ R.locals ∧ (∀ w ∈ ws, ∀ (a' : Array Value) (U : State), s.WarmedH U.vm → w.before a' U = true) ∧ Cond.codeWith y bytes maxL ret hh ∈ ws) ∧
  (Cond.codeWith y bytes maxL ret hh).before args s = true ∧ (Cond.initialized y.cls).before args s = true ∧ (y.cls ≠ "java/lang/invoke/MethodHandle" ∧ y.cls ≠ "java/lang/invoke/VarHandle") ∧
  (∀ sig, parseMethodDescriptor y.desc = some sig → n = sig.parameters.length) ∧ (Cond.methodLink own index y).before args s = true ∧ (Cond.static y).before args s = true
theorem vx_cwSW {own : String} {index maxL mc ms : Nat} {y : MethodName} {bytes : ByteArray} {ret : Option FieldType} {hh : List (Nat × Nat × Nat × Nat)} {Ts ws ws' : List Cond} {rm : Room} (n : Nat) (ht : ∀ w ∈ Ts, w.before args s = true) (hT : GoodIn Ts (va_wsS own index y ws)) (hw : ws = Cond.codeWith y bytes maxL ret hh :: ws') (hrc : rm.cells = mc) (hrs : rm.slots = ms)
    (hd : y.cls ≠ "java/lang/invoke/MethodHandle" ∧ y.cls ≠ "java/lang/invoke/VarHandle" ∧ (parseMethodDescriptor y.desc).map (fun d => d.parameters.length) = some n) (hR : rm.frames + 1 ≤ R.frames ∧ 8 + (maxL + 11) + rm.locals ≤ R.locals) :
    vx_CSW R s args own index y bytes maxL ret hh ws rm mc ms n := by
  have ok : ∀ w ∈ va_wsS own index y ws, w.before args s = true := fun w h => ht w (hT w h).1
  have hG : GoodIn Ts ws := fun w h => hT w (by unfold va_wsS; exact List.mem_append_right _ h)
  have hc : Cond.codeWith y bytes maxL ret hh ∈ ws := by rw [hw]; exact List.mem_cons_self
  refine ⟨⟨hrc, hrs, hR.1, hR.2, pay_in ht hG, hc⟩, ht _ (hG _ hc).1, ok _ (by simp [va_wsS]), ⟨hd.1, hd.2.1⟩, fun sig h => ?_, ok _ (by simp [va_wsS]), ok _ (by simp [va_wsS])⟩
  have h2 := hd.2.2
  rw [h] at h2
  exact (Option.some.inj h2).symm
theorem vx_callSW (X : Stand p l e R s m args below meth c T locs cells slots) (hexec : p.tables.exec = Jvm.exec) {own : String} {index : Nat} {y : MethodName} {bytes : ByteArray} {maxL : Nat} {ret : Option FieldType} {hh : List (Nat × Nat × Nat × Nat)}
    (hown : s.vm.findClass own = some m.cls) (hlink : (Cond.methodLink own index y).before args s = true) (hstat : (Cond.static y).before args s = true) (hinit : (Cond.initialized y.cls).before args s = true)
    (hcode : (Cond.codeWith y bytes maxL ret hh).before args s = true) (hy : y.cls ≠ "java/lang/invoke/MethodHandle" ∧ y.cls ≠ "java/lang/invoke/VarHandle")
    {W9 : Nat} {Pre : Pt → Array Value → Prop} {Post : Pt → Array Value → Option Value → Pt → Prop} (hK : Back l R p e below s args y 3 W9 Pre Post)
    {g : JFrame} (hg : g.method = m) (hsize : g.locals.size = c.maxLocals) {argsL rest : List Value} (hlen : ∀ sig, parseMethodDescriptor y.desc = some sig → argsL.length = sig.parameters.length)
    (hstack : g.stack = argsL.reverse ++ rest) (hW : 2 * g.monitorRoom + (rest.map fun v => v.category).sum ≤ W9) (hdg : decode c.code g.pc = .ok (.invokestatic index, 3))
    (hpre : ∀ vm₁, s.WarmedH vm₁ → Pre ⟨T.setVm vm₁, locs, cells, slots⟩ argsL.toArray) :
    ∃ (v : Option Value) (vm₁ : Vm) (B : Pt), s.WarmedH vm₁ ∧ Stand p l e R s m args below meth c B.U B.locs B.cells B.slots ∧ Post ⟨T.setVm vm₁, locs, cells, slots⟩ argsL.toArray v B ∧
      ∀ target, Steps p.tables e below (B.U.setTop { g with pc := g.pc + 3, stack := v.toList ++ rest }) target → Steps p.tables e below (T.setTop g) target := by
  obtain ⟨mk, methM, cM, hnamed, hmethM, -, -, -, -, -, -, hsigM⟩ := Cond.codeWith_spec hcode
  have hstatic : methM.isStatic = true := Cond.static_spec hnamed hmethM hstat
  obtain ⟨kP, hkP, -⟩ := className_of_methodNamed hnamed
  have hinitP : kP.init = .initialized := Cond.initialized_spec (findClass_of_methodNamed hnamed) hkP hinit
  obtain ⟨vm₁, X₁, hstep₁⟩ := X.invokestatic hexec hown hlink hnamed hmethM hstatic hkP hinitP hy (g := g) hg (argsL := argsL) (rest := rest) (hlen _ hsigM) hstack hdg
  obtain ⟨v, B, X', hpost, hsteps⟩ := hK m meth c ⟨T.setVm vm₁, locs, cells, slots⟩ { g with stack := rest } (.invokestatic index) mk argsL.toArray X₁ hg hsize hdg hW (X₁.named hnamed) (hpre vm₁ X₁.warmed)
  exact ⟨v, vm₁, B, X₁.warmed, X', hpost, fun target h => hstep₁ _ fun acts => by rw [doInvoke_state]; exact hsteps.trans h⟩
theorem vx_runSW {y : MethodName} {bytes cc : ByteArray} {maxL nL mc ms n index : Nat} {ret : Option FieldType} {hh : List (Nat × Nat × Nat × Nat)} {ws : List Cond} {rm : Room} {Pc : Array Value → State → Prop} {Qc : Array Value → State → Outcome → State → Prop} {free : Addr → Prop} {Ts : List Cond} {own : String} {As rest : List Value} {g : JFrame}
    (S : CallFix p m c cc nL s args Ts own) (hM : Met l y ws rm Pc Qc mc ms free) (cw : vx_CSW R s args own index y bytes maxL ret hh ws rm mc ms n) (hp : PreS s H Pc As)
    (hg : g.method = m) (hn : As.length = n) (hsize : g.locals.size = nL) (hstack : g.stack = As.reverse ++ rest) (hW : 2 * g.monitorRoom + (rest.map fun v => v.category).sum ≤ 8) (hdg : decode cc g.pc = .ok (.invokestatic index, 3)) (hf : cells + mc ≤ R.cells ∧ slots + ms ≤ R.slots) :
    va_Run p l e R s m args below meth c H locs cells slots mc ms g rest (Qc As.toArray) (free) := by
  obtain ⟨⟨hrc, hrs, hfr, hlo, hws, hcw⟩, hcode, hini, hy, hlen, hl, hstt⟩ := cw
  have hK : Back l R p e below s args y 3 8 (PreOf R mc ms Pc) (PostOf Qc mc ms free) := va_backW (hh := hh) (bytes := bytes) (maxL := maxL) (ret := ret) hM hp.1 hrc hrs hfr hlo hws hcw (fun a' U hW => word_at hW (Or.inl (by first | rfl | simp [Cond.onTables, Cond.keeps, Cond.steady])) hini)
  obtain ⟨hx, hb, hml, ho, -⟩ := S
  intro T hT X
  obtain ⟨v, vm₁, ⟨U', l2, c2, s2⟩, hW₁, X', ⟨g', mk, t, L, e1, e2, hq, h1, hL, h2, h3⟩, st⟩ := vx_callSW X hx (hh := hh) (bytes := bytes) (maxL := maxL) (ret := ret) ho hl hstt hini hcode hy hK hg (hsize.trans hml.symm) (argsL := As) (rest := rest) (fun sig h => hn.trans (hlen sig h)) hstack hW (by rw [hb]; exact hdg)
    (fun vm₁ hW₁ => ⟨hf.1, hf.2, hp.2 (T.setVm vm₁) hT hW₁⟩)
  dsimp only [Pt.U, Pt.locs, Pt.cells, Pt.slots] at X' e1 e2 h1 h2 h3 st
  subst h1; subst h2; subst h3
  exact ⟨v, (T.setVm vm₁).calling g' mk As.toArray, t, U', L, hT, X', hL, e1, e2, hq, st⟩
/-- not caught here, past rows that name other classes: it goes on to the caller -/
theorem vx_outP {p : Program} {l : Launch} {e : Env} {R : Room} {s : State} {m : MethodId} {args : Array Value} {below : List Frame} {meth : Method} {c : Code} {H : Heap} {locs : List Loc} {cells slots : Nat} {free : Addr → Prop} {ls : Array Slot} {rest : List Value} {Qc : Array Value → State → Outcome → State → Prop} {XC : String → State → State → Prop}
    {pc : Nat} {own E : String} {ce : Cell} {q : Addr} {mc ms : Nat} (hown : s.vm.findClass own = some m.cls) (hlocks : meth.locks = false)
    (hpass : ∀ z ∈ c.exceptionTable.toList, covers z pc = false ∨ (z.catchType ≠ 0 ∧ ∃ nm : String, (Cond.classLink own z.catchType nm).before args s = true ∧ va_Nc E nm s)) (hcell : H[q]? = some ce) (hv : ce.vm = .none) (hcl : s.vm.findClass E = some ce.cls)
    (hx : ∀ t : State, t.heap = H → s.vm.Alike t.vm → XC E s t) (hf : ∀ z ∈ locs, free z.base) (hc : cells ≤ mc) (hs : slots ≤ ms) :
    vx_W p l e R s m args below meth c H locs cells slots (vx_MQ below Qc XC args s mc ms free) (F0 m pc ls rest) q := by
  intro T hT X
  have hpl : e.platform.magicAccessors = ({} : Platform).magicAccessors := by rw [X.admits.platform]
  obtain ⟨vm', hW', X', st⟩ := X.outThrough hlocks q (g := F0 m pc ls rest) rfl rfl rfl (cell := ce) (by rw [hT]; exact hcell) (by rw [hv]; rfl)
    (by obtain ⟨k9, h9, -⟩ := Vm.findClass_spec hcl; exact ⟨k9, h9⟩) (fun z hz => by
      rcases hpass z hz with h | ⟨hz0, nm, hl1, hn1⟩
      · exact Or.inl h
      · obtain ⟨c6, hc6, hcl6⟩ := Cond.classLink_spec hown hl1 e.platform hpl
        obtain ⟨a8, b8, h1, h2, h3⟩ := hn1
        cases Option.some.inj (h1.symm.trans hcl)
        cases Option.some.inj (h2.symm.trans hc6)
        exact Or.inr ⟨hz0, _, hcl6, h3⟩)
  obtain ⟨g₀, hfr⟩ := X'.frames_eq
  have hcell9 : ((T.setVm vm').setFrames (.throwing q :: below)).heap[q]? = some ce := by
    show T.heap[q]? = some ce
    rw [hT]; exact hcell
  have hend : Ended ((T.setVm vm').setFrames (.throwing q :: below)) below (.threw q) := State.frames_setFrames _ (State.cur_lt_of_frames hfr)
  refine ⟨(T.setVm vm').setFrames (.throwing q :: below), ?_, .threw q, X'.here.running, hend, Or.inr ⟨q, rfl, E, ce, locs, hx _ hT (X'.ends _).1.alike, hcell9, hv, hcl, (X'.ends _).1, (X'.ends _).2.mono hc hs, hf⟩⟩
  rw [X.pushThrowing_eq]
  exact st
/-- a thing of a world lies in the heap -/
theorem vx_lt {D : va_G} {cl : List vw_C} {ws : va_W} {H1 : Heap} (h : va_P D cl ws H1) {k : Nat} {q : Nat × va_E} (hk : ws[k]? = some q) : q.1 < H1.size := (h k q hk).lt
end VXS
/-! ===== END ===== -/
/-! ===== BEGIN methods with a table of their own: called by a name, returning or throwing ===== -/
section VXH
/-! vx_backW, vx_callVX, vx_callSX, vx_callVW, vx_runVW, vx_runVX, vx_runSX, vx_ofWH follow the same proofs as their sisters above (Free/Laws.lean, Shelf42/LK1.lean); vx_outP calls Shelf42/NT130.lean (outThrough). -/
section
variable {l : Launch} {R : Room} {p : Program} {e : Env} {below : List Frame} {s : State} {sargs : Array Value} {y : MethodName} {len W9 : Nat}
theorem vx_backW {ws : List Cond} {rm : Room} {Pc : Array Value → State → Prop} {Qc : Array Value → State → Outcome → State → Prop} {XC : String → State → State → Prop} {mc ms : Nat} {free : Addr → Prop} {bytes : ByteArray} {maxL : Nat} {ret : Option FieldType} {hh : List (Nat × Nat × Nat × Nat)}
    (hM : vx_Met l y ws rm Pc Qc XC mc ms free) (hblind : FrameBlind Pc) (hrc : rm.cells = mc) (hrs : rm.slots = ms)
    (hframes : rm.frames + 1 ≤ R.frames) (hlocals : W9 + (maxL + 11) + rm.locals ≤ R.locals)
    (hws : ∀ w ∈ ws, ∀ a' U, s.WarmedH U.vm → w.before a' U = true) (hcode : Cond.codeWith y bytes maxL ret hh ∈ ws) (hinit : ∀ a' U, s.WarmedH U.vm → (Cond.initialized y.cls).before a' U = true) :
    vx_Back l R p e below s sargs y len W9 (PreOf R mc ms Pc) (PostOf Qc mc ms free) (vx_Post XC mc ms free) := by
  intro m meth c A g ig mk a X hg hsize hdg hW hn hp
  have h1 : (headSpec ws rm).pre.before a A.U = true := atoms_intro fun w hw => hws w hw _ _ X.warmed
  have h2 : (Cond.codeWith y bytes maxL ret hh).before a A.U = true := hws _ hcode _ _ X.warmed
  have h3 : (Cond.initialized y.cls).before a A.U = true := hinit _ _ X.warmed
  have h4 : A.cells + (headSpec ws rm).room.cells ≤ R.cells := by rw [show (headSpec ws rm).room.cells = mc from hrc]; exact hp.1
  have h5 : A.slots + (headSpec ws rm).room.slots ≤ R.slots := by rw [show (headSpec ws rm).room.slots = ms from hrs]; exact hp.2.1
  have hPc : Pc a (A.U.calling g mk a) := hblind _ _ _ _ hp.2.2
  obtain ⟨U, Ls, c0, s0⟩ := A
  dsimp only [Pt.U, Pt.locs, Pt.cells, Pt.slots] at h1 h2 h3 h4 h5 X hn hPc ⊢
  obtain ⟨m9, methY, cY, hn9, hmY, hcY, -, hlY, -⟩ := Cond.codeWith_spec h2
  cases Option.some.inj (hn9.symm.trans hn)
  obtain ⟨kY, hkY, -⟩ := className_of_methodNamed hn
  have hinitY : kY.init = .initialized := Cond.initialized_spec (findClass_of_methodNamed hn) hkY h3
  have h : At U g.method c below := by rw [hg]; exact X.here
  have hlocals9 : W9 + (maxL + 11) + (headSpec ws rm).room.locals ≤ R.locals := hlocals
  have happ : (headSpec ws rm).appliesLoose y e.platform (U.calling g mk a) = true :=
    Spec.appliesLoose_calling (g := g) h hdg hn hkY hinitY
      (X.room_calling (g := g) (R' := (headSpec ws rm).room) hsize hmY hcY hframes (by rw [hlY]; omega) h4 h5) h1
  obtain ⟨mid, hmid⟩ := h.above
  have hfr : (U.setTop g).frames = (.java g :: mid) ++ below := by rw [State.frames_setTop' g h.top, hmid]; rfl
  obtain ⟨o, s₂, hsteps, -, hend, hq⟩ := Steps.callFree hM p X.admits X.cas X.clock (acts := []) hfr happ hPc trivial
  have hq' : vx_Q Qc XC mc ms free a (U.calling g mk a) o s₂ := hq
  rw [State.frames_setTop' g h.top] at hend
  obtain ⟨g₀, hg0⟩ := Option.isSome_iff_exists.mp h.top
  obtain ⟨r, hr⟩ := State.topJava?_eq_some.mp hg0
  have hr' : (({ U with heap := s₂.heap, slotsUsed := s₂.slotsUsed } : State).setVm s₂.vm).frames = .java g₀ :: r := hr
  rcases hq' with ⟨hqc, L, hfe, hL⟩ | ⟨q, rfl, E, ce, L, hx, hce, hcv, hcl, hW₂, hsm, hL⟩
  · obtain ⟨⟨v, rfl⟩, hW₂, e2, q2, q3, q4, q5, q6⟩ := id hfe
    have e3 : s₂ = ({ (U.calling g mk a).setFrames s₂.frames with heap := s₂.heap, slotsUsed := s₂.slotsUsed } : State).setVm s₂.vm := by
      have : s₂ = ({ s₂ with vm := (U.calling g mk a).vm } : State).setVm s₂.vm := rfl
      rw [e2] at this
      exact this
    obtain ⟨c₂, i₂, len₂, hc₂, hd₂, hf₂⟩ := hend
    have hW' : U.WarmedH s₂.vm := hW₂
    have hcc : c₂ = c := by
      have h1 : s₂.code? g.method = U.code? g.method := by
        rw [State.code?_eq, State.code?_eq, hW'.alike.method?]
      exact Option.some.inj (hc₂.symm.trans (h1.trans h.code))
    subst hcc
    have hlen : len₂ = len := by rw [hdg] at hd₂; cases hd₂; rfl
    subst hlen
    have hs₂ : s₂ = (({ U with heap := s₂.heap, slotsUsed := s₂.slotsUsed } : State).setVm s₂.vm).setTop { g with pc := g.pc + len₂, stack := v.toList ++ g.stack } := by
      refine e3.trans ?_
      rw [hf₂, State.calling_eq h.top, State.setFrames_setFrames, State.setTop_of_frames _ hr', hr]
      rfl
    have hsame : U.sameButNew ({ U with heap := s₂.heap, slotsUsed := s₂.slotsUsed } : State) L mc ms := by
      refine ⟨?_, q2, q3, q4, q5, q6⟩
      obtain ⟨t, ht, -⟩ := State.frames_cons hr
      show ({ U with heap := s₂.heap, slotsUsed := s₂.slotsUsed } : State) = { U.setFrames U.frames with heap := s₂.heap, slotsUsed := s₂.slotsUsed }
      rw [State.setFrames_self ht]
    subst hg
    refine Or.inl ⟨v, ⟨(({ U with heap := s₂.heap, slotsUsed := s₂.slotsUsed } : State).setVm s₂.vm), Ls ++ L, c0 + mc, s0 + ms⟩,
      ⟨X.admits, X.cas, X.clock, X.frames, X.room, X.hears, X.method, X.code, (X.here.setHeapUsed s₂.heap s₂.slotsUsed).setVm hW'.alike, X.tail, State.WarmedH.trans X.warmed hW', X.limits, X.bytes, X.same.trans (hsame.setVm s.vm)⟩,
      ⟨g, mk, s₂, L, rfl, rfl, hqc, rfl, hL, rfl, rfl⟩, ?_⟩
    show Steps p.tables e below _ ((({ U with heap := s₂.heap, slotsUsed := s₂.slotsUsed } : State).setVm s₂.vm).setTop { g with pc := g.pc + len₂, stack := v.toList ++ g.stack })
    rw [← hs₂]
    exact hsteps
  · obtain ⟨e2, q2, q3, q4, q5, q6⟩ := id hsm
    have e3 : s₂ = ({ (U.calling g mk a).setFrames s₂.frames with heap := s₂.heap, slotsUsed := s₂.slotsUsed } : State).setVm s₂.vm := by
      have : s₂ = ({ s₂ with vm := (U.calling g mk a).vm } : State).setVm s₂.vm := rfl
      rw [e2] at this
      exact this
    have hf₂ : s₂.frames = .throwing q :: .java g :: U.frames.tail := hend
    have hW' : U.WarmedH s₂.vm := hW₂
    have hs₂ : s₂ = ((({ U with heap := s₂.heap, slotsUsed := s₂.slotsUsed } : State).setVm s₂.vm).setTop g).pushFrame (.throwing q) := by
      refine e3.trans ?_
      rw [hf₂, State.calling_eq h.top, State.setFrames_setFrames, State.pushFrame, State.frames_setTop _ hr', State.setTop_of_frames _ hr', State.setFrames_setFrames, hr]
      rfl
    have hsame : U.sameButNew ({ U with heap := s₂.heap, slotsUsed := s₂.slotsUsed } : State) L mc ms := by
      refine ⟨?_, q2, q3, q4, q5, q6⟩
      obtain ⟨t, ht, -⟩ := State.frames_cons hr
      show ({ U with heap := s₂.heap, slotsUsed := s₂.slotsUsed } : State) = { U.setFrames U.frames with heap := s₂.heap, slotsUsed := s₂.slotsUsed }
      rw [State.setFrames_self ht]
    subst hg
    refine Or.inr ⟨q, ⟨(({ U with heap := s₂.heap, slotsUsed := s₂.slotsUsed } : State).setVm s₂.vm), Ls ++ L, c0 + mc, s0 + ms⟩,
      ⟨X.admits, X.cas, X.clock, X.frames, X.room, X.hears, X.method, X.code, (X.here.setHeapUsed s₂.heap s₂.slotsUsed).setVm hW'.alike, X.tail, State.WarmedH.trans X.warmed hW', X.limits, X.bytes, X.same.trans (hsame.setVm s.vm)⟩,
      ⟨g, mk, s₂, L, E, ce, rfl, rfl, hx, hce, hcv, hcl, rfl, hL, rfl, rfl⟩, ?_⟩
    show Steps p.tables e below _ (((({ U with heap := s₂.heap, slotsUsed := s₂.slotsUsed } : State).setVm s₂.vm).setTop g).pushFrame (.throwing q))
    rw [← hs₂]
    exact hsteps
end
variable {p : Program} {l : Launch} {e : Env} {R : Room} {s : State} {m : MethodId} {args : Array Value} {below : List Frame} {meth : Method} {c : Code} {T : State} {H : Heap} {locs : List Loc} {cells slots : Nat}
theorem vx_callVX (X : Stand p l e R s m args below meth c T locs cells slots) (hexec : p.tables.exec = Jvm.exec) {own C : String} {index : Nat} {y : MethodName} {bytes : ByteArray} {maxL : Nat} {ret : Option FieldType} {hh : List (Nat × Nat × Nat × Nat)}
    (hown : s.vm.findClass own = some m.cls) (hlink : (Cond.methodLink own index y).before args s = true) (hinst : (Cond.instanceMethod y).before args s = true) (hsel : (Cond.selects C y y).before args s = true)
    (hcode : (Cond.codeWith y bytes maxL ret hh).before args s = true) (hy : y.cls ≠ "java/lang/invoke/MethodHandle" ∧ y.cls ≠ "java/lang/invoke/VarHandle")
    {W9 : Nat} {Pre : Pt → Array Value → Prop} {Post : Pt → Array Value → Option Value → Pt → Prop} {PostX : Pt → Array Value → Addr → Pt → Prop} (hK : vx_Back l R p e below s args y 3 W9 Pre Post PostX)
    {b : Addr} {cellB : Cell} (hcell : T.heap[b]? = some cellB) (hobj : cellB.vm.isStatics = false) (hcls : s.vm.findClass C = some cellB.cls)
    {g : JFrame} (hg : g.method = m) (hsize : g.locals.size = c.maxLocals) {argsL rest : List Value} (hlen : ∀ sig, parseMethodDescriptor y.desc = some sig → argsL.length = sig.parameters.length)
    (hstack : g.stack = argsL.reverse ++ .ref b :: rest) (hW : 2 * g.monitorRoom + (rest.map fun v => v.category).sum ≤ W9) (hdg : decode c.code g.pc = .ok (.invokevirtual index, 3))
    (hpre : ∀ vm₁, s.WarmedH vm₁ → Pre ⟨T.setVm vm₁, locs, cells, slots⟩ (Value.ref b :: argsL).toArray) :
    (∃ (v : Option Value) (vm₁ : Vm) (B : Pt), s.WarmedH vm₁ ∧ Stand p l e R s m args below meth c B.U B.locs B.cells B.slots ∧ Post ⟨T.setVm vm₁, locs, cells, slots⟩ (Value.ref b :: argsL).toArray v B ∧
      ∀ target, Steps p.tables e below (B.U.setTop { g with pc := g.pc + 3, stack := v.toList ++ rest }) target → Steps p.tables e below (T.setTop g) target) ∨
    (∃ (q : Addr) (vm₁ : Vm) (B : Pt), s.WarmedH vm₁ ∧ Stand p l e R s m args below meth c B.U B.locs B.cells B.slots ∧ PostX ⟨T.setVm vm₁, locs, cells, slots⟩ (Value.ref b :: argsL).toArray q B ∧
      Steps p.tables e below (T.setTop g) ((B.U.setTop { g with stack := rest }).pushFrame (.throwing q))) := by
  obtain ⟨mk, methM, hnamed, hmethM, hstM, habM⟩ := Cond.instanceMethod_spec hinst
  obtain ⟨m8, methM', cM, hn8, hmethM', -, -, -, -, -, -, hsigM⟩ := Cond.codeWith_spec hcode
  cases Option.some.inj (hn8.symm.trans hnamed)
  cases hmethM.symm.trans hmethM'
  obtain ⟨c2, r2, m2, q1, q2, q3, q4, kP, hkP, hkPi⟩ := Cond.selects_spec hsel
  cases hcls.symm.trans q1
  cases (State.methodFound?_of_named hnamed hy).symm.trans q2
  cases hnamed.symm.trans q3
  have hselP : selectMethod e.platform s.vm cellB.cls mk = .method mk := by rw [Launch.admits_selectMethod X.admits]; exact q4
  obtain ⟨vm₁, X₁, hstep₁⟩ := X.invokevirtual hexec hown hlink hnamed hmethM hstM hkP hkPi hy (a := b) (cell := cellB) hcell
    (fun z h => by rw [h] at hobj; cases hobj) hselP hmethM habM hkP hkPi (g := g) hg (argsL := argsL) (rest := rest) (hlen _ hsigM) hstack hdg
  rcases hK m meth c ⟨T.setVm vm₁, locs, cells, slots⟩ { g with stack := rest } (.invokevirtual index) mk (Value.ref b :: argsL).toArray X₁ hg hsize hdg hW (X₁.named hnamed) (hpre vm₁ X₁.warmed) with ⟨v, B, X', hpost, hsteps⟩ | ⟨q, B, X', hpost, hsteps⟩
  · exact Or.inl ⟨v, vm₁, B, X₁.warmed, X', hpost, fun target h => hstep₁ _ fun acts => by rw [doInvoke_state]; exact hsteps.trans h⟩
  · exact Or.inr ⟨q, vm₁, B, X₁.warmed, X', hpost, hstep₁ _ fun acts => by rw [doInvoke_state]; exact hsteps⟩
theorem vx_callSX (X : Stand p l e R s m args below meth c T locs cells slots) (hexec : p.tables.exec = Jvm.exec) {own : String} {index : Nat} {y : MethodName} {bytes : ByteArray} {maxL : Nat} {ret : Option FieldType} {hh : List (Nat × Nat × Nat × Nat)}
    (hown : s.vm.findClass own = some m.cls) (hlink : (Cond.methodLink own index y).before args s = true) (hstat : (Cond.static y).before args s = true) (hinit : (Cond.initialized y.cls).before args s = true)
    (hcode : (Cond.codeWith y bytes maxL ret hh).before args s = true) (hy : y.cls ≠ "java/lang/invoke/MethodHandle" ∧ y.cls ≠ "java/lang/invoke/VarHandle")
    {W9 : Nat} {Pre : Pt → Array Value → Prop} {Post : Pt → Array Value → Option Value → Pt → Prop} {PostX : Pt → Array Value → Addr → Pt → Prop} (hK : vx_Back l R p e below s args y 3 W9 Pre Post PostX)
    {g : JFrame} (hg : g.method = m) (hsize : g.locals.size = c.maxLocals) {argsL rest : List Value} (hlen : ∀ sig, parseMethodDescriptor y.desc = some sig → argsL.length = sig.parameters.length)
    (hstack : g.stack = argsL.reverse ++ rest) (hW : 2 * g.monitorRoom + (rest.map fun v => v.category).sum ≤ W9) (hdg : decode c.code g.pc = .ok (.invokestatic index, 3))
    (hpre : ∀ vm₁, s.WarmedH vm₁ → Pre ⟨T.setVm vm₁, locs, cells, slots⟩ argsL.toArray) :
    (∃ (v : Option Value) (vm₁ : Vm) (B : Pt), s.WarmedH vm₁ ∧ Stand p l e R s m args below meth c B.U B.locs B.cells B.slots ∧ Post ⟨T.setVm vm₁, locs, cells, slots⟩ argsL.toArray v B ∧
      ∀ target, Steps p.tables e below (B.U.setTop { g with pc := g.pc + 3, stack := v.toList ++ rest }) target → Steps p.tables e below (T.setTop g) target) ∨
    (∃ (q : Addr) (vm₁ : Vm) (B : Pt), s.WarmedH vm₁ ∧ Stand p l e R s m args below meth c B.U B.locs B.cells B.slots ∧ PostX ⟨T.setVm vm₁, locs, cells, slots⟩ argsL.toArray q B ∧
      Steps p.tables e below (T.setTop g) ((B.U.setTop { g with stack := rest }).pushFrame (.throwing q))) := by
  obtain ⟨mk, methM, cM, hnamed, hmethM, -, -, -, -, -, -, hsigM⟩ := Cond.codeWith_spec hcode
  have hstatic : methM.isStatic = true := Cond.static_spec hnamed hmethM hstat
  obtain ⟨kP, hkP, -⟩ := className_of_methodNamed hnamed
  have hinitP : kP.init = .initialized := Cond.initialized_spec (findClass_of_methodNamed hnamed) hkP hinit
  obtain ⟨vm₁, X₁, hstep₁⟩ := X.invokestatic hexec hown hlink hnamed hmethM hstatic hkP hinitP hy (g := g) hg (argsL := argsL) (rest := rest) (hlen _ hsigM) hstack hdg
  rcases hK m meth c ⟨T.setVm vm₁, locs, cells, slots⟩ { g with stack := rest } (.invokestatic index) mk argsL.toArray X₁ hg hsize hdg hW (X₁.named hnamed) (hpre vm₁ X₁.warmed) with ⟨v, B, X', hpost, hsteps⟩ | ⟨q, B, X', hpost, hsteps⟩
  · exact Or.inl ⟨v, vm₁, B, X₁.warmed, X', hpost, fun target h => hstep₁ _ fun acts => by rw [doInvoke_state]; exact hsteps.trans h⟩
  · exact Or.inr ⟨q, vm₁, B, X₁.warmed, X', hpost, hstep₁ _ fun acts => by rw [doInvoke_state]; exact hsteps⟩
theorem vx_callVW (X : Stand p l e R s m args below meth c T locs cells slots) (hexec : p.tables.exec = Jvm.exec) {own C : String} {index : Nat} {y : MethodName} {bytes : ByteArray} {maxL : Nat} {ret : Option FieldType} {hh : List (Nat × Nat × Nat × Nat)}
    (hown : s.vm.findClass own = some m.cls) (hlink : (Cond.methodLink own index y).before args s = true) (hinst : (Cond.instanceMethod y).before args s = true) (hsel : (Cond.selects C y y).before args s = true)
    (hcode : (Cond.codeWith y bytes maxL ret hh).before args s = true) (hy : y.cls ≠ "java/lang/invoke/MethodHandle" ∧ y.cls ≠ "java/lang/invoke/VarHandle")
    {W9 : Nat} {Pre : Pt → Array Value → Prop} {Post : Pt → Array Value → Option Value → Pt → Prop} (hK : Back l R p e below s args y 3 W9 Pre Post)
    {b : Addr} {cellB : Cell} (hcell : T.heap[b]? = some cellB) (hobj : cellB.vm.isStatics = false) (hcls : s.vm.findClass C = some cellB.cls)
    {g : JFrame} (hg : g.method = m) (hsize : g.locals.size = c.maxLocals) {argsL rest : List Value} (hlen : ∀ sig, parseMethodDescriptor y.desc = some sig → argsL.length = sig.parameters.length)
    (hstack : g.stack = argsL.reverse ++ .ref b :: rest) (hW : 2 * g.monitorRoom + (rest.map fun v => v.category).sum ≤ W9) (hdg : decode c.code g.pc = .ok (.invokevirtual index, 3))
    (hpre : ∀ vm₁, s.WarmedH vm₁ → Pre ⟨T.setVm vm₁, locs, cells, slots⟩ (Value.ref b :: argsL).toArray) :
    ∃ (v : Option Value) (vm₁ : Vm) (B : Pt), s.WarmedH vm₁ ∧ Stand p l e R s m args below meth c B.U B.locs B.cells B.slots ∧ Post ⟨T.setVm vm₁, locs, cells, slots⟩ (Value.ref b :: argsL).toArray v B ∧
      ∀ target, Steps p.tables e below (B.U.setTop { g with pc := g.pc + 3, stack := v.toList ++ rest }) target → Steps p.tables e below (T.setTop g) target := by
  obtain ⟨mk, methM, hnamed, hmethM, hstM, habM⟩ := Cond.instanceMethod_spec hinst
  obtain ⟨m8, methM', cM, hn8, hmethM', -, -, -, -, -, -, hsigM⟩ := Cond.codeWith_spec hcode
  cases Option.some.inj (hn8.symm.trans hnamed)
  cases hmethM.symm.trans hmethM'
  obtain ⟨c2, r2, m2, q1, q2, q3, q4, kP, hkP, hkPi⟩ := Cond.selects_spec hsel
  cases hcls.symm.trans q1
  cases (State.methodFound?_of_named hnamed hy).symm.trans q2
  cases hnamed.symm.trans q3
  have hselP : selectMethod e.platform s.vm cellB.cls mk = .method mk := by rw [Launch.admits_selectMethod X.admits]; exact q4
  obtain ⟨vm₁, X₁, hstep₁⟩ := X.invokevirtual hexec hown hlink hnamed hmethM hstM hkP hkPi hy (a := b) (cell := cellB) hcell
    (fun z h => by rw [h] at hobj; cases hobj) hselP hmethM habM hkP hkPi (g := g) hg (argsL := argsL) (rest := rest) (hlen _ hsigM) hstack hdg
  obtain ⟨v, B, X', hpost, hsteps⟩ := hK m meth c ⟨T.setVm vm₁, locs, cells, slots⟩ { g with stack := rest } (.invokevirtual index) mk (Value.ref b :: argsL).toArray X₁ hg hsize hdg hW (X₁.named hnamed) (hpre vm₁ X₁.warmed)
  exact ⟨v, vm₁, B, X₁.warmed, X', hpost, fun target h => hstep₁ _ fun acts => by rw [doInvoke_state]; exact hsteps.trans h⟩
abbrev vx_CVW (R : Room) (s : State) (args : Array Value) (own C : String) (index : Nat) (y : MethodName) (bytes : ByteArray) (maxL : Nat) (ret : Option FieldType) (hh : List (Nat × Nat × Nat × Nat)) (ws : List Cond) (rm : Room) (mc ms n : Nat) : Prop :=
  (rm.cells = mc ∧ rm.slots = ms ∧ rm.frames + 1 ≤ R.frames ∧ 8 + (maxL + 11) + rm.locals ≤ R.locals ∧ (∀ w ∈ ws, ∀ (a' : Array Value) (U : State), s.WarmedH U.vm → w.before a' U = true) ∧ Cond.codeWith y bytes maxL ret hh ∈ ws) ∧
  (Cond.codeWith y bytes maxL ret hh).before args s = true ∧ (Cond.initialized y.cls).before args s = true ∧ (y.cls ≠ "java/lang/invoke/MethodHandle" ∧ y.cls ≠ "java/lang/invoke/VarHandle") ∧
  (∀ sig, parseMethodDescriptor y.desc = some sig → n = sig.parameters.length) ∧ (Cond.methodLink own index y).before args s = true ∧ (Cond.instanceMethod y).before args s = true ∧ (Cond.selects C y y).before args s = true
theorem vx_cwVW {own C : String} {index maxL mc ms : Nat} {y : MethodName} {bytes : ByteArray} {ret : Option FieldType} {hh : List (Nat × Nat × Nat × Nat)} {Ts ws ws' : List Cond} {rm : Room} (n : Nat) (ht : ∀ w ∈ Ts, w.before args s = true) (hT : GoodIn Ts (wsV own index C y ws)) (hw : ws = Cond.codeWith y bytes maxL ret hh :: ws') (hrc : rm.cells = mc) (hrs : rm.slots = ms)
    (hd : y.cls = C ∧ y.cls ≠ "java/lang/invoke/MethodHandle" ∧ y.cls ≠ "java/lang/invoke/VarHandle" ∧ (parseMethodDescriptor y.desc).map (fun d => d.parameters.length) = some n) (hR : rm.frames + 1 ≤ R.frames ∧ 8 + (maxL + 11) + rm.locals ≤ R.locals) :
    vx_CVW R s args own C index y bytes maxL ret hh ws rm mc ms n := by
  obtain ⟨hC, hd⟩ := hd
  subst hC
  have ok : ∀ w ∈ wsV own index y.cls y ws, w.before args s = true := fun w h => ht w (hT w h).1
  have hG : GoodIn Ts ws := fun w h => hT w (by unfold wsV; exact List.mem_append_right _ h)
  have hc : Cond.codeWith y bytes maxL ret hh ∈ ws := by rw [hw]; exact List.mem_cons_self
  refine ⟨⟨hrc, hrs, hR.1, hR.2, pay_in ht hG, hc⟩, ht _ (hG _ hc).1, ok _ (by simp [wsV]), ⟨hd.1, hd.2.1⟩, fun sig h => ?_, ok _ (by simp [wsV]), ok _ (by simp [wsV]), ok _ (by simp [wsV])⟩
  have h2 := hd.2.2
  rw [h] at h2
  exact (Option.some.inj h2).symm
theorem vx_runVW {y : MethodName} {bytes cc : ByteArray} {maxL nL mc ms n index : Nat} {ret : Option FieldType} {hh : List (Nat × Nat × Nat × Nat)} {ws : List Cond} {rm : Room} {Pc : Array Value → State → Prop} {Qc : Array Value → State → Outcome → State → Prop} {free : Addr → Prop} {Ts : List Cond} {own C : String} {b : Addr} {As rest : List Value} {g : JFrame}
    (S : CallFix p m c cc nL s args Ts own) (hM : Met l y ws rm Pc Qc mc ms free) (cw : vx_CVW R s args own C index y bytes maxL ret hh ws rm mc ms n) (hp : PreV s H C b Pc As)
    (hg : g.method = m) (hn : As.length = n) (hsize : g.locals.size = nL) (hstack : g.stack = As.reverse ++ .ref b :: rest) (hW : 2 * g.monitorRoom + (rest.map fun v => v.category).sum ≤ 8) (hdg : decode cc g.pc = .ok (.invokevirtual index, 3)) (hf : cells + mc ≤ R.cells ∧ slots + ms ≤ R.slots) :
    va_Run p l e R s m args below meth c H locs cells slots mc ms g rest (Qc (Value.ref b :: As).toArray) free := by
  obtain ⟨⟨hrc, hrs, hfr, hlo, hws, hcw⟩, hcode, hini, hy, hlen, hl, hin, hse⟩ := cw
  have hK : Back l R p e below s args y 3 8 (PreOf R mc ms Pc) (PostOf Qc mc ms free) := va_backW (hh := hh) (bytes := bytes) (maxL := maxL) (ret := ret) hM hp.1 hrc hrs hfr hlo hws hcw (fun a' U hW => word_at hW (Or.inl (by first | rfl | simp [Cond.onTables, Cond.keeps, Cond.steady])) hini)
  obtain ⟨hx, hb, hml, ho, -⟩ := S
  obtain ⟨-, ⟨cellB, hcB, hoB, hclB⟩, hPc⟩ := hp
  intro T hT X
  obtain ⟨v, vm₁, ⟨U', l2, c2, s2⟩, hW₁, X', ⟨g', mk, t, L, e1, e2, hq, h1, hL, h2, h3⟩, st⟩ := vx_callVW X hx (C := C) (hh := hh) (bytes := bytes) (maxL := maxL) (ret := ret) ho hl hin hse hcode hy hK (by rw [hT]; exact hcB) hoB hclB hg (hsize.trans hml.symm) (argsL := As) (rest := rest) (fun sig h => hn.trans (hlen sig h)) hstack hW (by rw [hb]; exact hdg)
    (fun vm₁ hW₁ => ⟨hf.1, hf.2, hPc (T.setVm vm₁) hT hW₁⟩)
  dsimp only [Pt.U, Pt.locs, Pt.cells, Pt.slots] at X' e1 e2 h1 h2 h3 st
  subst h1; subst h2; subst h3
  exact ⟨v, (T.setVm vm₁).calling g' mk (Value.ref b :: As).toArray, t, U', L, hT, X', hL, e1, e2, hq, st⟩
section
variable {y : MethodName} {bytes cc : ByteArray} {maxL nL mc ms n index : Nat} {ret : Option FieldType} {ws : List Cond} {rm : Room} {Pc : Array Value → State → Prop} {Qc : Array Value → State → Outcome → State → Prop} {XC : String → State → State → Prop} {free : Addr → Prop} {Ts : List Cond} {own C : String} {b : Addr} {As rest : List Value} {g : JFrame}
theorem vx_runVX {hh : List (Nat × Nat × Nat × Nat)} (S : CallFix p m c cc nL s args Ts own) (hM : vx_Met l y ws rm Pc Qc XC mc ms free) (cw : vx_CVW R s args own C index y bytes maxL ret hh ws rm mc ms n) (hp : PreV s H C b Pc As)
    (hg : g.method = m) (hn : As.length = n) (hsize : g.locals.size = nL) (hstack : g.stack = As.reverse ++ .ref b :: rest) (hW : 2 * g.monitorRoom + (rest.map fun v => v.category).sum ≤ 8) (hdg : decode cc g.pc = .ok (.invokevirtual index, 3)) (hf : cells + mc ≤ R.cells ∧ slots + ms ≤ R.slots) :
    vx_Run p l e R s m args below meth c H locs cells slots mc ms g rest (Qc (Value.ref b :: As).toArray) XC free := by
  obtain ⟨⟨hrc, hrs, hfr, hlo, hws, hcw⟩, hcode, hini, hy, hlen, hl, hin, hse⟩ := cw
  have hK : vx_Back l R p e below s args y 3 8 (PreOf R mc ms Pc) (PostOf Qc mc ms free) (vx_Post XC mc ms free) := vx_backW (hh := hh) (bytes := bytes) (maxL := maxL) (ret := ret) hM hp.1 hrc hrs hfr hlo hws hcw (fun a' U hW => word_at hW (Or.inl (by first | rfl | simp [Cond.onTables, Cond.keeps, Cond.steady])) hini)
  obtain ⟨hx, hb, hml, ho, -⟩ := S
  obtain ⟨-, ⟨cellB, hcB, hoB, hclB⟩, hPc⟩ := hp
  intro T hT X
  rcases vx_callVX X hx (C := C) (hh := hh) (bytes := bytes) (maxL := maxL) (ret := ret) ho hl hin hse hcode hy hK (by rw [hT]; exact hcB) hoB hclB hg (hsize.trans hml.symm) (argsL := As) (rest := rest) (fun sig h => hn.trans (hlen sig h)) hstack hW (by rw [hb]; exact hdg)
    (fun vm₁ hW₁ => ⟨hf.1, hf.2, hPc (T.setVm vm₁) hT hW₁⟩) with ⟨v, vm₁, ⟨U', l2, c2, s2⟩, hW₁, X', ⟨g', mk, t, L, e1, e2, hq, h1, hL, h2, h3⟩, st⟩ | ⟨q, vm₁, ⟨U', l2, c2, s2⟩, hW₁, X', ⟨g', mk, t, L, E, ce, e1, e2, hq, hce, hcv, hcl, h1, hL, h2, h3⟩, st⟩
  · dsimp only [Pt.U, Pt.locs, Pt.cells, Pt.slots] at X' e1 e2 h1 h2 h3 st
    subst h1; subst h2; subst h3
    exact Or.inl ⟨v, (T.setVm vm₁).calling g' mk (Value.ref b :: As).toArray, t, U', L, hT, X', hL, e1, e2, hq, st⟩
  · dsimp only [Pt.U, Pt.locs, Pt.cells, Pt.slots] at X' e1 e2 h1 h2 h3 st hcl
    subst h1; subst h2; subst h3
    exact Or.inr ⟨q, (T.setVm vm₁).calling g' mk (Value.ref b :: As).toArray, t, U', L, E, ce, hT, X', hL, e1, e2, hq, hce, hcv, vx_cls hW₁ hcl, st⟩
theorem vx_runSX {hh : List (Nat × Nat × Nat × Nat)} (S : CallFix p m c cc nL s args Ts own) (hM : vx_Met l y ws rm Pc Qc XC mc ms free) (cw : vx_CSW R s args own index y bytes maxL ret hh ws rm mc ms n) (hp : PreS s H Pc As)
    (hg : g.method = m) (hn : As.length = n) (hsize : g.locals.size = nL) (hstack : g.stack = As.reverse ++ rest) (hW : 2 * g.monitorRoom + (rest.map fun v => v.category).sum ≤ 8) (hdg : decode cc g.pc = .ok (.invokestatic index, 3)) (hf : cells + mc ≤ R.cells ∧ slots + ms ≤ R.slots) :
    vx_Run p l e R s m args below meth c H locs cells slots mc ms g rest (Qc As.toArray) XC free := by
  obtain ⟨⟨hrc, hrs, hfr, hlo, hws, hcw⟩, hcode, hini, hy, hlen, hl, hstt⟩ := cw
  have hK : vx_Back l R p e below s args y 3 8 (PreOf R mc ms Pc) (PostOf Qc mc ms free) (vx_Post XC mc ms free) := vx_backW (hh := hh) (bytes := bytes) (maxL := maxL) (ret := ret) hM hp.1 hrc hrs hfr hlo hws hcw (fun a' U hW => word_at hW (Or.inl (by first | rfl | simp [Cond.onTables, Cond.keeps, Cond.steady])) hini)
  obtain ⟨hx, hb, hml, ho, -⟩ := S
  intro T hT X
  rcases vx_callSX X hx (hh := hh) (bytes := bytes) (maxL := maxL) (ret := ret) ho hl hstt hini hcode hy hK hg (hsize.trans hml.symm) (argsL := As) (rest := rest) (fun sig h => hn.trans (hlen sig h)) hstack hW (by rw [hb]; exact hdg)
    (fun vm₁ hW₁ => ⟨hf.1, hf.2, hp.2 (T.setVm vm₁) hT hW₁⟩) with ⟨v, vm₁, ⟨U', l2, c2, s2⟩, hW₁, X', ⟨g', mk, t, L, e1, e2, hq, h1, hL, h2, h3⟩, st⟩ | ⟨q, vm₁, ⟨U', l2, c2, s2⟩, hW₁, X', ⟨g', mk, t, L, E, ce, e1, e2, hq, hce, hcv, hcl, h1, hL, h2, h3⟩, st⟩
  · dsimp only [Pt.U, Pt.locs, Pt.cells, Pt.slots] at X' e1 e2 h1 h2 h3 st
    subst h1; subst h2; subst h3
    exact Or.inl ⟨v, (T.setVm vm₁).calling g' mk As.toArray, t, U', L, hT, X', hL, e1, e2, hq, st⟩
  · dsimp only [Pt.U, Pt.locs, Pt.cells, Pt.slots] at X' e1 e2 h1 h2 h3 st hcl
    subst h1; subst h2; subst h3
    exact Or.inr ⟨q, (T.setVm vm₁).calling g' mk As.toArray, t, U', L, E, ce, hT, X', hL, e1, e2, hq, hce, hcv, vx_cls hW₁ hcl, st⟩
end
end VXH
theorem vx_ofWH {l : Launch} {y : MethodName} {ws ws' : List Cond} {rm : Room} {Pc : Array Value → State → Prop} {Qc : Array Value → State → Outcome → State → Prop} {XC : String → State → State → Prop} {mc ms : Nat} {free : Addr → Prop} {cc : ByteArray} {maxL : Nat} {ret : Option FieldType} {hh : List (Nat × Nat × Nat × Nat)}
    (hy : plainName y.cls = true) (hw : ws = Cond.codeWith y cc maxL ret hh :: ws')
    (body : ∀ p e s m args below meth c s₁, BodyLoose p l y (headSpec ws rm) cc maxL ret e s m args below meth c s₁ → c.maxLocals = maxL → Pc args s →
      W p l e (headSpec ws rm).room s m args below meth c s.heap [] 0 0 (vx_MQ below Qc XC args s mc ms free) (entryFrame m args maxL)) : vx_Met l y ws rm Pc Qc XC mc ms free := by
  refine MetFree.of_bodyS (code := cc) (maxLocals := maxL) (ret := ret) hy ?_ ?_
  · intro args s m h hn
    obtain ⟨m9, meth, c, hn9, h1, h2, h3, h4, -, h5, h6, -⟩ := Cond.codeWith_spec (atoms_spec (ws := ws) h _ (by rw [hw]; exact List.mem_cons_self))
    cases hn.symm.trans hn9
    exact ⟨meth, c, h1, h2, h3, h4, h5, h6⟩
  · intro p e s m args below meth c s₁ B hml hP _
    have hh0 : s₁.heap = s.heap := by rw [B.state]; rfl
    obtain ⟨t, a1, o, b1, b2, b3⟩ := body p e s m args below meth c s₁ B hml hP s₁ hh0 (Stand.of_body B)
    exact ⟨t, o, a1, b1, b2, b3⟩
/-! ===== END ===== -/

/-! ===== BEGIN printed: names, fields, word lists, decode rows ===== -/
def RX0 : String := "AssignmentHouse"
def TX0 : u_T := fun k => match k with
  | 0 => ("AssignmentHouse", "plainRate", "[I", true)
  | 1 => ("AssignmentHouse", "equalRate", "[I", true)
  | 2 => ("AssignmentHouse", "highMargin", "[I", true)
  | 3 => ("AssignmentHouse", "lowMargin", "[I", true)
  | 4 => ("AssignmentHouse", "lowVolume", "[I", true)
  | 5 => ("AssignmentHouse", "equalSpan", "I", false)
  | 6 => ("AssignmentHouse", "equalGap", "I", false)
  | 7 => ("AssignmentHouse", "shiftCount", "I", false)
  | 8 => ("AssignmentHouse", "workerOf", "[I", true)
  | 9 => ("AssignmentHouse", "siteOf", "[I", true)
  | 10 => ("AssignmentHouse", "dayOf", "[I", true)
  | 11 => ("AssignmentHouse", "hoursOf", "[I", true)
  | 12 => ("AssignmentHouse", "paidFor", "[I", true)
  | 13 => ("AssignmentHouse", "billedFor", "[I", true)
  | 14 => ("AssignmentHouse", "minutesTaken", "[I", true)
  | _ => ("AssignmentHouse", "aheadOnDay", "[I", true)
def tyX0 : Nat → FieldType := fun k => match k with
  | 0 => .array .int
  | 1 => .array .int
  | 2 => .array .int
  | 3 => .array .int
  | 4 => .array .int
  | 5 => .int
  | 6 => .int
  | 7 => .int
  | 8 => .array .int
  | 9 => .array .int
  | 10 => .array .int
  | 11 => .array .int
  | 12 => .array .int
  | 13 => .array .int
  | 14 => .array .int
  | _ => .array .int
abbrev wsX00 : List Cond := u_ws RX0 TX0 16
theorem nmX0 : ∀ a, a < 16 → ∀ b, b < 16 → a ≠ b → (TX0 a).2.1 ≠ (TX0 b).2.1 := by decide +kernel
theorem tyX0_ok : ∀ k, k < 16 → parseFieldDescriptor (TX0 k).2.2.1 = some (tyX0 k) := by decide +kernel
abbrev cX0_init : ByteArray := prog_1_method_1_code
def yX0_init : MethodName := ⟨RX0, "<init>", "()V"⟩
abbrev cX0_setRates : ByteArray := prog_1_method_2_code
def yX0_setRates : MethodName := ⟨RX0, "setRates", "(III)V"⟩
abbrev cX0_setMargins : ByteArray := prog_1_method_3_code
def yX0_setMargins : MethodName := ⟨RX0, "setMargins", "(IIII)V"⟩
abbrev cX0_setEqual : ByteArray := prog_1_method_4_code
def yX0_setEqual : MethodName := ⟨RX0, "setEqual", "(II)V"⟩
abbrev cX0_shift : ByteArray := prog_1_method_5_code
def yX0_shift : MethodName := ⟨RX0, "shift", "(IIII)I"⟩
abbrev cX0_correct : ByteArray := prog_1_method_6_code
def yX0_correct : MethodName := ⟨RX0, "correct", "(II)I"⟩
abbrev cX0_shifts : ByteArray := prog_1_method_7_code
def yX0_shifts : MethodName := ⟨RX0, "shifts", "()I"⟩
abbrev cX0_hours : ByteArray := prog_1_method_8_code
def yX0_hours : MethodName := ⟨RX0, "hours", "(II)I"⟩
abbrev cX0_overtime : ByteArray := prog_1_method_9_code
def yX0_overtime : MethodName := ⟨RX0, "overtime", "(I)I"⟩
abbrev cX0_hasEqual : ByteArray := prog_1_method_10_code
def yX0_hasEqual : MethodName := ⟨RX0, "hasEqual", "(III)Z"⟩
abbrev cX0_payOf : ByteArray := prog_1_method_11_code
def yX0_payOf : MethodName := ⟨RX0, "payOf", "(I)I"⟩
abbrev cX0_chargeOf : ByteArray := prog_1_method_12_code
def yX0_chargeOf : MethodName := ⟨RX0, "chargeOf", "(I)I"⟩
abbrev cX0_pay : ByteArray := prog_1_method_13_code
def yX0_pay : MethodName := ⟨RX0, "pay", "(II)I"⟩
abbrev cX0_payByHours : ByteArray := prog_1_method_14_code
def yX0_payByHours : MethodName := ⟨RX0, "payByHours", "(II)I"⟩
abbrev cX0_run : ByteArray := prog_1_method_15_code
def yX0_run : MethodName := ⟨RX0, "run", "(I)I"⟩
abbrev cX0_paid : ByteArray := prog_1_method_16_code
def yX0_paid : MethodName := ⟨RX0, "paid", "(II)I"⟩
abbrev cX0_billed : ByteArray := prog_1_method_17_code
def yX0_billed : MethodName := ⟨RX0, "billed", "(II)I"⟩
abbrev cX0_owing : ByteArray := prog_1_method_18_code
def yX0_owing : MethodName := ⟨RX0, "owing", "(II)I"⟩
abbrev cX0_toBill : ByteArray := prog_1_method_19_code
def yX0_toBill : MethodName := ⟨RX0, "toBill", "(II)I"⟩
abbrev cX0_takeHoliday : ByteArray := prog_1_method_20_code
def yX0_takeHoliday : MethodName := ⟨RX0, "takeHoliday", "(II)I"⟩
abbrev cX0_holiday : ByteArray := prog_1_method_21_code
def yX0_holiday : MethodName := ⟨RX0, "holiday", "(I)I"⟩
abbrev cX0_weekOf : ByteArray := prog_1_method_22_code
def yX0_weekOf : MethodName := ⟨RX0, "weekOf", "(I)I"⟩
abbrev cX0_isOfWorker : ByteArray := prog_1_method_23_code
def yX0_isOfWorker : MethodName := ⟨RX0, "isOfWorker", "(III)Z"⟩
abbrev cX0_isAtSite : ByteArray := prog_1_method_24_code
def yX0_isAtSite : MethodName := ⟨RX0, "isAtSite", "(III)Z"⟩
abbrev cX0_hoursOnDay : ByteArray := prog_1_method_25_code
def yX0_hoursOnDay : MethodName := ⟨RX0, "hoursOnDay", "(II)I"⟩
abbrev cX0_hoursAtSite : ByteArray := prog_1_method_26_code
def yX0_hoursAtSite : MethodName := ⟨RX0, "hoursAtSite", "(II)I"⟩
abbrev cX0_minutesLeft : ByteArray := prog_1_method_27_code
def yX0_minutesLeft : MethodName := ⟨RX0, "minutesLeft", "(I)I"⟩
abbrev cX0_overtimeHours : ByteArray := prog_1_method_28_code
def yX0_overtimeHours : MethodName := ⟨RX0, "overtimeHours", "(I)I"⟩
abbrev cX0_fillAheadOnDay : ByteArray := prog_1_method_29_code
def yX0_fillAheadOnDay : MethodName := ⟨RX0, "fillAheadOnDay", "(I)V"⟩
abbrev cX0_plainByDayAhead : ByteArray := prog_1_method_30_code
def yX0_plainByDayAhead : MethodName := ⟨RX0, "plainByDayAhead", "()I"⟩
abbrev cX0_plainOfDay : ByteArray := prog_1_method_31_code
def yX0_plainOfDay : MethodName := ⟨RX0, "plainOfDay", "(I)I"⟩
abbrev cX0_isEqual : ByteArray := prog_1_method_32_code
def yX0_isEqual : MethodName := ⟨RX0, "isEqual", "(III)Z"⟩
abbrev cX0_weeksWorked : ByteArray := prog_1_method_33_code
def yX0_weeksWorked : MethodName := ⟨RX0, "weeksWorked", "(II)I"⟩
abbrev cX0_rateThere : ByteArray := prog_1_method_34_code
def yX0_rateThere : MethodName := ⟨RX0, "rateThere", "(III)I"⟩
abbrev cX0_shiftPay : ByteArray := prog_1_method_35_code
def yX0_shiftPay : MethodName := ⟨RX0, "shiftPay", "(I)I"⟩
abbrev cX0_weekPay : ByteArray := prog_1_method_36_code
def yX0_weekPay : MethodName := ⟨RX0, "weekPay", "(II)I"⟩
abbrev cX0_marginAt : ByteArray := prog_1_method_37_code
def yX0_marginAt : MethodName := ⟨RX0, "marginAt", "(II)I"⟩
abbrev cX0_chargeFor : ByteArray := prog_1_method_38_code
def yX0_chargeFor : MethodName := ⟨RX0, "chargeFor", "(II)I"⟩
abbrev cX0_weekCharge : ByteArray := prog_1_method_39_code
def yX0_weekCharge : MethodName := ⟨RX0, "weekCharge", "(II)I"⟩
abbrev cX0_needOneOf : ByteArray := prog_1_method_40_code
def yX0_needOneOf : MethodName := ⟨RX0, "needOneOf", "(II)V"⟩
abbrev cX0_needRange : ByteArray := prog_1_method_41_code
def yX0_needRange : MethodName := ⟨RX0, "needRange", "(III)V"⟩
abbrev cX0_needState : ByteArray := prog_1_method_42_code
def yX0_needState : MethodName := ⟨RX0, "needState", "(Z)V"⟩
abbrev cX0_at : ByteArray := prog_1_method_43_code
def yX0_at : MethodName := ⟨RX0, "at", "([II)I"⟩
abbrev cX0_put : ByteArray := prog_1_method_44_code
def yX0_put : MethodName := ⟨RX0, "put", "([III)V"⟩
def RX1 : String := "AssignmentHouseModel"
def TX1 : u_T := fun k => match k with
  | _ => ("", "", "", false)
def tyX1 : Nat → FieldType := fun k => match k with
  | _ => .int
abbrev wsX10 : List Cond := u_ws RX1 TX1 0
theorem nmX1 : ∀ a, a < 0 → ∀ b, b < 0 → a ≠ b → (TX1 a).2.1 ≠ (TX1 b).2.1 := by decide +kernel
theorem tyX1_ok : ∀ k, k < 0 → parseFieldDescriptor (TX1 k).2.2.1 = some (tyX1 k) := by decide +kernel
def RJ9 : String := "java/lang/Math"
def TJ9 : u_T := fun k => match k with
  | _ => ("", "", "", false)
def tyJ9 : Nat → FieldType := fun k => match k with
  | _ => .int
abbrev wsJ90 : List Cond := u_ws RJ9 TJ9 0
theorem nmJ9 : ∀ a, a < 0 → ∀ b, b < 0 → a ≠ b → (TJ9 a).2.1 ≠ (TJ9 b).2.1 := by decide +kernel
theorem tyJ9_ok : ∀ k, k < 0 → parseFieldDescriptor (TJ9 k).2.2.1 = some (tyJ9 k) := by decide +kernel
abbrev cJ9_max_7cf53 : ByteArray := prog_8_method_65_code
def yJ9_max_7cf53 : MethodName := ⟨RJ9, "max", "(II)I"⟩
abbrev cJ9_min_7cf53 : ByteArray := prog_8_method_69_code
def yJ9_min_7cf53 : MethodName := ⟨RJ9, "min", "(II)I"⟩
def RJ0 : String := "java/lang/String"
def TJ0 : u_T := fun k => match k with
  | _ => ("", "", "", false)
def tyJ0 : Nat → FieldType := fun k => match k with
  | _ => .int
abbrev wsJ00 : List Cond := u_ws RJ0 TJ0 0
theorem nmJ0 : ∀ a, a < 0 → ∀ b, b < 0 → a ≠ b → (TJ0 a).2.1 ≠ (TJ0 b).2.1 := by decide +kernel
theorem tyJ0_ok : ∀ k, k < 0 → parseFieldDescriptor (TJ0 k).2.2.1 = some (tyJ0 k) := by decide +kernel
def RL : String := "AssignmentHouseLaw"
abbrev cL_dice : ByteArray := method_2_code
def yL_dice : MethodName := ⟨RL, "dice", "([II)I"⟩
abbrev cL_setRates : ByteArray := method_3_code
def yL_setRates : MethodName := ⟨RL, "setRates", "(LAssignmentHouse;III)I"⟩
abbrev cL_setMargins : ByteArray := method_4_code
def yL_setMargins : MethodName := ⟨RL, "setMargins", "(LAssignmentHouse;IIII)I"⟩
abbrev cL_setEqual : ByteArray := method_5_code
def yL_setEqual : MethodName := ⟨RL, "setEqual", "(LAssignmentHouse;II)I"⟩
abbrev cL_act : ByteArray := method_6_code
def yL_act : MethodName := ⟨RL, "act", "(LAssignmentHouse;IIIII)I"⟩
abbrev cL_of : ByteArray := method_7_code
def yL_of : MethodName := ⟨RL, "of", "(LAssignmentHouse;IIII)I"⟩
abbrev cL_hours : ByteArray := method_8_code
def yL_hours : MethodName := ⟨RL, "hours", "([II)I"⟩
abbrev cL_day : ByteArray := method_9_code
def yL_day : MethodName := ⟨RL, "day", "([II)I"⟩
abbrev cL_all : ByteArray := method_10_code
def yL_all : MethodName := ⟨RL, "all", "(LAssignmentHouse;[I)J"⟩
abbrev cL_isOvertime : ByteArray := method_11_code
def yL_isOvertime : MethodName := ⟨RL, "isOvertime", "(LAssignmentHouse;[I[III)Z"⟩
abbrev cL_isEqual : ByteArray := method_12_code
def yL_isEqual : MethodName := ⟨RL, "isEqual", "(LAssignmentHouse;[I[I[IIII)Z"⟩
abbrev cL_areShifts : ByteArray := method_13_code
def yL_areShifts : MethodName := ⟨RL, "areShifts", "(LAssignmentHouse;[I[I[I)Z"⟩
abbrev cL_areSums : ByteArray := method_14_code
def yL_areSums : MethodName := ⟨RL, "areSums", "(LAssignmentHouse;[I[II)Z"⟩
abbrev cL_isRefused : ByteArray := method_15_code
def yL_isRefused : MethodName := ⟨RL, "isRefused", "(LAssignmentHouse;[I[II)Z"⟩
abbrev cL_onDay : ByteArray := method_16_code
def yL_onDay : MethodName := ⟨RL, "onDay", "([I[III)I"⟩
abbrev cL_isTold : ByteArray := method_17_code
def yL_isTold : MethodName := ⟨RL, "isTold", "(LAssignmentHouse;[I[IIIII)Z"⟩
abbrev cL_isCorrected : ByteArray := method_18_code
def yL_isCorrected : MethodName := ⟨RL, "isCorrected", "(LAssignmentHouse;[I[III)Z"⟩
abbrev cL_isRun : ByteArray := method_19_code
def yL_isRun : MethodName := ⟨RL, "isRun", "(LAssignmentHouse;I)Z"⟩
abbrev cL_law : ByteArray := code
def yL_law : MethodName := ⟨RL, "law", "([I)Z"⟩
def wsX0_put : List Cond := .code yX0_put cX0_put 3 none :: ([])
def wsX0_init : List Cond := .code yX0_init cX0_init 2 none :: ([.methodLink RX0 3 objectInit, .instanceMethod objectInit, .code objectInit ⟨#[0xb1]⟩ 1 none, .arrayClass .int, .fieldLink RX0 9 "AssignmentHouse" "plainRate" "[I", .fieldLink RX0 13 "AssignmentHouse" "equalRate" "[I", .fieldLink RX0 16 "AssignmentHouse" "highMargin" "[I", .fieldLink RX0 19 "AssignmentHouse" "lowMargin" "[I", .fieldLink RX0 22 "AssignmentHouse" "lowVolume" "[I", .fieldLink RX0 25 "AssignmentHouse" "equalSpan" "I", .fieldLink RX0 29 "AssignmentHouse" "equalGap" "I", .fieldLink RX0 32 "AssignmentHouse" "shiftCount" "I", .fieldLink RX0 35 "AssignmentHouse" "workerOf" "[I", .fieldLink RX0 38 "AssignmentHouse" "siteOf" "[I", .fieldLink RX0 41 "AssignmentHouse" "dayOf" "[I", .fieldLink RX0 44 "AssignmentHouse" "hoursOf" "[I", .fieldLink RX0 47 "AssignmentHouse" "paidFor" "[I", .fieldLink RX0 50 "AssignmentHouse" "billedFor" "[I", .fieldLink RX0 53 "AssignmentHouse" "minutesTaken" "[I", .fieldLink RX0 56 "AssignmentHouse" "aheadOnDay" "[I", .methodLink RX0 59 yX0_put, .static yX0_put, .initialized RX0, .code yX0_put cX0_put 3 none] ++ wsX00)
def wsX0_needOneOf : List Cond := .code yX0_needOneOf cX0_needOneOf 2 none :: ([.classLink RX0 147 "java/lang/IndexOutOfBoundsException", .initialized "java/lang/IndexOutOfBoundsException"] ++ (vx_atS RX0 151 "java/lang/IndexOutOfBoundsException" ["java/lang/RuntimeException", "java/lang/Exception"]).filter goodWord)
def wsX0_needRange : List Cond := .code yX0_needRange cX0_needRange 3 none :: ([.classLink RX0 154 "java/lang/IllegalArgumentException", .initialized "java/lang/IllegalArgumentException"] ++ (vx_atS RX0 158 "java/lang/IllegalArgumentException" ["java/lang/RuntimeException", "java/lang/Exception"]).filter goodWord)
def wsX0_setRates : List Cond := .code yX0_setRates cX0_setRates 4 none :: ([.fieldLink RX0 9 "AssignmentHouse" "plainRate" "[I", .fieldLink RX0 13 "AssignmentHouse" "equalRate" "[I", .methodLink RX0 63 yX0_needOneOf, .static yX0_needOneOf, .initialized RX0, .code yX0_needOneOf cX0_needOneOf 2 none, .classLink RX0 147 "java/lang/IndexOutOfBoundsException", .initialized "java/lang/IndexOutOfBoundsException", .methodLink RX0 67 yX0_needRange, .static yX0_needRange, .code yX0_needRange cX0_needRange 3 none, .classLink RX0 154 "java/lang/IllegalArgumentException", .initialized "java/lang/IllegalArgumentException", .methodLink RX0 59 yX0_put, .static yX0_put, .code yX0_put cX0_put 3 none] ++ wsX00 ++ (vx_atS RX0 151 "java/lang/IndexOutOfBoundsException" ["java/lang/RuntimeException", "java/lang/Exception"]).filter goodWord ++ (vx_atS RX0 158 "java/lang/IllegalArgumentException" ["java/lang/RuntimeException", "java/lang/Exception"]).filter goodWord)
def wsX0_setMargins : List Cond := .code yX0_setMargins cX0_setMargins 5 none :: ([.fieldLink RX0 16 "AssignmentHouse" "highMargin" "[I", .fieldLink RX0 19 "AssignmentHouse" "lowMargin" "[I", .fieldLink RX0 22 "AssignmentHouse" "lowVolume" "[I", .methodLink RX0 63 yX0_needOneOf, .static yX0_needOneOf, .initialized RX0, .code yX0_needOneOf cX0_needOneOf 2 none, .classLink RX0 147 "java/lang/IndexOutOfBoundsException", .initialized "java/lang/IndexOutOfBoundsException", .methodLink RX0 67 yX0_needRange, .static yX0_needRange, .code yX0_needRange cX0_needRange 3 none, .classLink RX0 154 "java/lang/IllegalArgumentException", .initialized "java/lang/IllegalArgumentException", .methodLink RX0 59 yX0_put, .static yX0_put, .code yX0_put cX0_put 3 none] ++ wsX00 ++ (vx_atS RX0 151 "java/lang/IndexOutOfBoundsException" ["java/lang/RuntimeException", "java/lang/Exception"]).filter goodWord ++ (vx_atS RX0 158 "java/lang/IllegalArgumentException" ["java/lang/RuntimeException", "java/lang/Exception"]).filter goodWord)
def wsX0_setEqual : List Cond := .code yX0_setEqual cX0_setEqual 3 none :: ([.fieldLink RX0 25 "AssignmentHouse" "equalSpan" "I", .fieldLink RX0 29 "AssignmentHouse" "equalGap" "I", .methodLink RX0 67 yX0_needRange, .static yX0_needRange, .initialized RX0, .code yX0_needRange cX0_needRange 3 none, .classLink RX0 154 "java/lang/IllegalArgumentException", .initialized "java/lang/IllegalArgumentException"] ++ wsX00 ++ (vx_atS RX0 158 "java/lang/IllegalArgumentException" ["java/lang/RuntimeException", "java/lang/Exception"]).filter goodWord)
def wsX0_needState : List Cond := .code yX0_needState cX0_needState 1 none :: ([.classLink RX0 159 "java/lang/IllegalStateException", .initialized "java/lang/IllegalStateException"] ++ (vx_atS RX0 163 "java/lang/IllegalStateException" ["java/lang/RuntimeException", "java/lang/Exception"]).filter goodWord)
def wsX0_at : List Cond := .code yX0_at cX0_at 2 (some .int) :: ([])
def wsX0_hoursOnDay : List Cond := .code yX0_hoursOnDay cX0_hoursOnDay 5 (some .int) :: ([.fieldLink RX0 32 "AssignmentHouse" "shiftCount" "I", .fieldLink RX0 35 "AssignmentHouse" "workerOf" "[I", .fieldLink RX0 41 "AssignmentHouse" "dayOf" "[I", .fieldLink RX0 44 "AssignmentHouse" "hoursOf" "[I", .methodLink RX0 79 yX0_at, .static yX0_at, .initialized RX0, .code yX0_at cX0_at 2 (some .int)] ++ wsX00)
def wsX0_shift_r1 : List Cond := [Cond.fieldLink RX0 32 "AssignmentHouse" "shiftCount" "I", Cond.fieldLink RX0 35 "AssignmentHouse" "workerOf" "[I", Cond.fieldLink RX0 38 "AssignmentHouse" "siteOf" "[I", Cond.fieldLink RX0 41 "AssignmentHouse" "dayOf" "[I", Cond.fieldLink RX0 44 "AssignmentHouse" "hoursOf" "[I", Cond.methodLink RX0 63 yX0_needOneOf, Cond.static yX0_needOneOf, Cond.initialized RX0, Cond.code yX0_needOneOf cX0_needOneOf 2 none, Cond.classLink RX0 147 "java/lang/IndexOutOfBoundsException", Cond.initialized "java/lang/IndexOutOfBoundsException", Cond.methodLink RX0 67 yX0_needRange, Cond.static yX0_needRange, Cond.code yX0_needRange cX0_needRange 3 none, Cond.classLink RX0 154 "java/lang/IllegalArgumentException", Cond.initialized "java/lang/IllegalArgumentException", Cond.methodLink RX0 71 yX0_needState, Cond.static yX0_needState, Cond.code yX0_needState cX0_needState 1 none, Cond.classLink RX0 159 "java/lang/IllegalStateException", Cond.initialized "java/lang/IllegalStateException", Cond.methodLink RX0 75 yX0_hoursOnDay, Cond.instanceMethod yX0_hoursOnDay, Cond.selects RX0 yX0_hoursOnDay yX0_hoursOnDay]
def wsX0_shift_r2 : List Cond := [Cond.code yX0_hoursOnDay cX0_hoursOnDay 5 (some .int), Cond.methodLink RX0 79 yX0_at, Cond.static yX0_at, Cond.code yX0_at cX0_at 2 (some .int), Cond.methodLink RX0 59 yX0_put, Cond.static yX0_put, Cond.code yX0_put cX0_put 3 none]
def wsX0_shift : List Cond := .code yX0_shift cX0_shift 6 (some .int) :: ((wsX0_shift_r1 ++ wsX0_shift_r2) ++ wsX00 ++ (vx_atS RX0 151 "java/lang/IndexOutOfBoundsException" ["java/lang/RuntimeException", "java/lang/Exception"]).filter goodWord ++ (vx_atS RX0 158 "java/lang/IllegalArgumentException" ["java/lang/RuntimeException", "java/lang/Exception"]).filter goodWord ++ (vx_atS RX0 163 "java/lang/IllegalStateException" ["java/lang/RuntimeException", "java/lang/Exception"]).filter goodWord)
def wsX0_minutesLeft : List Cond := .code yX0_minutesLeft cX0_minutesLeft 4 (some .int) :: ([.fieldLink RX0 32 "AssignmentHouse" "shiftCount" "I", .fieldLink RX0 35 "AssignmentHouse" "workerOf" "[I", .fieldLink RX0 44 "AssignmentHouse" "hoursOf" "[I", .fieldLink RX0 53 "AssignmentHouse" "minutesTaken" "[I", .methodLink RX0 79 yX0_at, .static yX0_at, .initialized RX0, .code yX0_at cX0_at 2 (some .int)] ++ wsX00)
def wsX0_correct_r1 : List Cond := [Cond.fieldLink RX0 32 "AssignmentHouse" "shiftCount" "I", Cond.fieldLink RX0 35 "AssignmentHouse" "workerOf" "[I", Cond.fieldLink RX0 44 "AssignmentHouse" "hoursOf" "[I", Cond.fieldLink RX0 41 "AssignmentHouse" "dayOf" "[I", Cond.methodLink RX0 63 yX0_needOneOf, Cond.static yX0_needOneOf, Cond.initialized RX0, Cond.code yX0_needOneOf cX0_needOneOf 2 none, Cond.classLink RX0 147 "java/lang/IndexOutOfBoundsException", Cond.initialized "java/lang/IndexOutOfBoundsException", Cond.methodLink RX0 67 yX0_needRange, Cond.static yX0_needRange, Cond.code yX0_needRange cX0_needRange 3 none, Cond.classLink RX0 154 "java/lang/IllegalArgumentException", Cond.initialized "java/lang/IllegalArgumentException", Cond.methodLink RX0 79 yX0_at, Cond.static yX0_at, Cond.code yX0_at cX0_at 2 (some .int), Cond.methodLink RX0 75 yX0_hoursOnDay, Cond.instanceMethod yX0_hoursOnDay, Cond.selects RX0 yX0_hoursOnDay yX0_hoursOnDay, Cond.code yX0_hoursOnDay cX0_hoursOnDay 5 (some .int), Cond.methodLink RX0 71 yX0_needState, Cond.static yX0_needState]
def wsX0_correct_r2 : List Cond := [Cond.code yX0_needState cX0_needState 1 none, Cond.classLink RX0 159 "java/lang/IllegalStateException", Cond.initialized "java/lang/IllegalStateException", Cond.methodLink RX0 83 yX0_minutesLeft, Cond.instanceMethod yX0_minutesLeft, Cond.selects RX0 yX0_minutesLeft yX0_minutesLeft, Cond.code yX0_minutesLeft cX0_minutesLeft 4 (some .int), Cond.fieldLink RX0 53 "AssignmentHouse" "minutesTaken" "[I", Cond.methodLink RX0 59 yX0_put, Cond.static yX0_put, Cond.code yX0_put cX0_put 3 none]
def wsX0_correct : List Cond := .code yX0_correct cX0_correct 6 (some .int) :: ((wsX0_correct_r1 ++ wsX0_correct_r2) ++ wsX00 ++ (vx_atS RX0 151 "java/lang/IndexOutOfBoundsException" ["java/lang/RuntimeException", "java/lang/Exception"]).filter goodWord ++ (vx_atS RX0 158 "java/lang/IllegalArgumentException" ["java/lang/RuntimeException", "java/lang/Exception"]).filter goodWord ++ (vx_atS RX0 163 "java/lang/IllegalStateException" ["java/lang/RuntimeException", "java/lang/Exception"]).filter goodWord)
def wsX0_shifts : List Cond := .code yX0_shifts cX0_shifts 1 (some .int) :: ([.fieldLink RX0 32 "AssignmentHouse" "shiftCount" "I"] ++ wsX00)
def wsX0_weekOf : List Cond := .code yX0_weekOf cX0_weekOf 1 (some .int) :: ([])
def wsX0_isOfWorker : List Cond := .code yX0_isOfWorker cX0_isOfWorker 4 (some .boolean) :: ([.fieldLink RX0 35 "AssignmentHouse" "workerOf" "[I", .fieldLink RX0 41 "AssignmentHouse" "dayOf" "[I", .methodLink RX0 79 yX0_at, .static yX0_at, .initialized RX0, .code yX0_at cX0_at 2 (some .int), .methodLink RX0 100 yX0_weekOf, .static yX0_weekOf, .code yX0_weekOf cX0_weekOf 1 (some .int)] ++ wsX00)
def wsX0_hours : List Cond := .code yX0_hours cX0_hours 5 (some .int) :: ([.fieldLink RX0 32 "AssignmentHouse" "shiftCount" "I", .fieldLink RX0 44 "AssignmentHouse" "hoursOf" "[I", .methodLink RX0 63 yX0_needOneOf, .static yX0_needOneOf, .initialized RX0, .code yX0_needOneOf cX0_needOneOf 2 none, .classLink RX0 147 "java/lang/IndexOutOfBoundsException", .initialized "java/lang/IndexOutOfBoundsException", .methodLink RX0 87 yX0_isOfWorker, .instanceMethod yX0_isOfWorker, .selects RX0 yX0_isOfWorker yX0_isOfWorker, .code yX0_isOfWorker cX0_isOfWorker 4 (some .boolean), .fieldLink RX0 35 "AssignmentHouse" "workerOf" "[I", .fieldLink RX0 41 "AssignmentHouse" "dayOf" "[I", .methodLink RX0 79 yX0_at, .static yX0_at, .code yX0_at cX0_at 2 (some .int), .methodLink RX0 100 yX0_weekOf, .static yX0_weekOf, .code yX0_weekOf cX0_weekOf 1 (some .int)] ++ wsX00 ++ (vx_atS RX0 151 "java/lang/IndexOutOfBoundsException" ["java/lang/RuntimeException", "java/lang/Exception"]).filter goodWord)
def wsX0_fillAheadOnDay : List Cond := .code yX0_fillAheadOnDay cX0_fillAheadOnDay 9 none :: ([.fieldLink RX0 35 "AssignmentHouse" "workerOf" "[I", .fieldLink RX0 41 "AssignmentHouse" "dayOf" "[I", .fieldLink RX0 56 "AssignmentHouse" "aheadOnDay" "[I", .fieldLink RX0 32 "AssignmentHouse" "shiftCount" "I", .fieldLink RX0 44 "AssignmentHouse" "hoursOf" "[I", .methodLink RX0 79 yX0_at, .static yX0_at, .initialized RX0, .code yX0_at cX0_at 2 (some .int), .methodLink RX0 100 yX0_weekOf, .static yX0_weekOf, .code yX0_weekOf cX0_weekOf 1 (some .int), .methodLink RX0 59 yX0_put, .static yX0_put, .code yX0_put cX0_put 3 none, .methodLink RX0 87 yX0_isOfWorker, .instanceMethod yX0_isOfWorker, .selects RX0 yX0_isOfWorker yX0_isOfWorker, .code yX0_isOfWorker cX0_isOfWorker 4 (some .boolean)] ++ wsX00)
def wsX0_plainOfDay : List Cond := .code yX0_plainOfDay cX0_plainOfDay 1 (some .int) :: ([.methodLink RX0 138 Lib.Math.min.name, .static Lib.Math.min.name, .initialized "java/lang/Math", .code Lib.Math.min.name Lib.Math.min.code 2 (some .int)])
def wsX0_plainByDayAhead : List Cond := .code yX0_plainByDayAhead cX0_plainByDayAhead 3 (some .int) :: ([.fieldLink RX0 56 "AssignmentHouse" "aheadOnDay" "[I", .methodLink RX0 79 yX0_at, .static yX0_at, .initialized RX0, .code yX0_at cX0_at 2 (some .int), .methodLink RX0 126 yX0_plainOfDay, .static yX0_plainOfDay, .code yX0_plainOfDay cX0_plainOfDay 1 (some .int), .methodLink RX0 138 Lib.Math.min.name, .static Lib.Math.min.name, .initialized "java/lang/Math", .code Lib.Math.min.name Lib.Math.min.code 2 (some .int)] ++ wsX00)
def wsX0_overtimeHours_r1 : List Cond := [Cond.fieldLink RX0 44 "AssignmentHouse" "hoursOf" "[I", Cond.fieldLink RX0 56 "AssignmentHouse" "aheadOnDay" "[I", Cond.fieldLink RX0 41 "AssignmentHouse" "dayOf" "[I", Cond.methodLink RX0 133 Lib.Math.max.name, Cond.static Lib.Math.max.name, Cond.initialized "java/lang/Math", Cond.code Lib.Math.max.name Lib.Math.max.code 2 (some .int), Cond.methodLink RX0 138 Lib.Math.min.name, Cond.static Lib.Math.min.name, Cond.code Lib.Math.min.name Lib.Math.min.code 2 (some .int), Cond.methodLink RX0 122 yX0_fillAheadOnDay, Cond.instanceMethod yX0_fillAheadOnDay, Cond.selects RX0 yX0_fillAheadOnDay yX0_fillAheadOnDay, Cond.initialized RX0, Cond.code yX0_fillAheadOnDay cX0_fillAheadOnDay 9 none, Cond.fieldLink RX0 35 "AssignmentHouse" "workerOf" "[I", Cond.fieldLink RX0 32 "AssignmentHouse" "shiftCount" "I", Cond.methodLink RX0 79 yX0_at, Cond.static yX0_at, Cond.code yX0_at cX0_at 2 (some .int), Cond.methodLink RX0 100 yX0_weekOf, Cond.static yX0_weekOf, Cond.code yX0_weekOf cX0_weekOf 1 (some .int), Cond.methodLink RX0 59 yX0_put]
def wsX0_overtimeHours_r2 : List Cond := [Cond.static yX0_put, Cond.code yX0_put cX0_put 3 none, Cond.methodLink RX0 87 yX0_isOfWorker, Cond.instanceMethod yX0_isOfWorker, Cond.selects RX0 yX0_isOfWorker yX0_isOfWorker, Cond.code yX0_isOfWorker cX0_isOfWorker 4 (some .boolean), Cond.methodLink RX0 126 yX0_plainOfDay, Cond.static yX0_plainOfDay, Cond.code yX0_plainOfDay cX0_plainOfDay 1 (some .int), Cond.methodLink RX0 129 yX0_plainByDayAhead, Cond.instanceMethod yX0_plainByDayAhead, Cond.selects RX0 yX0_plainByDayAhead yX0_plainByDayAhead, Cond.code yX0_plainByDayAhead cX0_plainByDayAhead 3 (some .int)]
def wsX0_overtimeHours : List Cond := .code yX0_overtimeHours cX0_overtimeHours 6 (some .int) :: ((wsX0_overtimeHours_r1 ++ wsX0_overtimeHours_r2) ++ wsX00)
def wsX0_overtime_r1 : List Cond := [Cond.fieldLink RX0 32 "AssignmentHouse" "shiftCount" "I", Cond.methodLink RX0 63 yX0_needOneOf, Cond.static yX0_needOneOf, Cond.initialized RX0, Cond.code yX0_needOneOf cX0_needOneOf 2 none, Cond.classLink RX0 147 "java/lang/IndexOutOfBoundsException", Cond.initialized "java/lang/IndexOutOfBoundsException", Cond.methodLink RX0 91 yX0_overtimeHours, Cond.instanceMethod yX0_overtimeHours, Cond.selects RX0 yX0_overtimeHours yX0_overtimeHours, Cond.code yX0_overtimeHours cX0_overtimeHours 6 (some .int), Cond.fieldLink RX0 44 "AssignmentHouse" "hoursOf" "[I", Cond.fieldLink RX0 56 "AssignmentHouse" "aheadOnDay" "[I", Cond.fieldLink RX0 41 "AssignmentHouse" "dayOf" "[I", Cond.methodLink RX0 133 Lib.Math.max.name, Cond.static Lib.Math.max.name, Cond.initialized "java/lang/Math", Cond.code Lib.Math.max.name Lib.Math.max.code 2 (some .int), Cond.methodLink RX0 138 Lib.Math.min.name, Cond.static Lib.Math.min.name, Cond.code Lib.Math.min.name Lib.Math.min.code 2 (some .int), Cond.methodLink RX0 122 yX0_fillAheadOnDay, Cond.instanceMethod yX0_fillAheadOnDay, Cond.selects RX0 yX0_fillAheadOnDay yX0_fillAheadOnDay]
def wsX0_overtime_r2 : List Cond := [Cond.code yX0_fillAheadOnDay cX0_fillAheadOnDay 9 none, Cond.fieldLink RX0 35 "AssignmentHouse" "workerOf" "[I", Cond.methodLink RX0 79 yX0_at, Cond.static yX0_at, Cond.code yX0_at cX0_at 2 (some .int), Cond.methodLink RX0 100 yX0_weekOf, Cond.static yX0_weekOf, Cond.code yX0_weekOf cX0_weekOf 1 (some .int), Cond.methodLink RX0 59 yX0_put, Cond.static yX0_put, Cond.code yX0_put cX0_put 3 none, Cond.methodLink RX0 87 yX0_isOfWorker, Cond.instanceMethod yX0_isOfWorker, Cond.selects RX0 yX0_isOfWorker yX0_isOfWorker, Cond.code yX0_isOfWorker cX0_isOfWorker 4 (some .boolean), Cond.methodLink RX0 126 yX0_plainOfDay, Cond.static yX0_plainOfDay, Cond.code yX0_plainOfDay cX0_plainOfDay 1 (some .int), Cond.methodLink RX0 129 yX0_plainByDayAhead, Cond.instanceMethod yX0_plainByDayAhead, Cond.selects RX0 yX0_plainByDayAhead yX0_plainByDayAhead, Cond.code yX0_plainByDayAhead cX0_plainByDayAhead 3 (some .int)]
def wsX0_overtime : List Cond := .code yX0_overtime cX0_overtime 2 (some .int) :: ((wsX0_overtime_r1 ++ wsX0_overtime_r2) ++ wsX00 ++ (vx_atS RX0 151 "java/lang/IndexOutOfBoundsException" ["java/lang/RuntimeException", "java/lang/Exception"]).filter goodWord)
def wsX0_weeksWorked : List Cond := .code yX0_weeksWorked cX0_weeksWorked 5 (some .int) :: ([.fieldLink RX0 32 "AssignmentHouse" "shiftCount" "I", .fieldLink RX0 35 "AssignmentHouse" "workerOf" "[I", .fieldLink RX0 38 "AssignmentHouse" "siteOf" "[I", .fieldLink RX0 44 "AssignmentHouse" "hoursOf" "[I", .fieldLink RX0 41 "AssignmentHouse" "dayOf" "[I", .methodLink RX0 79 yX0_at, .static yX0_at, .initialized RX0, .code yX0_at cX0_at 2 (some .int), .methodLink RX0 100 yX0_weekOf, .static yX0_weekOf, .code yX0_weekOf cX0_weekOf 1 (some .int)] ++ wsX00)
def wsX0_isEqual : List Cond := .code yX0_isEqual cX0_isEqual 8 (some .boolean) :: ([.fieldLink RX0 29 "AssignmentHouse" "equalGap" "I", .fieldLink RX0 25 "AssignmentHouse" "equalSpan" "I", .methodLink RX0 141 yX0_weeksWorked, .instanceMethod yX0_weeksWorked, .selects RX0 yX0_weeksWorked yX0_weeksWorked, .initialized RX0, .code yX0_weeksWorked cX0_weeksWorked 5 (some .int), .fieldLink RX0 32 "AssignmentHouse" "shiftCount" "I", .fieldLink RX0 35 "AssignmentHouse" "workerOf" "[I", .fieldLink RX0 38 "AssignmentHouse" "siteOf" "[I", .fieldLink RX0 44 "AssignmentHouse" "hoursOf" "[I", .fieldLink RX0 41 "AssignmentHouse" "dayOf" "[I", .methodLink RX0 79 yX0_at, .static yX0_at, .code yX0_at cX0_at 2 (some .int), .methodLink RX0 100 yX0_weekOf, .static yX0_weekOf, .code yX0_weekOf cX0_weekOf 1 (some .int)] ++ wsX00)
def wsX0_hasEqual_r1 : List Cond := [Cond.methodLink RX0 63 yX0_needOneOf, Cond.static yX0_needOneOf, Cond.initialized RX0, Cond.code yX0_needOneOf cX0_needOneOf 2 none, Cond.classLink RX0 147 "java/lang/IndexOutOfBoundsException", Cond.initialized "java/lang/IndexOutOfBoundsException", Cond.methodLink RX0 94 yX0_isEqual, Cond.instanceMethod yX0_isEqual, Cond.selects RX0 yX0_isEqual yX0_isEqual, Cond.code yX0_isEqual cX0_isEqual 8 (some .boolean), Cond.fieldLink RX0 29 "AssignmentHouse" "equalGap" "I", Cond.fieldLink RX0 25 "AssignmentHouse" "equalSpan" "I", Cond.methodLink RX0 141 yX0_weeksWorked, Cond.instanceMethod yX0_weeksWorked, Cond.selects RX0 yX0_weeksWorked yX0_weeksWorked, Cond.code yX0_weeksWorked cX0_weeksWorked 5 (some .int), Cond.fieldLink RX0 32 "AssignmentHouse" "shiftCount" "I", Cond.fieldLink RX0 35 "AssignmentHouse" "workerOf" "[I", Cond.fieldLink RX0 38 "AssignmentHouse" "siteOf" "[I", Cond.fieldLink RX0 44 "AssignmentHouse" "hoursOf" "[I", Cond.fieldLink RX0 41 "AssignmentHouse" "dayOf" "[I", Cond.methodLink RX0 79 yX0_at, Cond.static yX0_at, Cond.code yX0_at cX0_at 2 (some .int)]
def wsX0_hasEqual_r2 : List Cond := [Cond.methodLink RX0 100 yX0_weekOf, Cond.static yX0_weekOf, Cond.code yX0_weekOf cX0_weekOf 1 (some .int)]
def wsX0_hasEqual : List Cond := .code yX0_hasEqual cX0_hasEqual 4 (some .boolean) :: ((wsX0_hasEqual_r1 ++ wsX0_hasEqual_r2) ++ wsX00 ++ (vx_atS RX0 151 "java/lang/IndexOutOfBoundsException" ["java/lang/RuntimeException", "java/lang/Exception"]).filter goodWord)
def wsX0_rateThere : List Cond := .code yX0_rateThere cX0_rateThere 4 (some .int) :: ([.fieldLink RX0 13 "AssignmentHouse" "equalRate" "[I", .fieldLink RX0 9 "AssignmentHouse" "plainRate" "[I", .methodLink RX0 94 yX0_isEqual, .instanceMethod yX0_isEqual, .selects RX0 yX0_isEqual yX0_isEqual, .initialized RX0, .code yX0_isEqual cX0_isEqual 8 (some .boolean), .fieldLink RX0 29 "AssignmentHouse" "equalGap" "I", .fieldLink RX0 25 "AssignmentHouse" "equalSpan" "I", .methodLink RX0 141 yX0_weeksWorked, .instanceMethod yX0_weeksWorked, .selects RX0 yX0_weeksWorked yX0_weeksWorked, .code yX0_weeksWorked cX0_weeksWorked 5 (some .int), .fieldLink RX0 32 "AssignmentHouse" "shiftCount" "I", .fieldLink RX0 35 "AssignmentHouse" "workerOf" "[I", .fieldLink RX0 38 "AssignmentHouse" "siteOf" "[I", .fieldLink RX0 44 "AssignmentHouse" "hoursOf" "[I", .fieldLink RX0 41 "AssignmentHouse" "dayOf" "[I", .methodLink RX0 79 yX0_at, .static yX0_at, .code yX0_at cX0_at 2 (some .int), .methodLink RX0 100 yX0_weekOf, .static yX0_weekOf, .code yX0_weekOf cX0_weekOf 1 (some .int)] ++ wsX00)
def wsX0_shiftPay_r1 : List Cond := [Cond.fieldLink RX0 44 "AssignmentHouse" "hoursOf" "[I", Cond.fieldLink RX0 35 "AssignmentHouse" "workerOf" "[I", Cond.fieldLink RX0 38 "AssignmentHouse" "siteOf" "[I", Cond.fieldLink RX0 41 "AssignmentHouse" "dayOf" "[I", Cond.methodLink RX0 91 yX0_overtimeHours, Cond.instanceMethod yX0_overtimeHours, Cond.selects RX0 yX0_overtimeHours yX0_overtimeHours, Cond.initialized RX0, Cond.code yX0_overtimeHours cX0_overtimeHours 6 (some .int), Cond.fieldLink RX0 56 "AssignmentHouse" "aheadOnDay" "[I", Cond.methodLink RX0 133 Lib.Math.max.name, Cond.static Lib.Math.max.name, Cond.initialized "java/lang/Math", Cond.code Lib.Math.max.name Lib.Math.max.code 2 (some .int), Cond.methodLink RX0 138 Lib.Math.min.name, Cond.static Lib.Math.min.name, Cond.code Lib.Math.min.name Lib.Math.min.code 2 (some .int), Cond.methodLink RX0 122 yX0_fillAheadOnDay, Cond.instanceMethod yX0_fillAheadOnDay, Cond.selects RX0 yX0_fillAheadOnDay yX0_fillAheadOnDay, Cond.code yX0_fillAheadOnDay cX0_fillAheadOnDay 9 none, Cond.fieldLink RX0 32 "AssignmentHouse" "shiftCount" "I", Cond.methodLink RX0 79 yX0_at, Cond.static yX0_at]
def wsX0_shiftPay_r2 : List Cond := [Cond.code yX0_at cX0_at 2 (some .int), Cond.methodLink RX0 100 yX0_weekOf, Cond.static yX0_weekOf, Cond.code yX0_weekOf cX0_weekOf 1 (some .int), Cond.methodLink RX0 59 yX0_put, Cond.static yX0_put, Cond.code yX0_put cX0_put 3 none, Cond.methodLink RX0 87 yX0_isOfWorker, Cond.instanceMethod yX0_isOfWorker, Cond.selects RX0 yX0_isOfWorker yX0_isOfWorker, Cond.code yX0_isOfWorker cX0_isOfWorker 4 (some .boolean), Cond.methodLink RX0 126 yX0_plainOfDay, Cond.static yX0_plainOfDay, Cond.code yX0_plainOfDay cX0_plainOfDay 1 (some .int), Cond.methodLink RX0 129 yX0_plainByDayAhead, Cond.instanceMethod yX0_plainByDayAhead, Cond.selects RX0 yX0_plainByDayAhead yX0_plainByDayAhead, Cond.code yX0_plainByDayAhead cX0_plainByDayAhead 3 (some .int), Cond.methodLink RX0 112 yX0_rateThere, Cond.instanceMethod yX0_rateThere, Cond.selects RX0 yX0_rateThere yX0_rateThere, Cond.code yX0_rateThere cX0_rateThere 4 (some .int), Cond.fieldLink RX0 13 "AssignmentHouse" "equalRate" "[I", Cond.fieldLink RX0 9 "AssignmentHouse" "plainRate" "[I"]
def wsX0_shiftPay_r3 : List Cond := [Cond.methodLink RX0 94 yX0_isEqual, Cond.instanceMethod yX0_isEqual, Cond.selects RX0 yX0_isEqual yX0_isEqual, Cond.code yX0_isEqual cX0_isEqual 8 (some .boolean), Cond.fieldLink RX0 29 "AssignmentHouse" "equalGap" "I", Cond.fieldLink RX0 25 "AssignmentHouse" "equalSpan" "I", Cond.methodLink RX0 141 yX0_weeksWorked, Cond.instanceMethod yX0_weeksWorked, Cond.selects RX0 yX0_weeksWorked yX0_weeksWorked, Cond.code yX0_weeksWorked cX0_weeksWorked 5 (some .int)]
def wsX0_shiftPay : List Cond := .code yX0_shiftPay cX0_shiftPay 5 (some .int) :: ((wsX0_shiftPay_r1 ++ (wsX0_shiftPay_r2 ++ wsX0_shiftPay_r3)) ++ wsX00)
def wsX0_payOf_r1 : List Cond := [Cond.fieldLink RX0 32 "AssignmentHouse" "shiftCount" "I", Cond.methodLink RX0 63 yX0_needOneOf, Cond.static yX0_needOneOf, Cond.initialized RX0, Cond.code yX0_needOneOf cX0_needOneOf 2 none, Cond.classLink RX0 147 "java/lang/IndexOutOfBoundsException", Cond.initialized "java/lang/IndexOutOfBoundsException", Cond.methodLink RX0 97 yX0_shiftPay, Cond.instanceMethod yX0_shiftPay, Cond.selects RX0 yX0_shiftPay yX0_shiftPay, Cond.code yX0_shiftPay cX0_shiftPay 5 (some .int), Cond.fieldLink RX0 44 "AssignmentHouse" "hoursOf" "[I", Cond.fieldLink RX0 35 "AssignmentHouse" "workerOf" "[I", Cond.fieldLink RX0 38 "AssignmentHouse" "siteOf" "[I", Cond.fieldLink RX0 41 "AssignmentHouse" "dayOf" "[I", Cond.methodLink RX0 91 yX0_overtimeHours, Cond.instanceMethod yX0_overtimeHours, Cond.selects RX0 yX0_overtimeHours yX0_overtimeHours, Cond.code yX0_overtimeHours cX0_overtimeHours 6 (some .int), Cond.fieldLink RX0 56 "AssignmentHouse" "aheadOnDay" "[I", Cond.methodLink RX0 133 Lib.Math.max.name, Cond.static Lib.Math.max.name, Cond.initialized "java/lang/Math", Cond.code Lib.Math.max.name Lib.Math.max.code 2 (some .int)]
def wsX0_payOf_r2 : List Cond := [Cond.methodLink RX0 138 Lib.Math.min.name, Cond.static Lib.Math.min.name, Cond.code Lib.Math.min.name Lib.Math.min.code 2 (some .int), Cond.methodLink RX0 122 yX0_fillAheadOnDay, Cond.instanceMethod yX0_fillAheadOnDay, Cond.selects RX0 yX0_fillAheadOnDay yX0_fillAheadOnDay, Cond.code yX0_fillAheadOnDay cX0_fillAheadOnDay 9 none, Cond.methodLink RX0 79 yX0_at, Cond.static yX0_at, Cond.code yX0_at cX0_at 2 (some .int), Cond.methodLink RX0 100 yX0_weekOf, Cond.static yX0_weekOf, Cond.code yX0_weekOf cX0_weekOf 1 (some .int), Cond.methodLink RX0 59 yX0_put, Cond.static yX0_put, Cond.code yX0_put cX0_put 3 none, Cond.methodLink RX0 87 yX0_isOfWorker, Cond.instanceMethod yX0_isOfWorker, Cond.selects RX0 yX0_isOfWorker yX0_isOfWorker, Cond.code yX0_isOfWorker cX0_isOfWorker 4 (some .boolean), Cond.methodLink RX0 126 yX0_plainOfDay, Cond.static yX0_plainOfDay, Cond.code yX0_plainOfDay cX0_plainOfDay 1 (some .int), Cond.methodLink RX0 129 yX0_plainByDayAhead]
def wsX0_payOf_r3 : List Cond := [Cond.instanceMethod yX0_plainByDayAhead, Cond.selects RX0 yX0_plainByDayAhead yX0_plainByDayAhead, Cond.code yX0_plainByDayAhead cX0_plainByDayAhead 3 (some .int), Cond.methodLink RX0 112 yX0_rateThere, Cond.instanceMethod yX0_rateThere, Cond.selects RX0 yX0_rateThere yX0_rateThere, Cond.code yX0_rateThere cX0_rateThere 4 (some .int), Cond.fieldLink RX0 13 "AssignmentHouse" "equalRate" "[I", Cond.fieldLink RX0 9 "AssignmentHouse" "plainRate" "[I", Cond.methodLink RX0 94 yX0_isEqual, Cond.instanceMethod yX0_isEqual, Cond.selects RX0 yX0_isEqual yX0_isEqual, Cond.code yX0_isEqual cX0_isEqual 8 (some .boolean), Cond.fieldLink RX0 29 "AssignmentHouse" "equalGap" "I", Cond.fieldLink RX0 25 "AssignmentHouse" "equalSpan" "I", Cond.methodLink RX0 141 yX0_weeksWorked, Cond.instanceMethod yX0_weeksWorked, Cond.selects RX0 yX0_weeksWorked yX0_weeksWorked, Cond.code yX0_weeksWorked cX0_weeksWorked 5 (some .int)]
def wsX0_payOf : List Cond := .code yX0_payOf cX0_payOf 2 (some .int) :: ((wsX0_payOf_r1 ++ (wsX0_payOf_r2 ++ wsX0_payOf_r3)) ++ wsX00 ++ (vx_atS RX0 151 "java/lang/IndexOutOfBoundsException" ["java/lang/RuntimeException", "java/lang/Exception"]).filter goodWord)
def wsX0_isAtSite : List Cond := .code yX0_isAtSite cX0_isAtSite 4 (some .boolean) :: ([.fieldLink RX0 38 "AssignmentHouse" "siteOf" "[I", .fieldLink RX0 41 "AssignmentHouse" "dayOf" "[I", .methodLink RX0 79 yX0_at, .static yX0_at, .initialized RX0, .code yX0_at cX0_at 2 (some .int), .methodLink RX0 100 yX0_weekOf, .static yX0_weekOf, .code yX0_weekOf cX0_weekOf 1 (some .int)] ++ wsX00)
def wsX0_hoursAtSite : List Cond := .code yX0_hoursAtSite cX0_hoursAtSite 5 (some .int) :: ([.fieldLink RX0 32 "AssignmentHouse" "shiftCount" "I", .fieldLink RX0 44 "AssignmentHouse" "hoursOf" "[I", .methodLink RX0 119 yX0_isAtSite, .instanceMethod yX0_isAtSite, .selects RX0 yX0_isAtSite yX0_isAtSite, .initialized RX0, .code yX0_isAtSite cX0_isAtSite 4 (some .boolean), .fieldLink RX0 38 "AssignmentHouse" "siteOf" "[I", .fieldLink RX0 41 "AssignmentHouse" "dayOf" "[I", .methodLink RX0 79 yX0_at, .static yX0_at, .code yX0_at cX0_at 2 (some .int), .methodLink RX0 100 yX0_weekOf, .static yX0_weekOf, .code yX0_weekOf cX0_weekOf 1 (some .int)] ++ wsX00)
def wsX0_marginAt : List Cond := .code yX0_marginAt cX0_marginAt 4 (some .int) :: ([.fieldLink RX0 22 "AssignmentHouse" "lowVolume" "[I", .fieldLink RX0 19 "AssignmentHouse" "lowMargin" "[I", .fieldLink RX0 16 "AssignmentHouse" "highMargin" "[I", .methodLink RX0 144 yX0_hoursAtSite, .instanceMethod yX0_hoursAtSite, .selects RX0 yX0_hoursAtSite yX0_hoursAtSite, .initialized RX0, .code yX0_hoursAtSite cX0_hoursAtSite 5 (some .int), .fieldLink RX0 32 "AssignmentHouse" "shiftCount" "I", .fieldLink RX0 44 "AssignmentHouse" "hoursOf" "[I", .methodLink RX0 119 yX0_isAtSite, .instanceMethod yX0_isAtSite, .selects RX0 yX0_isAtSite yX0_isAtSite, .code yX0_isAtSite cX0_isAtSite 4 (some .boolean), .fieldLink RX0 38 "AssignmentHouse" "siteOf" "[I", .fieldLink RX0 41 "AssignmentHouse" "dayOf" "[I", .methodLink RX0 79 yX0_at, .static yX0_at, .code yX0_at cX0_at 2 (some .int), .methodLink RX0 100 yX0_weekOf, .static yX0_weekOf, .code yX0_weekOf cX0_weekOf 1 (some .int)] ++ wsX00)
def wsX0_chargeFor : List Cond := .code yX0_chargeFor cX0_chargeFor 2 (some .int) :: ([])
def wsX0_chargeOf_r1 : List Cond := [Cond.fieldLink RX0 32 "AssignmentHouse" "shiftCount" "I", Cond.fieldLink RX0 38 "AssignmentHouse" "siteOf" "[I", Cond.fieldLink RX0 41 "AssignmentHouse" "dayOf" "[I", Cond.methodLink RX0 63 yX0_needOneOf, Cond.static yX0_needOneOf, Cond.initialized RX0, Cond.code yX0_needOneOf cX0_needOneOf 2 none, Cond.classLink RX0 147 "java/lang/IndexOutOfBoundsException", Cond.initialized "java/lang/IndexOutOfBoundsException", Cond.methodLink RX0 79 yX0_at, Cond.static yX0_at, Cond.code yX0_at cX0_at 2 (some .int), Cond.methodLink RX0 100 yX0_weekOf, Cond.static yX0_weekOf, Cond.code yX0_weekOf cX0_weekOf 1 (some .int), Cond.methodLink RX0 103 yX0_marginAt, Cond.instanceMethod yX0_marginAt, Cond.selects RX0 yX0_marginAt yX0_marginAt, Cond.code yX0_marginAt cX0_marginAt 4 (some .int), Cond.fieldLink RX0 22 "AssignmentHouse" "lowVolume" "[I", Cond.fieldLink RX0 19 "AssignmentHouse" "lowMargin" "[I", Cond.fieldLink RX0 16 "AssignmentHouse" "highMargin" "[I", Cond.methodLink RX0 144 yX0_hoursAtSite, Cond.instanceMethod yX0_hoursAtSite]
def wsX0_chargeOf_r2 : List Cond := [Cond.selects RX0 yX0_hoursAtSite yX0_hoursAtSite, Cond.code yX0_hoursAtSite cX0_hoursAtSite 5 (some .int), Cond.fieldLink RX0 44 "AssignmentHouse" "hoursOf" "[I", Cond.methodLink RX0 119 yX0_isAtSite, Cond.instanceMethod yX0_isAtSite, Cond.selects RX0 yX0_isAtSite yX0_isAtSite, Cond.code yX0_isAtSite cX0_isAtSite 4 (some .boolean), Cond.methodLink RX0 97 yX0_shiftPay, Cond.instanceMethod yX0_shiftPay, Cond.selects RX0 yX0_shiftPay yX0_shiftPay, Cond.code yX0_shiftPay cX0_shiftPay 5 (some .int), Cond.fieldLink RX0 35 "AssignmentHouse" "workerOf" "[I", Cond.methodLink RX0 91 yX0_overtimeHours, Cond.instanceMethod yX0_overtimeHours, Cond.selects RX0 yX0_overtimeHours yX0_overtimeHours, Cond.code yX0_overtimeHours cX0_overtimeHours 6 (some .int), Cond.fieldLink RX0 56 "AssignmentHouse" "aheadOnDay" "[I", Cond.methodLink RX0 133 Lib.Math.max.name, Cond.static Lib.Math.max.name, Cond.initialized "java/lang/Math", Cond.code Lib.Math.max.name Lib.Math.max.code 2 (some .int), Cond.methodLink RX0 138 Lib.Math.min.name, Cond.static Lib.Math.min.name, Cond.code Lib.Math.min.name Lib.Math.min.code 2 (some .int)]
def wsX0_chargeOf_r3 : List Cond := [Cond.methodLink RX0 122 yX0_fillAheadOnDay, Cond.instanceMethod yX0_fillAheadOnDay, Cond.selects RX0 yX0_fillAheadOnDay yX0_fillAheadOnDay, Cond.code yX0_fillAheadOnDay cX0_fillAheadOnDay 9 none, Cond.methodLink RX0 59 yX0_put, Cond.static yX0_put, Cond.code yX0_put cX0_put 3 none, Cond.methodLink RX0 87 yX0_isOfWorker, Cond.instanceMethod yX0_isOfWorker, Cond.selects RX0 yX0_isOfWorker yX0_isOfWorker, Cond.code yX0_isOfWorker cX0_isOfWorker 4 (some .boolean), Cond.methodLink RX0 126 yX0_plainOfDay, Cond.static yX0_plainOfDay, Cond.code yX0_plainOfDay cX0_plainOfDay 1 (some .int), Cond.methodLink RX0 129 yX0_plainByDayAhead, Cond.instanceMethod yX0_plainByDayAhead, Cond.selects RX0 yX0_plainByDayAhead yX0_plainByDayAhead, Cond.code yX0_plainByDayAhead cX0_plainByDayAhead 3 (some .int), Cond.methodLink RX0 112 yX0_rateThere, Cond.instanceMethod yX0_rateThere, Cond.selects RX0 yX0_rateThere yX0_rateThere, Cond.code yX0_rateThere cX0_rateThere 4 (some .int), Cond.fieldLink RX0 13 "AssignmentHouse" "equalRate" "[I", Cond.fieldLink RX0 9 "AssignmentHouse" "plainRate" "[I"]
def wsX0_chargeOf_r4 : List Cond := [Cond.methodLink RX0 94 yX0_isEqual, Cond.instanceMethod yX0_isEqual, Cond.selects RX0 yX0_isEqual yX0_isEqual, Cond.code yX0_isEqual cX0_isEqual 8 (some .boolean), Cond.fieldLink RX0 29 "AssignmentHouse" "equalGap" "I", Cond.fieldLink RX0 25 "AssignmentHouse" "equalSpan" "I", Cond.methodLink RX0 141 yX0_weeksWorked, Cond.instanceMethod yX0_weeksWorked, Cond.selects RX0 yX0_weeksWorked yX0_weeksWorked, Cond.code yX0_weeksWorked cX0_weeksWorked 5 (some .int), Cond.methodLink RX0 106 yX0_chargeFor, Cond.static yX0_chargeFor, Cond.code yX0_chargeFor cX0_chargeFor 2 (some .int)]
def wsX0_chargeOf : List Cond := .code yX0_chargeOf cX0_chargeOf 3 (some .int) :: ((wsX0_chargeOf_r1 ++ (wsX0_chargeOf_r2 ++ (wsX0_chargeOf_r3 ++ wsX0_chargeOf_r4))) ++ wsX00 ++ (vx_atS RX0 151 "java/lang/IndexOutOfBoundsException" ["java/lang/RuntimeException", "java/lang/Exception"]).filter goodWord)
def wsX0_weekPay_r1 : List Cond := [Cond.fieldLink RX0 32 "AssignmentHouse" "shiftCount" "I", Cond.methodLink RX0 87 yX0_isOfWorker, Cond.instanceMethod yX0_isOfWorker, Cond.selects RX0 yX0_isOfWorker yX0_isOfWorker, Cond.initialized RX0, Cond.code yX0_isOfWorker cX0_isOfWorker 4 (some .boolean), Cond.fieldLink RX0 35 "AssignmentHouse" "workerOf" "[I", Cond.fieldLink RX0 41 "AssignmentHouse" "dayOf" "[I", Cond.methodLink RX0 79 yX0_at, Cond.static yX0_at, Cond.code yX0_at cX0_at 2 (some .int), Cond.methodLink RX0 100 yX0_weekOf, Cond.static yX0_weekOf, Cond.code yX0_weekOf cX0_weekOf 1 (some .int), Cond.methodLink RX0 97 yX0_shiftPay, Cond.instanceMethod yX0_shiftPay, Cond.selects RX0 yX0_shiftPay yX0_shiftPay, Cond.code yX0_shiftPay cX0_shiftPay 5 (some .int), Cond.fieldLink RX0 44 "AssignmentHouse" "hoursOf" "[I", Cond.fieldLink RX0 38 "AssignmentHouse" "siteOf" "[I", Cond.methodLink RX0 91 yX0_overtimeHours, Cond.instanceMethod yX0_overtimeHours, Cond.selects RX0 yX0_overtimeHours yX0_overtimeHours, Cond.code yX0_overtimeHours cX0_overtimeHours 6 (some .int)]
def wsX0_weekPay_r2 : List Cond := [Cond.fieldLink RX0 56 "AssignmentHouse" "aheadOnDay" "[I", Cond.methodLink RX0 133 Lib.Math.max.name, Cond.static Lib.Math.max.name, Cond.initialized "java/lang/Math", Cond.code Lib.Math.max.name Lib.Math.max.code 2 (some .int), Cond.methodLink RX0 138 Lib.Math.min.name, Cond.static Lib.Math.min.name, Cond.code Lib.Math.min.name Lib.Math.min.code 2 (some .int), Cond.methodLink RX0 122 yX0_fillAheadOnDay, Cond.instanceMethod yX0_fillAheadOnDay, Cond.selects RX0 yX0_fillAheadOnDay yX0_fillAheadOnDay, Cond.code yX0_fillAheadOnDay cX0_fillAheadOnDay 9 none, Cond.methodLink RX0 59 yX0_put, Cond.static yX0_put, Cond.code yX0_put cX0_put 3 none, Cond.methodLink RX0 126 yX0_plainOfDay, Cond.static yX0_plainOfDay, Cond.code yX0_plainOfDay cX0_plainOfDay 1 (some .int), Cond.methodLink RX0 129 yX0_plainByDayAhead, Cond.instanceMethod yX0_plainByDayAhead, Cond.selects RX0 yX0_plainByDayAhead yX0_plainByDayAhead, Cond.code yX0_plainByDayAhead cX0_plainByDayAhead 3 (some .int), Cond.methodLink RX0 112 yX0_rateThere, Cond.instanceMethod yX0_rateThere]
def wsX0_weekPay_r3 : List Cond := [Cond.selects RX0 yX0_rateThere yX0_rateThere, Cond.code yX0_rateThere cX0_rateThere 4 (some .int), Cond.fieldLink RX0 13 "AssignmentHouse" "equalRate" "[I", Cond.fieldLink RX0 9 "AssignmentHouse" "plainRate" "[I", Cond.methodLink RX0 94 yX0_isEqual, Cond.instanceMethod yX0_isEqual, Cond.selects RX0 yX0_isEqual yX0_isEqual, Cond.code yX0_isEqual cX0_isEqual 8 (some .boolean), Cond.fieldLink RX0 29 "AssignmentHouse" "equalGap" "I", Cond.fieldLink RX0 25 "AssignmentHouse" "equalSpan" "I", Cond.methodLink RX0 141 yX0_weeksWorked, Cond.instanceMethod yX0_weeksWorked, Cond.selects RX0 yX0_weeksWorked yX0_weeksWorked, Cond.code yX0_weeksWorked cX0_weeksWorked 5 (some .int)]
def wsX0_weekPay : List Cond := .code yX0_weekPay cX0_weekPay 5 (some .int) :: ((wsX0_weekPay_r1 ++ (wsX0_weekPay_r2 ++ wsX0_weekPay_r3)) ++ wsX00)
def wsX0_pay_r1 : List Cond := [Cond.methodLink RX0 63 yX0_needOneOf, Cond.static yX0_needOneOf, Cond.initialized RX0, Cond.code yX0_needOneOf cX0_needOneOf 2 none, Cond.classLink RX0 147 "java/lang/IndexOutOfBoundsException", Cond.initialized "java/lang/IndexOutOfBoundsException", Cond.methodLink RX0 109 yX0_weekPay, Cond.instanceMethod yX0_weekPay, Cond.selects RX0 yX0_weekPay yX0_weekPay, Cond.code yX0_weekPay cX0_weekPay 5 (some .int), Cond.fieldLink RX0 32 "AssignmentHouse" "shiftCount" "I", Cond.methodLink RX0 87 yX0_isOfWorker, Cond.instanceMethod yX0_isOfWorker, Cond.selects RX0 yX0_isOfWorker yX0_isOfWorker, Cond.code yX0_isOfWorker cX0_isOfWorker 4 (some .boolean), Cond.fieldLink RX0 35 "AssignmentHouse" "workerOf" "[I", Cond.fieldLink RX0 41 "AssignmentHouse" "dayOf" "[I", Cond.methodLink RX0 79 yX0_at, Cond.static yX0_at, Cond.code yX0_at cX0_at 2 (some .int), Cond.methodLink RX0 100 yX0_weekOf, Cond.static yX0_weekOf, Cond.code yX0_weekOf cX0_weekOf 1 (some .int), Cond.methodLink RX0 97 yX0_shiftPay]
def wsX0_pay_r2 : List Cond := [Cond.instanceMethod yX0_shiftPay, Cond.selects RX0 yX0_shiftPay yX0_shiftPay, Cond.code yX0_shiftPay cX0_shiftPay 5 (some .int), Cond.fieldLink RX0 44 "AssignmentHouse" "hoursOf" "[I", Cond.fieldLink RX0 38 "AssignmentHouse" "siteOf" "[I", Cond.methodLink RX0 91 yX0_overtimeHours, Cond.instanceMethod yX0_overtimeHours, Cond.selects RX0 yX0_overtimeHours yX0_overtimeHours, Cond.code yX0_overtimeHours cX0_overtimeHours 6 (some .int), Cond.fieldLink RX0 56 "AssignmentHouse" "aheadOnDay" "[I", Cond.methodLink RX0 133 Lib.Math.max.name, Cond.static Lib.Math.max.name, Cond.initialized "java/lang/Math", Cond.code Lib.Math.max.name Lib.Math.max.code 2 (some .int), Cond.methodLink RX0 138 Lib.Math.min.name, Cond.static Lib.Math.min.name, Cond.code Lib.Math.min.name Lib.Math.min.code 2 (some .int), Cond.methodLink RX0 122 yX0_fillAheadOnDay, Cond.instanceMethod yX0_fillAheadOnDay, Cond.selects RX0 yX0_fillAheadOnDay yX0_fillAheadOnDay, Cond.code yX0_fillAheadOnDay cX0_fillAheadOnDay 9 none, Cond.methodLink RX0 59 yX0_put, Cond.static yX0_put, Cond.code yX0_put cX0_put 3 none]
def wsX0_pay_r3 : List Cond := [Cond.methodLink RX0 126 yX0_plainOfDay, Cond.static yX0_plainOfDay, Cond.code yX0_plainOfDay cX0_plainOfDay 1 (some .int), Cond.methodLink RX0 129 yX0_plainByDayAhead, Cond.instanceMethod yX0_plainByDayAhead, Cond.selects RX0 yX0_plainByDayAhead yX0_plainByDayAhead, Cond.code yX0_plainByDayAhead cX0_plainByDayAhead 3 (some .int), Cond.methodLink RX0 112 yX0_rateThere, Cond.instanceMethod yX0_rateThere, Cond.selects RX0 yX0_rateThere yX0_rateThere, Cond.code yX0_rateThere cX0_rateThere 4 (some .int), Cond.fieldLink RX0 13 "AssignmentHouse" "equalRate" "[I", Cond.fieldLink RX0 9 "AssignmentHouse" "plainRate" "[I", Cond.methodLink RX0 94 yX0_isEqual, Cond.instanceMethod yX0_isEqual, Cond.selects RX0 yX0_isEqual yX0_isEqual, Cond.code yX0_isEqual cX0_isEqual 8 (some .boolean), Cond.fieldLink RX0 29 "AssignmentHouse" "equalGap" "I", Cond.fieldLink RX0 25 "AssignmentHouse" "equalSpan" "I", Cond.methodLink RX0 141 yX0_weeksWorked, Cond.instanceMethod yX0_weeksWorked, Cond.selects RX0 yX0_weeksWorked yX0_weeksWorked, Cond.code yX0_weeksWorked cX0_weeksWorked 5 (some .int)]
def wsX0_pay : List Cond := .code yX0_pay cX0_pay 3 (some .int) :: ((wsX0_pay_r1 ++ (wsX0_pay_r2 ++ wsX0_pay_r3)) ++ wsX00 ++ (vx_atS RX0 151 "java/lang/IndexOutOfBoundsException" ["java/lang/RuntimeException", "java/lang/Exception"]).filter goodWord)
def wsX0_payByHours_r1 : List Cond := [Cond.fieldLink RX0 32 "AssignmentHouse" "shiftCount" "I", Cond.fieldLink RX0 35 "AssignmentHouse" "workerOf" "[I", Cond.fieldLink RX0 41 "AssignmentHouse" "dayOf" "[I", Cond.fieldLink RX0 38 "AssignmentHouse" "siteOf" "[I", Cond.fieldLink RX0 44 "AssignmentHouse" "hoursOf" "[I", Cond.methodLink RX0 63 yX0_needOneOf, Cond.static yX0_needOneOf, Cond.initialized RX0, Cond.code yX0_needOneOf cX0_needOneOf 2 none, Cond.classLink RX0 147 "java/lang/IndexOutOfBoundsException", Cond.initialized "java/lang/IndexOutOfBoundsException", Cond.methodLink RX0 79 yX0_at, Cond.static yX0_at, Cond.code yX0_at cX0_at 2 (some .int), Cond.methodLink RX0 112 yX0_rateThere, Cond.instanceMethod yX0_rateThere, Cond.selects RX0 yX0_rateThere yX0_rateThere, Cond.code yX0_rateThere cX0_rateThere 4 (some .int), Cond.fieldLink RX0 13 "AssignmentHouse" "equalRate" "[I", Cond.fieldLink RX0 9 "AssignmentHouse" "plainRate" "[I", Cond.methodLink RX0 94 yX0_isEqual, Cond.instanceMethod yX0_isEqual, Cond.selects RX0 yX0_isEqual yX0_isEqual, Cond.code yX0_isEqual cX0_isEqual 8 (some .boolean)]
def wsX0_payByHours_r2 : List Cond := [Cond.fieldLink RX0 29 "AssignmentHouse" "equalGap" "I", Cond.fieldLink RX0 25 "AssignmentHouse" "equalSpan" "I", Cond.methodLink RX0 141 yX0_weeksWorked, Cond.instanceMethod yX0_weeksWorked, Cond.selects RX0 yX0_weeksWorked yX0_weeksWorked, Cond.code yX0_weeksWorked cX0_weeksWorked 5 (some .int), Cond.methodLink RX0 100 yX0_weekOf, Cond.static yX0_weekOf, Cond.code yX0_weekOf cX0_weekOf 1 (some .int)]
def wsX0_payByHours : List Cond := .code yX0_payByHours cX0_payByHours 13 (some .int) :: ((wsX0_payByHours_r1 ++ wsX0_payByHours_r2) ++ wsX00 ++ (vx_atS RX0 151 "java/lang/IndexOutOfBoundsException" ["java/lang/RuntimeException", "java/lang/Exception"]).filter goodWord)
def wsX0_weekCharge_r1 : List Cond := [Cond.fieldLink RX0 32 "AssignmentHouse" "shiftCount" "I", Cond.methodLink RX0 103 yX0_marginAt, Cond.instanceMethod yX0_marginAt, Cond.selects RX0 yX0_marginAt yX0_marginAt, Cond.initialized RX0, Cond.code yX0_marginAt cX0_marginAt 4 (some .int), Cond.fieldLink RX0 22 "AssignmentHouse" "lowVolume" "[I", Cond.fieldLink RX0 19 "AssignmentHouse" "lowMargin" "[I", Cond.fieldLink RX0 16 "AssignmentHouse" "highMargin" "[I", Cond.methodLink RX0 144 yX0_hoursAtSite, Cond.instanceMethod yX0_hoursAtSite, Cond.selects RX0 yX0_hoursAtSite yX0_hoursAtSite, Cond.code yX0_hoursAtSite cX0_hoursAtSite 5 (some .int), Cond.fieldLink RX0 44 "AssignmentHouse" "hoursOf" "[I", Cond.methodLink RX0 119 yX0_isAtSite, Cond.instanceMethod yX0_isAtSite, Cond.selects RX0 yX0_isAtSite yX0_isAtSite, Cond.code yX0_isAtSite cX0_isAtSite 4 (some .boolean), Cond.fieldLink RX0 38 "AssignmentHouse" "siteOf" "[I", Cond.fieldLink RX0 41 "AssignmentHouse" "dayOf" "[I", Cond.methodLink RX0 79 yX0_at, Cond.static yX0_at, Cond.code yX0_at cX0_at 2 (some .int), Cond.methodLink RX0 100 yX0_weekOf]
def wsX0_weekCharge_r2 : List Cond := [Cond.static yX0_weekOf, Cond.code yX0_weekOf cX0_weekOf 1 (some .int), Cond.methodLink RX0 97 yX0_shiftPay, Cond.instanceMethod yX0_shiftPay, Cond.selects RX0 yX0_shiftPay yX0_shiftPay, Cond.code yX0_shiftPay cX0_shiftPay 5 (some .int), Cond.fieldLink RX0 35 "AssignmentHouse" "workerOf" "[I", Cond.methodLink RX0 91 yX0_overtimeHours, Cond.instanceMethod yX0_overtimeHours, Cond.selects RX0 yX0_overtimeHours yX0_overtimeHours, Cond.code yX0_overtimeHours cX0_overtimeHours 6 (some .int), Cond.fieldLink RX0 56 "AssignmentHouse" "aheadOnDay" "[I", Cond.methodLink RX0 133 Lib.Math.max.name, Cond.static Lib.Math.max.name, Cond.initialized "java/lang/Math", Cond.code Lib.Math.max.name Lib.Math.max.code 2 (some .int), Cond.methodLink RX0 138 Lib.Math.min.name, Cond.static Lib.Math.min.name, Cond.code Lib.Math.min.name Lib.Math.min.code 2 (some .int), Cond.methodLink RX0 122 yX0_fillAheadOnDay, Cond.instanceMethod yX0_fillAheadOnDay, Cond.selects RX0 yX0_fillAheadOnDay yX0_fillAheadOnDay, Cond.code yX0_fillAheadOnDay cX0_fillAheadOnDay 9 none, Cond.methodLink RX0 59 yX0_put]
def wsX0_weekCharge_r3 : List Cond := [Cond.static yX0_put, Cond.code yX0_put cX0_put 3 none, Cond.methodLink RX0 87 yX0_isOfWorker, Cond.instanceMethod yX0_isOfWorker, Cond.selects RX0 yX0_isOfWorker yX0_isOfWorker, Cond.code yX0_isOfWorker cX0_isOfWorker 4 (some .boolean), Cond.methodLink RX0 126 yX0_plainOfDay, Cond.static yX0_plainOfDay, Cond.code yX0_plainOfDay cX0_plainOfDay 1 (some .int), Cond.methodLink RX0 129 yX0_plainByDayAhead, Cond.instanceMethod yX0_plainByDayAhead, Cond.selects RX0 yX0_plainByDayAhead yX0_plainByDayAhead, Cond.code yX0_plainByDayAhead cX0_plainByDayAhead 3 (some .int), Cond.methodLink RX0 112 yX0_rateThere, Cond.instanceMethod yX0_rateThere, Cond.selects RX0 yX0_rateThere yX0_rateThere, Cond.code yX0_rateThere cX0_rateThere 4 (some .int), Cond.fieldLink RX0 13 "AssignmentHouse" "equalRate" "[I", Cond.fieldLink RX0 9 "AssignmentHouse" "plainRate" "[I", Cond.methodLink RX0 94 yX0_isEqual, Cond.instanceMethod yX0_isEqual, Cond.selects RX0 yX0_isEqual yX0_isEqual, Cond.code yX0_isEqual cX0_isEqual 8 (some .boolean), Cond.fieldLink RX0 29 "AssignmentHouse" "equalGap" "I"]
def wsX0_weekCharge_r4 : List Cond := [Cond.fieldLink RX0 25 "AssignmentHouse" "equalSpan" "I", Cond.methodLink RX0 141 yX0_weeksWorked, Cond.instanceMethod yX0_weeksWorked, Cond.selects RX0 yX0_weeksWorked yX0_weeksWorked, Cond.code yX0_weeksWorked cX0_weeksWorked 5 (some .int), Cond.methodLink RX0 106 yX0_chargeFor, Cond.static yX0_chargeFor, Cond.code yX0_chargeFor cX0_chargeFor 2 (some .int)]
def wsX0_weekCharge : List Cond := .code yX0_weekCharge cX0_weekCharge 6 (some .int) :: ((wsX0_weekCharge_r1 ++ (wsX0_weekCharge_r2 ++ (wsX0_weekCharge_r3 ++ wsX0_weekCharge_r4))) ++ wsX00)
def wsX0_run_r1 : List Cond := [Cond.fieldLink RX0 47 "AssignmentHouse" "paidFor" "[I", Cond.fieldLink RX0 50 "AssignmentHouse" "billedFor" "[I", Cond.methodLink RX0 63 yX0_needOneOf, Cond.static yX0_needOneOf, Cond.initialized RX0, Cond.code yX0_needOneOf cX0_needOneOf 2 none, Cond.classLink RX0 147 "java/lang/IndexOutOfBoundsException", Cond.initialized "java/lang/IndexOutOfBoundsException", Cond.methodLink RX0 109 yX0_weekPay, Cond.instanceMethod yX0_weekPay, Cond.selects RX0 yX0_weekPay yX0_weekPay, Cond.code yX0_weekPay cX0_weekPay 5 (some .int), Cond.fieldLink RX0 32 "AssignmentHouse" "shiftCount" "I", Cond.methodLink RX0 87 yX0_isOfWorker, Cond.instanceMethod yX0_isOfWorker, Cond.selects RX0 yX0_isOfWorker yX0_isOfWorker, Cond.code yX0_isOfWorker cX0_isOfWorker 4 (some .boolean), Cond.fieldLink RX0 35 "AssignmentHouse" "workerOf" "[I", Cond.fieldLink RX0 41 "AssignmentHouse" "dayOf" "[I", Cond.methodLink RX0 79 yX0_at, Cond.static yX0_at, Cond.code yX0_at cX0_at 2 (some .int), Cond.methodLink RX0 100 yX0_weekOf, Cond.static yX0_weekOf]
def wsX0_run_r2 : List Cond := [Cond.code yX0_weekOf cX0_weekOf 1 (some .int), Cond.methodLink RX0 97 yX0_shiftPay, Cond.instanceMethod yX0_shiftPay, Cond.selects RX0 yX0_shiftPay yX0_shiftPay, Cond.code yX0_shiftPay cX0_shiftPay 5 (some .int), Cond.fieldLink RX0 44 "AssignmentHouse" "hoursOf" "[I", Cond.fieldLink RX0 38 "AssignmentHouse" "siteOf" "[I", Cond.methodLink RX0 91 yX0_overtimeHours, Cond.instanceMethod yX0_overtimeHours, Cond.selects RX0 yX0_overtimeHours yX0_overtimeHours, Cond.code yX0_overtimeHours cX0_overtimeHours 6 (some .int), Cond.fieldLink RX0 56 "AssignmentHouse" "aheadOnDay" "[I", Cond.methodLink RX0 133 Lib.Math.max.name, Cond.static Lib.Math.max.name, Cond.initialized "java/lang/Math", Cond.code Lib.Math.max.name Lib.Math.max.code 2 (some .int), Cond.methodLink RX0 138 Lib.Math.min.name, Cond.static Lib.Math.min.name, Cond.code Lib.Math.min.name Lib.Math.min.code 2 (some .int), Cond.methodLink RX0 122 yX0_fillAheadOnDay, Cond.instanceMethod yX0_fillAheadOnDay, Cond.selects RX0 yX0_fillAheadOnDay yX0_fillAheadOnDay, Cond.code yX0_fillAheadOnDay cX0_fillAheadOnDay 9 none, Cond.methodLink RX0 59 yX0_put]
def wsX0_run_r3 : List Cond := [Cond.static yX0_put, Cond.code yX0_put cX0_put 3 none, Cond.methodLink RX0 126 yX0_plainOfDay, Cond.static yX0_plainOfDay, Cond.code yX0_plainOfDay cX0_plainOfDay 1 (some .int), Cond.methodLink RX0 129 yX0_plainByDayAhead, Cond.instanceMethod yX0_plainByDayAhead, Cond.selects RX0 yX0_plainByDayAhead yX0_plainByDayAhead, Cond.code yX0_plainByDayAhead cX0_plainByDayAhead 3 (some .int), Cond.methodLink RX0 112 yX0_rateThere, Cond.instanceMethod yX0_rateThere, Cond.selects RX0 yX0_rateThere yX0_rateThere, Cond.code yX0_rateThere cX0_rateThere 4 (some .int), Cond.fieldLink RX0 13 "AssignmentHouse" "equalRate" "[I", Cond.fieldLink RX0 9 "AssignmentHouse" "plainRate" "[I", Cond.methodLink RX0 94 yX0_isEqual, Cond.instanceMethod yX0_isEqual, Cond.selects RX0 yX0_isEqual yX0_isEqual, Cond.code yX0_isEqual cX0_isEqual 8 (some .boolean), Cond.fieldLink RX0 29 "AssignmentHouse" "equalGap" "I", Cond.fieldLink RX0 25 "AssignmentHouse" "equalSpan" "I", Cond.methodLink RX0 141 yX0_weeksWorked, Cond.instanceMethod yX0_weeksWorked, Cond.selects RX0 yX0_weeksWorked yX0_weeksWorked]
def wsX0_run_r4 : List Cond := [Cond.code yX0_weeksWorked cX0_weeksWorked 5 (some .int), Cond.methodLink RX0 116 yX0_weekCharge, Cond.instanceMethod yX0_weekCharge, Cond.selects RX0 yX0_weekCharge yX0_weekCharge, Cond.code yX0_weekCharge cX0_weekCharge 6 (some .int), Cond.methodLink RX0 103 yX0_marginAt, Cond.instanceMethod yX0_marginAt, Cond.selects RX0 yX0_marginAt yX0_marginAt, Cond.code yX0_marginAt cX0_marginAt 4 (some .int), Cond.fieldLink RX0 22 "AssignmentHouse" "lowVolume" "[I", Cond.fieldLink RX0 19 "AssignmentHouse" "lowMargin" "[I", Cond.fieldLink RX0 16 "AssignmentHouse" "highMargin" "[I", Cond.methodLink RX0 144 yX0_hoursAtSite, Cond.instanceMethod yX0_hoursAtSite, Cond.selects RX0 yX0_hoursAtSite yX0_hoursAtSite, Cond.code yX0_hoursAtSite cX0_hoursAtSite 5 (some .int), Cond.methodLink RX0 119 yX0_isAtSite, Cond.instanceMethod yX0_isAtSite, Cond.selects RX0 yX0_isAtSite yX0_isAtSite, Cond.code yX0_isAtSite cX0_isAtSite 4 (some .boolean), Cond.methodLink RX0 106 yX0_chargeFor, Cond.static yX0_chargeFor, Cond.code yX0_chargeFor cX0_chargeFor 2 (some .int)]
def wsX0_run : List Cond := .code yX0_run cX0_run 6 (some .int) :: ((wsX0_run_r1 ++ (wsX0_run_r2 ++ (wsX0_run_r3 ++ wsX0_run_r4))) ++ wsX00 ++ (vx_atS RX0 151 "java/lang/IndexOutOfBoundsException" ["java/lang/RuntimeException", "java/lang/Exception"]).filter goodWord)
def wsX0_paid : List Cond := .code yX0_paid cX0_paid 3 (some .int) :: ([.fieldLink RX0 47 "AssignmentHouse" "paidFor" "[I", .methodLink RX0 63 yX0_needOneOf, .static yX0_needOneOf, .initialized RX0, .code yX0_needOneOf cX0_needOneOf 2 none, .classLink RX0 147 "java/lang/IndexOutOfBoundsException", .initialized "java/lang/IndexOutOfBoundsException", .methodLink RX0 79 yX0_at, .static yX0_at, .code yX0_at cX0_at 2 (some .int)] ++ wsX00 ++ (vx_atS RX0 151 "java/lang/IndexOutOfBoundsException" ["java/lang/RuntimeException", "java/lang/Exception"]).filter goodWord)
def wsX0_billed : List Cond := .code yX0_billed cX0_billed 3 (some .int) :: ([.fieldLink RX0 50 "AssignmentHouse" "billedFor" "[I", .methodLink RX0 63 yX0_needOneOf, .static yX0_needOneOf, .initialized RX0, .code yX0_needOneOf cX0_needOneOf 2 none, .classLink RX0 147 "java/lang/IndexOutOfBoundsException", .initialized "java/lang/IndexOutOfBoundsException", .methodLink RX0 79 yX0_at, .static yX0_at, .code yX0_at cX0_at 2 (some .int)] ++ wsX00 ++ (vx_atS RX0 151 "java/lang/IndexOutOfBoundsException" ["java/lang/RuntimeException", "java/lang/Exception"]).filter goodWord)
def wsX0_owing_r1 : List Cond := [Cond.fieldLink RX0 47 "AssignmentHouse" "paidFor" "[I", Cond.methodLink RX0 63 yX0_needOneOf, Cond.static yX0_needOneOf, Cond.initialized RX0, Cond.code yX0_needOneOf cX0_needOneOf 2 none, Cond.classLink RX0 147 "java/lang/IndexOutOfBoundsException", Cond.initialized "java/lang/IndexOutOfBoundsException", Cond.methodLink RX0 109 yX0_weekPay, Cond.instanceMethod yX0_weekPay, Cond.selects RX0 yX0_weekPay yX0_weekPay, Cond.code yX0_weekPay cX0_weekPay 5 (some .int), Cond.fieldLink RX0 32 "AssignmentHouse" "shiftCount" "I", Cond.methodLink RX0 87 yX0_isOfWorker, Cond.instanceMethod yX0_isOfWorker, Cond.selects RX0 yX0_isOfWorker yX0_isOfWorker, Cond.code yX0_isOfWorker cX0_isOfWorker 4 (some .boolean), Cond.fieldLink RX0 35 "AssignmentHouse" "workerOf" "[I", Cond.fieldLink RX0 41 "AssignmentHouse" "dayOf" "[I", Cond.methodLink RX0 79 yX0_at, Cond.static yX0_at, Cond.code yX0_at cX0_at 2 (some .int), Cond.methodLink RX0 100 yX0_weekOf, Cond.static yX0_weekOf, Cond.code yX0_weekOf cX0_weekOf 1 (some .int)]
def wsX0_owing_r2 : List Cond := [Cond.methodLink RX0 97 yX0_shiftPay, Cond.instanceMethod yX0_shiftPay, Cond.selects RX0 yX0_shiftPay yX0_shiftPay, Cond.code yX0_shiftPay cX0_shiftPay 5 (some .int), Cond.fieldLink RX0 44 "AssignmentHouse" "hoursOf" "[I", Cond.fieldLink RX0 38 "AssignmentHouse" "siteOf" "[I", Cond.methodLink RX0 91 yX0_overtimeHours, Cond.instanceMethod yX0_overtimeHours, Cond.selects RX0 yX0_overtimeHours yX0_overtimeHours, Cond.code yX0_overtimeHours cX0_overtimeHours 6 (some .int), Cond.fieldLink RX0 56 "AssignmentHouse" "aheadOnDay" "[I", Cond.methodLink RX0 133 Lib.Math.max.name, Cond.static Lib.Math.max.name, Cond.initialized "java/lang/Math", Cond.code Lib.Math.max.name Lib.Math.max.code 2 (some .int), Cond.methodLink RX0 138 Lib.Math.min.name, Cond.static Lib.Math.min.name, Cond.code Lib.Math.min.name Lib.Math.min.code 2 (some .int), Cond.methodLink RX0 122 yX0_fillAheadOnDay, Cond.instanceMethod yX0_fillAheadOnDay, Cond.selects RX0 yX0_fillAheadOnDay yX0_fillAheadOnDay, Cond.code yX0_fillAheadOnDay cX0_fillAheadOnDay 9 none, Cond.methodLink RX0 59 yX0_put, Cond.static yX0_put]
def wsX0_owing_r3 : List Cond := [Cond.code yX0_put cX0_put 3 none, Cond.methodLink RX0 126 yX0_plainOfDay, Cond.static yX0_plainOfDay, Cond.code yX0_plainOfDay cX0_plainOfDay 1 (some .int), Cond.methodLink RX0 129 yX0_plainByDayAhead, Cond.instanceMethod yX0_plainByDayAhead, Cond.selects RX0 yX0_plainByDayAhead yX0_plainByDayAhead, Cond.code yX0_plainByDayAhead cX0_plainByDayAhead 3 (some .int), Cond.methodLink RX0 112 yX0_rateThere, Cond.instanceMethod yX0_rateThere, Cond.selects RX0 yX0_rateThere yX0_rateThere, Cond.code yX0_rateThere cX0_rateThere 4 (some .int), Cond.fieldLink RX0 13 "AssignmentHouse" "equalRate" "[I", Cond.fieldLink RX0 9 "AssignmentHouse" "plainRate" "[I", Cond.methodLink RX0 94 yX0_isEqual, Cond.instanceMethod yX0_isEqual, Cond.selects RX0 yX0_isEqual yX0_isEqual, Cond.code yX0_isEqual cX0_isEqual 8 (some .boolean), Cond.fieldLink RX0 29 "AssignmentHouse" "equalGap" "I", Cond.fieldLink RX0 25 "AssignmentHouse" "equalSpan" "I", Cond.methodLink RX0 141 yX0_weeksWorked, Cond.instanceMethod yX0_weeksWorked, Cond.selects RX0 yX0_weeksWorked yX0_weeksWorked, Cond.code yX0_weeksWorked cX0_weeksWorked 5 (some .int)]
def wsX0_owing : List Cond := .code yX0_owing cX0_owing 3 (some .int) :: ((wsX0_owing_r1 ++ (wsX0_owing_r2 ++ wsX0_owing_r3)) ++ wsX00 ++ (vx_atS RX0 151 "java/lang/IndexOutOfBoundsException" ["java/lang/RuntimeException", "java/lang/Exception"]).filter goodWord)
def wsX0_toBill_r1 : List Cond := [Cond.fieldLink RX0 50 "AssignmentHouse" "billedFor" "[I", Cond.methodLink RX0 63 yX0_needOneOf, Cond.static yX0_needOneOf, Cond.initialized RX0, Cond.code yX0_needOneOf cX0_needOneOf 2 none, Cond.classLink RX0 147 "java/lang/IndexOutOfBoundsException", Cond.initialized "java/lang/IndexOutOfBoundsException", Cond.methodLink RX0 116 yX0_weekCharge, Cond.instanceMethod yX0_weekCharge, Cond.selects RX0 yX0_weekCharge yX0_weekCharge, Cond.code yX0_weekCharge cX0_weekCharge 6 (some .int), Cond.fieldLink RX0 32 "AssignmentHouse" "shiftCount" "I", Cond.methodLink RX0 103 yX0_marginAt, Cond.instanceMethod yX0_marginAt, Cond.selects RX0 yX0_marginAt yX0_marginAt, Cond.code yX0_marginAt cX0_marginAt 4 (some .int), Cond.fieldLink RX0 22 "AssignmentHouse" "lowVolume" "[I", Cond.fieldLink RX0 19 "AssignmentHouse" "lowMargin" "[I", Cond.fieldLink RX0 16 "AssignmentHouse" "highMargin" "[I", Cond.methodLink RX0 144 yX0_hoursAtSite, Cond.instanceMethod yX0_hoursAtSite, Cond.selects RX0 yX0_hoursAtSite yX0_hoursAtSite, Cond.code yX0_hoursAtSite cX0_hoursAtSite 5 (some .int), Cond.fieldLink RX0 44 "AssignmentHouse" "hoursOf" "[I"]
def wsX0_toBill_r2 : List Cond := [Cond.methodLink RX0 119 yX0_isAtSite, Cond.instanceMethod yX0_isAtSite, Cond.selects RX0 yX0_isAtSite yX0_isAtSite, Cond.code yX0_isAtSite cX0_isAtSite 4 (some .boolean), Cond.fieldLink RX0 38 "AssignmentHouse" "siteOf" "[I", Cond.fieldLink RX0 41 "AssignmentHouse" "dayOf" "[I", Cond.methodLink RX0 79 yX0_at, Cond.static yX0_at, Cond.code yX0_at cX0_at 2 (some .int), Cond.methodLink RX0 100 yX0_weekOf, Cond.static yX0_weekOf, Cond.code yX0_weekOf cX0_weekOf 1 (some .int), Cond.methodLink RX0 97 yX0_shiftPay, Cond.instanceMethod yX0_shiftPay, Cond.selects RX0 yX0_shiftPay yX0_shiftPay, Cond.code yX0_shiftPay cX0_shiftPay 5 (some .int), Cond.fieldLink RX0 35 "AssignmentHouse" "workerOf" "[I", Cond.methodLink RX0 91 yX0_overtimeHours, Cond.instanceMethod yX0_overtimeHours, Cond.selects RX0 yX0_overtimeHours yX0_overtimeHours, Cond.code yX0_overtimeHours cX0_overtimeHours 6 (some .int), Cond.fieldLink RX0 56 "AssignmentHouse" "aheadOnDay" "[I", Cond.methodLink RX0 133 Lib.Math.max.name, Cond.static Lib.Math.max.name]
def wsX0_toBill_r3 : List Cond := [Cond.initialized "java/lang/Math", Cond.code Lib.Math.max.name Lib.Math.max.code 2 (some .int), Cond.methodLink RX0 138 Lib.Math.min.name, Cond.static Lib.Math.min.name, Cond.code Lib.Math.min.name Lib.Math.min.code 2 (some .int), Cond.methodLink RX0 122 yX0_fillAheadOnDay, Cond.instanceMethod yX0_fillAheadOnDay, Cond.selects RX0 yX0_fillAheadOnDay yX0_fillAheadOnDay, Cond.code yX0_fillAheadOnDay cX0_fillAheadOnDay 9 none, Cond.methodLink RX0 59 yX0_put, Cond.static yX0_put, Cond.code yX0_put cX0_put 3 none, Cond.methodLink RX0 87 yX0_isOfWorker, Cond.instanceMethod yX0_isOfWorker, Cond.selects RX0 yX0_isOfWorker yX0_isOfWorker, Cond.code yX0_isOfWorker cX0_isOfWorker 4 (some .boolean), Cond.methodLink RX0 126 yX0_plainOfDay, Cond.static yX0_plainOfDay, Cond.code yX0_plainOfDay cX0_plainOfDay 1 (some .int), Cond.methodLink RX0 129 yX0_plainByDayAhead, Cond.instanceMethod yX0_plainByDayAhead, Cond.selects RX0 yX0_plainByDayAhead yX0_plainByDayAhead, Cond.code yX0_plainByDayAhead cX0_plainByDayAhead 3 (some .int), Cond.methodLink RX0 112 yX0_rateThere]
def wsX0_toBill_r4 : List Cond := [Cond.instanceMethod yX0_rateThere, Cond.selects RX0 yX0_rateThere yX0_rateThere, Cond.code yX0_rateThere cX0_rateThere 4 (some .int), Cond.fieldLink RX0 13 "AssignmentHouse" "equalRate" "[I", Cond.fieldLink RX0 9 "AssignmentHouse" "plainRate" "[I", Cond.methodLink RX0 94 yX0_isEqual, Cond.instanceMethod yX0_isEqual, Cond.selects RX0 yX0_isEqual yX0_isEqual, Cond.code yX0_isEqual cX0_isEqual 8 (some .boolean), Cond.fieldLink RX0 29 "AssignmentHouse" "equalGap" "I", Cond.fieldLink RX0 25 "AssignmentHouse" "equalSpan" "I", Cond.methodLink RX0 141 yX0_weeksWorked, Cond.instanceMethod yX0_weeksWorked, Cond.selects RX0 yX0_weeksWorked yX0_weeksWorked, Cond.code yX0_weeksWorked cX0_weeksWorked 5 (some .int), Cond.methodLink RX0 106 yX0_chargeFor, Cond.static yX0_chargeFor, Cond.code yX0_chargeFor cX0_chargeFor 2 (some .int)]
def wsX0_toBill : List Cond := .code yX0_toBill cX0_toBill 3 (some .int) :: ((wsX0_toBill_r1 ++ (wsX0_toBill_r2 ++ (wsX0_toBill_r3 ++ wsX0_toBill_r4))) ++ wsX00 ++ (vx_atS RX0 151 "java/lang/IndexOutOfBoundsException" ["java/lang/RuntimeException", "java/lang/Exception"]).filter goodWord)
def wsX0_takeHoliday_r1 : List Cond := [Cond.fieldLink RX0 53 "AssignmentHouse" "minutesTaken" "[I", Cond.methodLink RX0 63 yX0_needOneOf, Cond.static yX0_needOneOf, Cond.initialized RX0, Cond.code yX0_needOneOf cX0_needOneOf 2 none, Cond.classLink RX0 147 "java/lang/IndexOutOfBoundsException", Cond.initialized "java/lang/IndexOutOfBoundsException", Cond.methodLink RX0 67 yX0_needRange, Cond.static yX0_needRange, Cond.code yX0_needRange cX0_needRange 3 none, Cond.classLink RX0 154 "java/lang/IllegalArgumentException", Cond.initialized "java/lang/IllegalArgumentException", Cond.methodLink RX0 83 yX0_minutesLeft, Cond.instanceMethod yX0_minutesLeft, Cond.selects RX0 yX0_minutesLeft yX0_minutesLeft, Cond.code yX0_minutesLeft cX0_minutesLeft 4 (some .int), Cond.fieldLink RX0 32 "AssignmentHouse" "shiftCount" "I", Cond.fieldLink RX0 35 "AssignmentHouse" "workerOf" "[I", Cond.fieldLink RX0 44 "AssignmentHouse" "hoursOf" "[I", Cond.methodLink RX0 79 yX0_at, Cond.static yX0_at, Cond.code yX0_at cX0_at 2 (some .int), Cond.methodLink RX0 71 yX0_needState, Cond.static yX0_needState]
def wsX0_takeHoliday_r2 : List Cond := [Cond.code yX0_needState cX0_needState 1 none, Cond.classLink RX0 159 "java/lang/IllegalStateException", Cond.initialized "java/lang/IllegalStateException", Cond.methodLink RX0 59 yX0_put, Cond.static yX0_put, Cond.code yX0_put cX0_put 3 none]
def wsX0_takeHoliday : List Cond := .code yX0_takeHoliday cX0_takeHoliday 4 (some .int) :: ((wsX0_takeHoliday_r1 ++ wsX0_takeHoliday_r2) ++ wsX00 ++ (vx_atS RX0 151 "java/lang/IndexOutOfBoundsException" ["java/lang/RuntimeException", "java/lang/Exception"]).filter goodWord ++ (vx_atS RX0 158 "java/lang/IllegalArgumentException" ["java/lang/RuntimeException", "java/lang/Exception"]).filter goodWord ++ (vx_atS RX0 163 "java/lang/IllegalStateException" ["java/lang/RuntimeException", "java/lang/Exception"]).filter goodWord)
def wsX0_holiday : List Cond := .code yX0_holiday cX0_holiday 2 (some .int) :: ([.methodLink RX0 63 yX0_needOneOf, .static yX0_needOneOf, .initialized RX0, .code yX0_needOneOf cX0_needOneOf 2 none, .classLink RX0 147 "java/lang/IndexOutOfBoundsException", .initialized "java/lang/IndexOutOfBoundsException", .methodLink RX0 83 yX0_minutesLeft, .instanceMethod yX0_minutesLeft, .selects RX0 yX0_minutesLeft yX0_minutesLeft, .code yX0_minutesLeft cX0_minutesLeft 4 (some .int), .fieldLink RX0 32 "AssignmentHouse" "shiftCount" "I", .fieldLink RX0 35 "AssignmentHouse" "workerOf" "[I", .fieldLink RX0 44 "AssignmentHouse" "hoursOf" "[I", .fieldLink RX0 53 "AssignmentHouse" "minutesTaken" "[I", .methodLink RX0 79 yX0_at, .static yX0_at, .code yX0_at cX0_at 2 (some .int)] ++ wsX00 ++ (vx_atS RX0 151 "java/lang/IndexOutOfBoundsException" ["java/lang/RuntimeException", "java/lang/Exception"]).filter goodWord)
def wsJ9_max_7cf53 : List Cond := .code yJ9_max_7cf53 cJ9_max_7cf53 2 (some .int) :: ([])
def wsJ9_min_7cf53 : List Cond := .code yJ9_min_7cf53 cJ9_min_7cf53 2 (some .int) :: ([])
def wsL_dice : List Cond := .code yL_dice cL_dice 2 (some .int) :: ([.constant RL 7 (2024104815), .constant RL 8 (2147483647)])
def wsL_setRates : List Cond := .codeWith yL_setRates cL_setRates 5 (some .int) [(0, 8, 9, 15), (0, 8, 14, 18)] :: ([.classLink RL 15 "java/lang/IndexOutOfBoundsException", .classLink RL 18 "java/lang/IllegalArgumentException", .constant RL 17 (-1100000001), .constant RL 20 (-1100000002), .methodLink RL 9 yX0_setRates, .instanceMethod yX0_setRates, .selects RX0 yX0_setRates yX0_setRates, .initialized RX0, .code yX0_setRates cX0_setRates 4 none, .fieldLink RX0 9 "AssignmentHouse" "plainRate" "[I", .fieldLink RX0 13 "AssignmentHouse" "equalRate" "[I", .methodLink RX0 63 yX0_needOneOf, .static yX0_needOneOf, .code yX0_needOneOf cX0_needOneOf 2 none, .classLink RX0 147 "java/lang/IndexOutOfBoundsException", .initialized "java/lang/IndexOutOfBoundsException", .methodLink RX0 67 yX0_needRange, .static yX0_needRange, .code yX0_needRange cX0_needRange 3 none, .classLink RX0 154 "java/lang/IllegalArgumentException", .initialized "java/lang/IllegalArgumentException", .methodLink RX0 59 yX0_put, .static yX0_put, .code yX0_put cX0_put 3 none] ++ wsX00 ++ (vx_atS RX0 151 "java/lang/IndexOutOfBoundsException" ["java/lang/RuntimeException", "java/lang/Exception"]).filter goodWord ++ (vx_atS RX0 158 "java/lang/IllegalArgumentException" ["java/lang/RuntimeException", "java/lang/Exception"]).filter goodWord)
def wsL_setMargins_r1 : List Cond := [Cond.classLink RL 15 "java/lang/IndexOutOfBoundsException", Cond.classLink RL 18 "java/lang/IllegalArgumentException", Cond.constant RL 17 (-1100000001), Cond.constant RL 20 (-1100000002), Cond.methodLink RL 21 yX0_setMargins, Cond.instanceMethod yX0_setMargins, Cond.selects RX0 yX0_setMargins yX0_setMargins, Cond.initialized RX0, Cond.code yX0_setMargins cX0_setMargins 5 none, Cond.fieldLink RX0 16 "AssignmentHouse" "highMargin" "[I", Cond.fieldLink RX0 19 "AssignmentHouse" "lowMargin" "[I", Cond.fieldLink RX0 22 "AssignmentHouse" "lowVolume" "[I", Cond.methodLink RX0 63 yX0_needOneOf, Cond.static yX0_needOneOf, Cond.code yX0_needOneOf cX0_needOneOf 2 none, Cond.classLink RX0 147 "java/lang/IndexOutOfBoundsException", Cond.initialized "java/lang/IndexOutOfBoundsException", Cond.methodLink RX0 67 yX0_needRange, Cond.static yX0_needRange, Cond.code yX0_needRange cX0_needRange 3 none, Cond.classLink RX0 154 "java/lang/IllegalArgumentException", Cond.initialized "java/lang/IllegalArgumentException", Cond.methodLink RX0 59 yX0_put, Cond.static yX0_put]
def wsL_setMargins_r2 : List Cond := [Cond.code yX0_put cX0_put 3 none]
def wsL_setMargins : List Cond := .codeWith yL_setMargins cL_setMargins 6 (some .int) [(0, 10, 11, 15), (0, 10, 16, 18)] :: ((wsL_setMargins_r1 ++ wsL_setMargins_r2) ++ wsX00 ++ (vx_atS RX0 151 "java/lang/IndexOutOfBoundsException" ["java/lang/RuntimeException", "java/lang/Exception"]).filter goodWord ++ (vx_atS RX0 158 "java/lang/IllegalArgumentException" ["java/lang/RuntimeException", "java/lang/Exception"]).filter goodWord)
def wsL_setEqual : List Cond := .codeWith yL_setEqual cL_setEqual 4 (some .int) [(0, 7, 8, 18)] :: ([.classLink RL 18 "java/lang/IllegalArgumentException", .constant RL 20 (-1100000002), .methodLink RL 25 yX0_setEqual, .instanceMethod yX0_setEqual, .selects RX0 yX0_setEqual yX0_setEqual, .initialized RX0, .code yX0_setEqual cX0_setEqual 3 none, .fieldLink RX0 25 "AssignmentHouse" "equalSpan" "I", .fieldLink RX0 29 "AssignmentHouse" "equalGap" "I", .methodLink RX0 67 yX0_needRange, .static yX0_needRange, .code yX0_needRange cX0_needRange 3 none, .classLink RX0 154 "java/lang/IllegalArgumentException", .initialized "java/lang/IllegalArgumentException"] ++ wsX00 ++ (vx_atS RX0 158 "java/lang/IllegalArgumentException" ["java/lang/RuntimeException", "java/lang/Exception"]).filter goodWord)
def wsL_act_r1 : List Cond := [Cond.classLink RL 15 "java/lang/IndexOutOfBoundsException", Cond.classLink RL 18 "java/lang/IllegalArgumentException", Cond.classLink RL 44 "java/lang/IllegalStateException", Cond.constant RL 17 (-1100000001), Cond.constant RL 20 (-1100000002), Cond.constant RL 46 (-1100000003), Cond.methodLink RL 29 yX0_shift, Cond.instanceMethod yX0_shift, Cond.selects RX0 yX0_shift yX0_shift, Cond.initialized RX0, Cond.code yX0_shift cX0_shift 6 (some .int), Cond.fieldLink RX0 32 "AssignmentHouse" "shiftCount" "I", Cond.fieldLink RX0 35 "AssignmentHouse" "workerOf" "[I", Cond.fieldLink RX0 38 "AssignmentHouse" "siteOf" "[I", Cond.fieldLink RX0 41 "AssignmentHouse" "dayOf" "[I", Cond.fieldLink RX0 44 "AssignmentHouse" "hoursOf" "[I", Cond.methodLink RX0 63 yX0_needOneOf, Cond.static yX0_needOneOf, Cond.code yX0_needOneOf cX0_needOneOf 2 none, Cond.classLink RX0 147 "java/lang/IndexOutOfBoundsException", Cond.initialized "java/lang/IndexOutOfBoundsException", Cond.methodLink RX0 67 yX0_needRange, Cond.static yX0_needRange, Cond.code yX0_needRange cX0_needRange 3 none]
def wsL_act_r2 : List Cond := [Cond.classLink RX0 154 "java/lang/IllegalArgumentException", Cond.initialized "java/lang/IllegalArgumentException", Cond.methodLink RX0 71 yX0_needState, Cond.static yX0_needState, Cond.code yX0_needState cX0_needState 1 none, Cond.classLink RX0 159 "java/lang/IllegalStateException", Cond.initialized "java/lang/IllegalStateException", Cond.methodLink RX0 75 yX0_hoursOnDay, Cond.instanceMethod yX0_hoursOnDay, Cond.selects RX0 yX0_hoursOnDay yX0_hoursOnDay, Cond.code yX0_hoursOnDay cX0_hoursOnDay 5 (some .int), Cond.methodLink RX0 79 yX0_at, Cond.static yX0_at, Cond.code yX0_at cX0_at 2 (some .int), Cond.methodLink RX0 59 yX0_put, Cond.static yX0_put, Cond.code yX0_put cX0_put 3 none, Cond.methodLink RL 33 yX0_correct, Cond.instanceMethod yX0_correct, Cond.selects RX0 yX0_correct yX0_correct, Cond.code yX0_correct cX0_correct 6 (some .int), Cond.methodLink RX0 83 yX0_minutesLeft, Cond.instanceMethod yX0_minutesLeft, Cond.selects RX0 yX0_minutesLeft yX0_minutesLeft]
def wsL_act_r3 : List Cond := [Cond.code yX0_minutesLeft cX0_minutesLeft 4 (some .int), Cond.fieldLink RX0 53 "AssignmentHouse" "minutesTaken" "[I", Cond.methodLink RL 37 yX0_run, Cond.instanceMethod yX0_run, Cond.selects RX0 yX0_run yX0_run, Cond.code yX0_run cX0_run 6 (some .int), Cond.fieldLink RX0 47 "AssignmentHouse" "paidFor" "[I", Cond.fieldLink RX0 50 "AssignmentHouse" "billedFor" "[I", Cond.methodLink RX0 109 yX0_weekPay, Cond.instanceMethod yX0_weekPay, Cond.selects RX0 yX0_weekPay yX0_weekPay, Cond.code yX0_weekPay cX0_weekPay 5 (some .int), Cond.methodLink RX0 87 yX0_isOfWorker, Cond.instanceMethod yX0_isOfWorker, Cond.selects RX0 yX0_isOfWorker yX0_isOfWorker, Cond.code yX0_isOfWorker cX0_isOfWorker 4 (some .boolean), Cond.methodLink RX0 100 yX0_weekOf, Cond.static yX0_weekOf, Cond.code yX0_weekOf cX0_weekOf 1 (some .int), Cond.methodLink RX0 97 yX0_shiftPay, Cond.instanceMethod yX0_shiftPay, Cond.selects RX0 yX0_shiftPay yX0_shiftPay, Cond.code yX0_shiftPay cX0_shiftPay 5 (some .int), Cond.methodLink RX0 91 yX0_overtimeHours]
def wsL_act_r4 : List Cond := [Cond.instanceMethod yX0_overtimeHours, Cond.selects RX0 yX0_overtimeHours yX0_overtimeHours, Cond.code yX0_overtimeHours cX0_overtimeHours 6 (some .int), Cond.fieldLink RX0 56 "AssignmentHouse" "aheadOnDay" "[I", Cond.methodLink RX0 133 Lib.Math.max.name, Cond.static Lib.Math.max.name, Cond.initialized "java/lang/Math", Cond.code Lib.Math.max.name Lib.Math.max.code 2 (some .int), Cond.methodLink RX0 138 Lib.Math.min.name, Cond.static Lib.Math.min.name, Cond.code Lib.Math.min.name Lib.Math.min.code 2 (some .int), Cond.methodLink RX0 122 yX0_fillAheadOnDay, Cond.instanceMethod yX0_fillAheadOnDay, Cond.selects RX0 yX0_fillAheadOnDay yX0_fillAheadOnDay, Cond.code yX0_fillAheadOnDay cX0_fillAheadOnDay 9 none, Cond.methodLink RX0 126 yX0_plainOfDay, Cond.static yX0_plainOfDay, Cond.code yX0_plainOfDay cX0_plainOfDay 1 (some .int), Cond.methodLink RX0 129 yX0_plainByDayAhead, Cond.instanceMethod yX0_plainByDayAhead, Cond.selects RX0 yX0_plainByDayAhead yX0_plainByDayAhead, Cond.code yX0_plainByDayAhead cX0_plainByDayAhead 3 (some .int), Cond.methodLink RX0 112 yX0_rateThere, Cond.instanceMethod yX0_rateThere]
def wsL_act_r5 : List Cond := [Cond.selects RX0 yX0_rateThere yX0_rateThere, Cond.code yX0_rateThere cX0_rateThere 4 (some .int), Cond.fieldLink RX0 13 "AssignmentHouse" "equalRate" "[I", Cond.fieldLink RX0 9 "AssignmentHouse" "plainRate" "[I", Cond.methodLink RX0 94 yX0_isEqual, Cond.instanceMethod yX0_isEqual, Cond.selects RX0 yX0_isEqual yX0_isEqual, Cond.code yX0_isEqual cX0_isEqual 8 (some .boolean), Cond.fieldLink RX0 29 "AssignmentHouse" "equalGap" "I", Cond.fieldLink RX0 25 "AssignmentHouse" "equalSpan" "I", Cond.methodLink RX0 141 yX0_weeksWorked, Cond.instanceMethod yX0_weeksWorked, Cond.selects RX0 yX0_weeksWorked yX0_weeksWorked, Cond.code yX0_weeksWorked cX0_weeksWorked 5 (some .int), Cond.methodLink RX0 116 yX0_weekCharge, Cond.instanceMethod yX0_weekCharge, Cond.selects RX0 yX0_weekCharge yX0_weekCharge, Cond.code yX0_weekCharge cX0_weekCharge 6 (some .int), Cond.methodLink RX0 103 yX0_marginAt, Cond.instanceMethod yX0_marginAt, Cond.selects RX0 yX0_marginAt yX0_marginAt, Cond.code yX0_marginAt cX0_marginAt 4 (some .int), Cond.fieldLink RX0 22 "AssignmentHouse" "lowVolume" "[I", Cond.fieldLink RX0 19 "AssignmentHouse" "lowMargin" "[I"]
def wsL_act_r6 : List Cond := [Cond.fieldLink RX0 16 "AssignmentHouse" "highMargin" "[I", Cond.methodLink RX0 144 yX0_hoursAtSite, Cond.instanceMethod yX0_hoursAtSite, Cond.selects RX0 yX0_hoursAtSite yX0_hoursAtSite, Cond.code yX0_hoursAtSite cX0_hoursAtSite 5 (some .int), Cond.methodLink RX0 119 yX0_isAtSite, Cond.instanceMethod yX0_isAtSite, Cond.selects RX0 yX0_isAtSite yX0_isAtSite, Cond.code yX0_isAtSite cX0_isAtSite 4 (some .boolean), Cond.methodLink RX0 106 yX0_chargeFor, Cond.static yX0_chargeFor, Cond.code yX0_chargeFor cX0_chargeFor 2 (some .int), Cond.methodLink RL 41 yX0_takeHoliday, Cond.instanceMethod yX0_takeHoliday, Cond.selects RX0 yX0_takeHoliday yX0_takeHoliday, Cond.code yX0_takeHoliday cX0_takeHoliday 4 (some .int)]
def wsL_act : List Cond := .codeWith yL_act cL_act 7 (some .int) [(0, 50, 51, 15), (0, 50, 56, 18), (0, 50, 61, 44)] :: ((wsL_act_r1 ++ (wsL_act_r2 ++ (wsL_act_r3 ++ (wsL_act_r4 ++ (wsL_act_r5 ++ wsL_act_r6))))) ++ wsX00 ++ (vx_atS RX0 151 "java/lang/IndexOutOfBoundsException" ["java/lang/RuntimeException", "java/lang/Exception"]).filter goodWord ++ (vx_atS RX0 158 "java/lang/IllegalArgumentException" ["java/lang/RuntimeException", "java/lang/Exception"]).filter goodWord ++ (vx_atS RX0 163 "java/lang/IllegalStateException" ["java/lang/RuntimeException", "java/lang/Exception"]).filter goodWord)
def wsL_of_r1 : List Cond := [Cond.classLink RL 15 "java/lang/IndexOutOfBoundsException", Cond.constant RL 17 (-1100000001), Cond.methodLink RL 47 yX0_hours, Cond.instanceMethod yX0_hours, Cond.selects RX0 yX0_hours yX0_hours, Cond.initialized RX0, Cond.code yX0_hours cX0_hours 5 (some .int), Cond.fieldLink RX0 32 "AssignmentHouse" "shiftCount" "I", Cond.fieldLink RX0 44 "AssignmentHouse" "hoursOf" "[I", Cond.methodLink RX0 63 yX0_needOneOf, Cond.static yX0_needOneOf, Cond.code yX0_needOneOf cX0_needOneOf 2 none, Cond.classLink RX0 147 "java/lang/IndexOutOfBoundsException", Cond.initialized "java/lang/IndexOutOfBoundsException", Cond.methodLink RX0 87 yX0_isOfWorker, Cond.instanceMethod yX0_isOfWorker, Cond.selects RX0 yX0_isOfWorker yX0_isOfWorker, Cond.code yX0_isOfWorker cX0_isOfWorker 4 (some .boolean), Cond.fieldLink RX0 35 "AssignmentHouse" "workerOf" "[I", Cond.fieldLink RX0 41 "AssignmentHouse" "dayOf" "[I", Cond.methodLink RX0 79 yX0_at, Cond.static yX0_at, Cond.code yX0_at cX0_at 2 (some .int), Cond.methodLink RX0 100 yX0_weekOf]
def wsL_of_r2 : List Cond := [Cond.static yX0_weekOf, Cond.code yX0_weekOf cX0_weekOf 1 (some .int), Cond.methodLink RL 50 yX0_overtime, Cond.instanceMethod yX0_overtime, Cond.selects RX0 yX0_overtime yX0_overtime, Cond.code yX0_overtime cX0_overtime 2 (some .int), Cond.methodLink RX0 91 yX0_overtimeHours, Cond.instanceMethod yX0_overtimeHours, Cond.selects RX0 yX0_overtimeHours yX0_overtimeHours, Cond.code yX0_overtimeHours cX0_overtimeHours 6 (some .int), Cond.fieldLink RX0 56 "AssignmentHouse" "aheadOnDay" "[I", Cond.methodLink RX0 133 Lib.Math.max.name, Cond.static Lib.Math.max.name, Cond.initialized "java/lang/Math", Cond.code Lib.Math.max.name Lib.Math.max.code 2 (some .int), Cond.methodLink RX0 138 Lib.Math.min.name, Cond.static Lib.Math.min.name, Cond.code Lib.Math.min.name Lib.Math.min.code 2 (some .int), Cond.methodLink RX0 122 yX0_fillAheadOnDay, Cond.instanceMethod yX0_fillAheadOnDay, Cond.selects RX0 yX0_fillAheadOnDay yX0_fillAheadOnDay, Cond.code yX0_fillAheadOnDay cX0_fillAheadOnDay 9 none, Cond.methodLink RX0 59 yX0_put, Cond.static yX0_put]
def wsL_of_r3 : List Cond := [Cond.code yX0_put cX0_put 3 none, Cond.methodLink RX0 126 yX0_plainOfDay, Cond.static yX0_plainOfDay, Cond.code yX0_plainOfDay cX0_plainOfDay 1 (some .int), Cond.methodLink RX0 129 yX0_plainByDayAhead, Cond.instanceMethod yX0_plainByDayAhead, Cond.selects RX0 yX0_plainByDayAhead yX0_plainByDayAhead, Cond.code yX0_plainByDayAhead cX0_plainByDayAhead 3 (some .int), Cond.methodLink RL 53 yX0_hasEqual, Cond.instanceMethod yX0_hasEqual, Cond.selects RX0 yX0_hasEqual yX0_hasEqual, Cond.code yX0_hasEqual cX0_hasEqual 4 (some .boolean), Cond.methodLink RX0 94 yX0_isEqual, Cond.instanceMethod yX0_isEqual, Cond.selects RX0 yX0_isEqual yX0_isEqual, Cond.code yX0_isEqual cX0_isEqual 8 (some .boolean), Cond.fieldLink RX0 29 "AssignmentHouse" "equalGap" "I", Cond.fieldLink RX0 25 "AssignmentHouse" "equalSpan" "I", Cond.methodLink RX0 141 yX0_weeksWorked, Cond.instanceMethod yX0_weeksWorked, Cond.selects RX0 yX0_weeksWorked yX0_weeksWorked, Cond.code yX0_weeksWorked cX0_weeksWorked 5 (some .int), Cond.fieldLink RX0 38 "AssignmentHouse" "siteOf" "[I", Cond.methodLink RL 57 yX0_payOf]
def wsL_of_r4 : List Cond := [Cond.instanceMethod yX0_payOf, Cond.selects RX0 yX0_payOf yX0_payOf, Cond.code yX0_payOf cX0_payOf 2 (some .int), Cond.methodLink RX0 97 yX0_shiftPay, Cond.instanceMethod yX0_shiftPay, Cond.selects RX0 yX0_shiftPay yX0_shiftPay, Cond.code yX0_shiftPay cX0_shiftPay 5 (some .int), Cond.methodLink RX0 112 yX0_rateThere, Cond.instanceMethod yX0_rateThere, Cond.selects RX0 yX0_rateThere yX0_rateThere, Cond.code yX0_rateThere cX0_rateThere 4 (some .int), Cond.fieldLink RX0 13 "AssignmentHouse" "equalRate" "[I", Cond.fieldLink RX0 9 "AssignmentHouse" "plainRate" "[I", Cond.methodLink RL 60 yX0_chargeOf, Cond.instanceMethod yX0_chargeOf, Cond.selects RX0 yX0_chargeOf yX0_chargeOf, Cond.code yX0_chargeOf cX0_chargeOf 3 (some .int), Cond.methodLink RX0 103 yX0_marginAt, Cond.instanceMethod yX0_marginAt, Cond.selects RX0 yX0_marginAt yX0_marginAt, Cond.code yX0_marginAt cX0_marginAt 4 (some .int), Cond.fieldLink RX0 22 "AssignmentHouse" "lowVolume" "[I", Cond.fieldLink RX0 19 "AssignmentHouse" "lowMargin" "[I", Cond.fieldLink RX0 16 "AssignmentHouse" "highMargin" "[I"]
def wsL_of_r5 : List Cond := [Cond.methodLink RX0 144 yX0_hoursAtSite, Cond.instanceMethod yX0_hoursAtSite, Cond.selects RX0 yX0_hoursAtSite yX0_hoursAtSite, Cond.code yX0_hoursAtSite cX0_hoursAtSite 5 (some .int), Cond.methodLink RX0 119 yX0_isAtSite, Cond.instanceMethod yX0_isAtSite, Cond.selects RX0 yX0_isAtSite yX0_isAtSite, Cond.code yX0_isAtSite cX0_isAtSite 4 (some .boolean), Cond.methodLink RX0 106 yX0_chargeFor, Cond.static yX0_chargeFor, Cond.code yX0_chargeFor cX0_chargeFor 2 (some .int), Cond.methodLink RL 63 yX0_pay, Cond.instanceMethod yX0_pay, Cond.selects RX0 yX0_pay yX0_pay, Cond.code yX0_pay cX0_pay 3 (some .int), Cond.methodLink RX0 109 yX0_weekPay, Cond.instanceMethod yX0_weekPay, Cond.selects RX0 yX0_weekPay yX0_weekPay, Cond.code yX0_weekPay cX0_weekPay 5 (some .int), Cond.methodLink RL 66 yX0_payByHours, Cond.instanceMethod yX0_payByHours, Cond.selects RX0 yX0_payByHours yX0_payByHours, Cond.code yX0_payByHours cX0_payByHours 13 (some .int), Cond.methodLink RL 69 yX0_paid]
def wsL_of_r6 : List Cond := [Cond.instanceMethod yX0_paid, Cond.selects RX0 yX0_paid yX0_paid, Cond.code yX0_paid cX0_paid 3 (some .int), Cond.fieldLink RX0 47 "AssignmentHouse" "paidFor" "[I", Cond.methodLink RL 72 yX0_billed, Cond.instanceMethod yX0_billed, Cond.selects RX0 yX0_billed yX0_billed, Cond.code yX0_billed cX0_billed 3 (some .int), Cond.fieldLink RX0 50 "AssignmentHouse" "billedFor" "[I", Cond.methodLink RL 75 yX0_owing, Cond.instanceMethod yX0_owing, Cond.selects RX0 yX0_owing yX0_owing, Cond.code yX0_owing cX0_owing 3 (some .int), Cond.methodLink RL 78 yX0_toBill, Cond.instanceMethod yX0_toBill, Cond.selects RX0 yX0_toBill yX0_toBill, Cond.code yX0_toBill cX0_toBill 3 (some .int), Cond.methodLink RX0 116 yX0_weekCharge, Cond.instanceMethod yX0_weekCharge, Cond.selects RX0 yX0_weekCharge yX0_weekCharge, Cond.code yX0_weekCharge cX0_weekCharge 6 (some .int), Cond.methodLink RL 81 yX0_holiday, Cond.instanceMethod yX0_holiday, Cond.selects RX0 yX0_holiday yX0_holiday]
def wsL_of_r7 : List Cond := [Cond.code yX0_holiday cX0_holiday 2 (some .int), Cond.methodLink RX0 83 yX0_minutesLeft, Cond.instanceMethod yX0_minutesLeft, Cond.selects RX0 yX0_minutesLeft yX0_minutesLeft, Cond.code yX0_minutesLeft cX0_minutesLeft 4 (some .int), Cond.fieldLink RX0 53 "AssignmentHouse" "minutesTaken" "[I"]
def wsL_of : List Cond := .codeWith yL_of cL_of 6 (some .int) [(0, 170, 171, 15)] :: ((wsL_of_r1 ++ (wsL_of_r2 ++ (wsL_of_r3 ++ (wsL_of_r4 ++ (wsL_of_r5 ++ (wsL_of_r6 ++ wsL_of_r7)))))) ++ wsX00 ++ (vx_atS RX0 151 "java/lang/IndexOutOfBoundsException" ["java/lang/RuntimeException", "java/lang/Exception"]).filter goodWord)
def wsL_hours : List Cond := .code yL_hours cL_hours 2 (some .int) :: ([])
def wsL_day : List Cond := .code yL_day cL_day 2 (some .int) :: ([])
def wsL_all_r1 : List Cond := [Cond.constantLong RL 88 (1000003), Cond.constantLong RL 90 (31), Cond.constantLong RL 92 (257), Cond.constantLong RL 94 (65537), Cond.methodLink RL 84 yX0_shifts, Cond.instanceMethod yX0_shifts, Cond.selects RX0 yX0_shifts yX0_shifts, Cond.initialized RX0, Cond.code yX0_shifts cX0_shifts 1 (some .int), Cond.fieldLink RX0 32 "AssignmentHouse" "shiftCount" "I", Cond.methodLink RL 57 yX0_payOf, Cond.instanceMethod yX0_payOf, Cond.selects RX0 yX0_payOf yX0_payOf, Cond.code yX0_payOf cX0_payOf 2 (some .int), Cond.methodLink RX0 63 yX0_needOneOf, Cond.static yX0_needOneOf, Cond.code yX0_needOneOf cX0_needOneOf 2 none, Cond.classLink RX0 147 "java/lang/IndexOutOfBoundsException", Cond.initialized "java/lang/IndexOutOfBoundsException", Cond.methodLink RX0 97 yX0_shiftPay, Cond.instanceMethod yX0_shiftPay, Cond.selects RX0 yX0_shiftPay yX0_shiftPay, Cond.code yX0_shiftPay cX0_shiftPay 5 (some .int), Cond.fieldLink RX0 44 "AssignmentHouse" "hoursOf" "[I"]
def wsL_all_r2 : List Cond := [Cond.fieldLink RX0 35 "AssignmentHouse" "workerOf" "[I", Cond.fieldLink RX0 38 "AssignmentHouse" "siteOf" "[I", Cond.fieldLink RX0 41 "AssignmentHouse" "dayOf" "[I", Cond.methodLink RX0 91 yX0_overtimeHours, Cond.instanceMethod yX0_overtimeHours, Cond.selects RX0 yX0_overtimeHours yX0_overtimeHours, Cond.code yX0_overtimeHours cX0_overtimeHours 6 (some .int), Cond.fieldLink RX0 56 "AssignmentHouse" "aheadOnDay" "[I", Cond.methodLink RX0 133 Lib.Math.max.name, Cond.static Lib.Math.max.name, Cond.initialized "java/lang/Math", Cond.code Lib.Math.max.name Lib.Math.max.code 2 (some .int), Cond.methodLink RX0 138 Lib.Math.min.name, Cond.static Lib.Math.min.name, Cond.code Lib.Math.min.name Lib.Math.min.code 2 (some .int), Cond.methodLink RX0 122 yX0_fillAheadOnDay, Cond.instanceMethod yX0_fillAheadOnDay, Cond.selects RX0 yX0_fillAheadOnDay yX0_fillAheadOnDay, Cond.code yX0_fillAheadOnDay cX0_fillAheadOnDay 9 none, Cond.methodLink RX0 79 yX0_at, Cond.static yX0_at, Cond.code yX0_at cX0_at 2 (some .int), Cond.methodLink RX0 100 yX0_weekOf, Cond.static yX0_weekOf]
def wsL_all_r3 : List Cond := [Cond.code yX0_weekOf cX0_weekOf 1 (some .int), Cond.methodLink RX0 59 yX0_put, Cond.static yX0_put, Cond.code yX0_put cX0_put 3 none, Cond.methodLink RX0 87 yX0_isOfWorker, Cond.instanceMethod yX0_isOfWorker, Cond.selects RX0 yX0_isOfWorker yX0_isOfWorker, Cond.code yX0_isOfWorker cX0_isOfWorker 4 (some .boolean), Cond.methodLink RX0 126 yX0_plainOfDay, Cond.static yX0_plainOfDay, Cond.code yX0_plainOfDay cX0_plainOfDay 1 (some .int), Cond.methodLink RX0 129 yX0_plainByDayAhead, Cond.instanceMethod yX0_plainByDayAhead, Cond.selects RX0 yX0_plainByDayAhead yX0_plainByDayAhead, Cond.code yX0_plainByDayAhead cX0_plainByDayAhead 3 (some .int), Cond.methodLink RX0 112 yX0_rateThere, Cond.instanceMethod yX0_rateThere, Cond.selects RX0 yX0_rateThere yX0_rateThere, Cond.code yX0_rateThere cX0_rateThere 4 (some .int), Cond.fieldLink RX0 13 "AssignmentHouse" "equalRate" "[I", Cond.fieldLink RX0 9 "AssignmentHouse" "plainRate" "[I", Cond.methodLink RX0 94 yX0_isEqual, Cond.instanceMethod yX0_isEqual, Cond.selects RX0 yX0_isEqual yX0_isEqual]
def wsL_all_r4 : List Cond := [Cond.code yX0_isEqual cX0_isEqual 8 (some .boolean), Cond.fieldLink RX0 29 "AssignmentHouse" "equalGap" "I", Cond.fieldLink RX0 25 "AssignmentHouse" "equalSpan" "I", Cond.methodLink RX0 141 yX0_weeksWorked, Cond.instanceMethod yX0_weeksWorked, Cond.selects RX0 yX0_weeksWorked yX0_weeksWorked, Cond.code yX0_weeksWorked cX0_weeksWorked 5 (some .int), Cond.methodLink RL 60 yX0_chargeOf, Cond.instanceMethod yX0_chargeOf, Cond.selects RX0 yX0_chargeOf yX0_chargeOf, Cond.code yX0_chargeOf cX0_chargeOf 3 (some .int), Cond.methodLink RX0 103 yX0_marginAt, Cond.instanceMethod yX0_marginAt, Cond.selects RX0 yX0_marginAt yX0_marginAt, Cond.code yX0_marginAt cX0_marginAt 4 (some .int), Cond.fieldLink RX0 22 "AssignmentHouse" "lowVolume" "[I", Cond.fieldLink RX0 19 "AssignmentHouse" "lowMargin" "[I", Cond.fieldLink RX0 16 "AssignmentHouse" "highMargin" "[I", Cond.methodLink RX0 144 yX0_hoursAtSite, Cond.instanceMethod yX0_hoursAtSite, Cond.selects RX0 yX0_hoursAtSite yX0_hoursAtSite, Cond.code yX0_hoursAtSite cX0_hoursAtSite 5 (some .int), Cond.methodLink RX0 119 yX0_isAtSite, Cond.instanceMethod yX0_isAtSite]
def wsL_all_r5 : List Cond := [Cond.selects RX0 yX0_isAtSite yX0_isAtSite, Cond.code yX0_isAtSite cX0_isAtSite 4 (some .boolean), Cond.methodLink RX0 106 yX0_chargeFor, Cond.static yX0_chargeFor, Cond.code yX0_chargeFor cX0_chargeFor 2 (some .int), Cond.methodLink RL 81 yX0_holiday, Cond.instanceMethod yX0_holiday, Cond.selects RX0 yX0_holiday yX0_holiday, Cond.code yX0_holiday cX0_holiday 2 (some .int), Cond.methodLink RX0 83 yX0_minutesLeft, Cond.instanceMethod yX0_minutesLeft, Cond.selects RX0 yX0_minutesLeft yX0_minutesLeft, Cond.code yX0_minutesLeft cX0_minutesLeft 4 (some .int), Cond.fieldLink RX0 53 "AssignmentHouse" "minutesTaken" "[I", Cond.methodLink RL 69 yX0_paid, Cond.instanceMethod yX0_paid, Cond.selects RX0 yX0_paid yX0_paid, Cond.code yX0_paid cX0_paid 3 (some .int), Cond.fieldLink RX0 47 "AssignmentHouse" "paidFor" "[I", Cond.methodLink RL 75 yX0_owing, Cond.instanceMethod yX0_owing, Cond.selects RX0 yX0_owing yX0_owing, Cond.code yX0_owing cX0_owing 3 (some .int), Cond.methodLink RX0 109 yX0_weekPay]
def wsL_all_r6 : List Cond := [Cond.instanceMethod yX0_weekPay, Cond.selects RX0 yX0_weekPay yX0_weekPay, Cond.code yX0_weekPay cX0_weekPay 5 (some .int)]
def wsL_all : List Cond := .code yL_all cL_all 5 (some .long) :: ((wsL_all_r1 ++ (wsL_all_r2 ++ (wsL_all_r3 ++ (wsL_all_r4 ++ (wsL_all_r5 ++ wsL_all_r6))))) ++ wsX00 ++ (vx_atS RX0 151 "java/lang/IndexOutOfBoundsException" ["java/lang/RuntimeException", "java/lang/Exception"]).filter goodWord)
def wsL_isOvertime_r1 : List Cond := [Cond.methodLink RL 96 yL_day, Cond.static yL_day, Cond.initialized RL, Cond.code yL_day cL_day 2 (some .int), Cond.methodLink RL 50 yX0_overtime, Cond.instanceMethod yX0_overtime, Cond.selects RX0 yX0_overtime yX0_overtime, Cond.initialized RX0, Cond.code yX0_overtime cX0_overtime 2 (some .int), Cond.fieldLink RX0 32 "AssignmentHouse" "shiftCount" "I", Cond.methodLink RX0 63 yX0_needOneOf, Cond.static yX0_needOneOf, Cond.code yX0_needOneOf cX0_needOneOf 2 none, Cond.classLink RX0 147 "java/lang/IndexOutOfBoundsException", Cond.initialized "java/lang/IndexOutOfBoundsException", Cond.methodLink RX0 91 yX0_overtimeHours, Cond.instanceMethod yX0_overtimeHours, Cond.selects RX0 yX0_overtimeHours yX0_overtimeHours, Cond.code yX0_overtimeHours cX0_overtimeHours 6 (some .int), Cond.fieldLink RX0 44 "AssignmentHouse" "hoursOf" "[I", Cond.fieldLink RX0 56 "AssignmentHouse" "aheadOnDay" "[I", Cond.fieldLink RX0 41 "AssignmentHouse" "dayOf" "[I", Cond.methodLink RX0 133 Lib.Math.max.name, Cond.static Lib.Math.max.name]
def wsL_isOvertime_r2 : List Cond := [Cond.initialized "java/lang/Math", Cond.code Lib.Math.max.name Lib.Math.max.code 2 (some .int), Cond.methodLink RX0 138 Lib.Math.min.name, Cond.static Lib.Math.min.name, Cond.code Lib.Math.min.name Lib.Math.min.code 2 (some .int), Cond.methodLink RX0 122 yX0_fillAheadOnDay, Cond.instanceMethod yX0_fillAheadOnDay, Cond.selects RX0 yX0_fillAheadOnDay yX0_fillAheadOnDay, Cond.code yX0_fillAheadOnDay cX0_fillAheadOnDay 9 none, Cond.fieldLink RX0 35 "AssignmentHouse" "workerOf" "[I", Cond.methodLink RX0 79 yX0_at, Cond.static yX0_at, Cond.code yX0_at cX0_at 2 (some .int), Cond.methodLink RX0 100 yX0_weekOf, Cond.static yX0_weekOf, Cond.code yX0_weekOf cX0_weekOf 1 (some .int), Cond.methodLink RX0 59 yX0_put, Cond.static yX0_put, Cond.code yX0_put cX0_put 3 none, Cond.methodLink RX0 87 yX0_isOfWorker, Cond.instanceMethod yX0_isOfWorker, Cond.selects RX0 yX0_isOfWorker yX0_isOfWorker, Cond.code yX0_isOfWorker cX0_isOfWorker 4 (some .boolean), Cond.methodLink RX0 126 yX0_plainOfDay]
def wsL_isOvertime_r3 : List Cond := [Cond.static yX0_plainOfDay, Cond.code yX0_plainOfDay cX0_plainOfDay 1 (some .int), Cond.methodLink RX0 129 yX0_plainByDayAhead, Cond.instanceMethod yX0_plainByDayAhead, Cond.selects RX0 yX0_plainByDayAhead yX0_plainByDayAhead, Cond.code yX0_plainByDayAhead cX0_plainByDayAhead 3 (some .int), Cond.methodLink RL 102 yL_hours, Cond.static yL_hours, Cond.code yL_hours cL_hours 2 (some .int), Cond.methodLink RL 47 yX0_hours, Cond.instanceMethod yX0_hours, Cond.selects RX0 yX0_hours yX0_hours, Cond.code yX0_hours cX0_hours 5 (some .int)]
def wsL_isOvertime : List Cond := .code yL_isOvertime cL_isOvertime 14 (some .boolean) :: ((wsL_isOvertime_r1 ++ (wsL_isOvertime_r2 ++ wsL_isOvertime_r3)) ++ wsX00 ++ (vx_atS RX0 151 "java/lang/IndexOutOfBoundsException" ["java/lang/RuntimeException", "java/lang/Exception"]).filter goodWord)
def wsL_isEqual_r1 : List Cond := [Cond.methodLink RL 96 yL_day, Cond.static yL_day, Cond.initialized RL, Cond.code yL_day cL_day 2 (some .int), Cond.methodLink RL 102 yL_hours, Cond.static yL_hours, Cond.code yL_hours cL_hours 2 (some .int), Cond.methodLink RL 53 yX0_hasEqual, Cond.instanceMethod yX0_hasEqual, Cond.selects RX0 yX0_hasEqual yX0_hasEqual, Cond.initialized RX0, Cond.code yX0_hasEqual cX0_hasEqual 4 (some .boolean), Cond.methodLink RX0 63 yX0_needOneOf, Cond.static yX0_needOneOf, Cond.code yX0_needOneOf cX0_needOneOf 2 none, Cond.classLink RX0 147 "java/lang/IndexOutOfBoundsException", Cond.initialized "java/lang/IndexOutOfBoundsException", Cond.methodLink RX0 94 yX0_isEqual, Cond.instanceMethod yX0_isEqual, Cond.selects RX0 yX0_isEqual yX0_isEqual, Cond.code yX0_isEqual cX0_isEqual 8 (some .boolean), Cond.fieldLink RX0 29 "AssignmentHouse" "equalGap" "I", Cond.fieldLink RX0 25 "AssignmentHouse" "equalSpan" "I", Cond.methodLink RX0 141 yX0_weeksWorked]
def wsL_isEqual_r2 : List Cond := [Cond.instanceMethod yX0_weeksWorked, Cond.selects RX0 yX0_weeksWorked yX0_weeksWorked, Cond.code yX0_weeksWorked cX0_weeksWorked 5 (some .int), Cond.fieldLink RX0 32 "AssignmentHouse" "shiftCount" "I", Cond.fieldLink RX0 35 "AssignmentHouse" "workerOf" "[I", Cond.fieldLink RX0 38 "AssignmentHouse" "siteOf" "[I", Cond.fieldLink RX0 44 "AssignmentHouse" "hoursOf" "[I", Cond.fieldLink RX0 41 "AssignmentHouse" "dayOf" "[I", Cond.methodLink RX0 79 yX0_at, Cond.static yX0_at, Cond.code yX0_at cX0_at 2 (some .int), Cond.methodLink RX0 100 yX0_weekOf, Cond.static yX0_weekOf, Cond.code yX0_weekOf cX0_weekOf 1 (some .int)]
def wsL_isEqual : List Cond := .code yL_isEqual cL_isEqual 12 (some .boolean) :: ((wsL_isEqual_r1 ++ wsL_isEqual_r2) ++ wsX00 ++ (vx_atS RX0 151 "java/lang/IndexOutOfBoundsException" ["java/lang/RuntimeException", "java/lang/Exception"]).filter goodWord)
def wsL_areShifts_r1 : List Cond := [Cond.methodLink RL 84 yX0_shifts, Cond.instanceMethod yX0_shifts, Cond.selects RX0 yX0_shifts yX0_shifts, Cond.initialized RX0, Cond.code yX0_shifts cX0_shifts 1 (some .int), Cond.fieldLink RX0 32 "AssignmentHouse" "shiftCount" "I", Cond.methodLink RL 96 yL_day, Cond.static yL_day, Cond.initialized RL, Cond.code yL_day cL_day 2 (some .int), Cond.methodLink RL 53 yX0_hasEqual, Cond.instanceMethod yX0_hasEqual, Cond.selects RX0 yX0_hasEqual yX0_hasEqual, Cond.code yX0_hasEqual cX0_hasEqual 4 (some .boolean), Cond.methodLink RX0 63 yX0_needOneOf, Cond.static yX0_needOneOf, Cond.code yX0_needOneOf cX0_needOneOf 2 none, Cond.classLink RX0 147 "java/lang/IndexOutOfBoundsException", Cond.initialized "java/lang/IndexOutOfBoundsException", Cond.methodLink RX0 94 yX0_isEqual, Cond.instanceMethod yX0_isEqual, Cond.selects RX0 yX0_isEqual yX0_isEqual, Cond.code yX0_isEqual cX0_isEqual 8 (some .boolean), Cond.fieldLink RX0 29 "AssignmentHouse" "equalGap" "I"]
def wsL_areShifts_r2 : List Cond := [Cond.fieldLink RX0 25 "AssignmentHouse" "equalSpan" "I", Cond.methodLink RX0 141 yX0_weeksWorked, Cond.instanceMethod yX0_weeksWorked, Cond.selects RX0 yX0_weeksWorked yX0_weeksWorked, Cond.code yX0_weeksWorked cX0_weeksWorked 5 (some .int), Cond.fieldLink RX0 35 "AssignmentHouse" "workerOf" "[I", Cond.fieldLink RX0 38 "AssignmentHouse" "siteOf" "[I", Cond.fieldLink RX0 44 "AssignmentHouse" "hoursOf" "[I", Cond.fieldLink RX0 41 "AssignmentHouse" "dayOf" "[I", Cond.methodLink RX0 79 yX0_at, Cond.static yX0_at, Cond.code yX0_at cX0_at 2 (some .int), Cond.methodLink RX0 100 yX0_weekOf, Cond.static yX0_weekOf, Cond.code yX0_weekOf cX0_weekOf 1 (some .int), Cond.methodLink RL 102 yL_hours, Cond.static yL_hours, Cond.code yL_hours cL_hours 2 (some .int), Cond.methodLink RL 57 yX0_payOf, Cond.instanceMethod yX0_payOf, Cond.selects RX0 yX0_payOf yX0_payOf, Cond.code yX0_payOf cX0_payOf 2 (some .int), Cond.methodLink RX0 97 yX0_shiftPay, Cond.instanceMethod yX0_shiftPay]
def wsL_areShifts_r3 : List Cond := [Cond.selects RX0 yX0_shiftPay yX0_shiftPay, Cond.code yX0_shiftPay cX0_shiftPay 5 (some .int), Cond.methodLink RX0 91 yX0_overtimeHours, Cond.instanceMethod yX0_overtimeHours, Cond.selects RX0 yX0_overtimeHours yX0_overtimeHours, Cond.code yX0_overtimeHours cX0_overtimeHours 6 (some .int), Cond.fieldLink RX0 56 "AssignmentHouse" "aheadOnDay" "[I", Cond.methodLink RX0 133 Lib.Math.max.name, Cond.static Lib.Math.max.name, Cond.initialized "java/lang/Math", Cond.code Lib.Math.max.name Lib.Math.max.code 2 (some .int), Cond.methodLink RX0 138 Lib.Math.min.name, Cond.static Lib.Math.min.name, Cond.code Lib.Math.min.name Lib.Math.min.code 2 (some .int), Cond.methodLink RX0 122 yX0_fillAheadOnDay, Cond.instanceMethod yX0_fillAheadOnDay, Cond.selects RX0 yX0_fillAheadOnDay yX0_fillAheadOnDay, Cond.code yX0_fillAheadOnDay cX0_fillAheadOnDay 9 none, Cond.methodLink RX0 59 yX0_put, Cond.static yX0_put, Cond.code yX0_put cX0_put 3 none, Cond.methodLink RX0 87 yX0_isOfWorker, Cond.instanceMethod yX0_isOfWorker, Cond.selects RX0 yX0_isOfWorker yX0_isOfWorker]
def wsL_areShifts_r4 : List Cond := [Cond.code yX0_isOfWorker cX0_isOfWorker 4 (some .boolean), Cond.methodLink RX0 126 yX0_plainOfDay, Cond.static yX0_plainOfDay, Cond.code yX0_plainOfDay cX0_plainOfDay 1 (some .int), Cond.methodLink RX0 129 yX0_plainByDayAhead, Cond.instanceMethod yX0_plainByDayAhead, Cond.selects RX0 yX0_plainByDayAhead yX0_plainByDayAhead, Cond.code yX0_plainByDayAhead cX0_plainByDayAhead 3 (some .int), Cond.methodLink RX0 112 yX0_rateThere, Cond.instanceMethod yX0_rateThere, Cond.selects RX0 yX0_rateThere yX0_rateThere, Cond.code yX0_rateThere cX0_rateThere 4 (some .int), Cond.fieldLink RX0 13 "AssignmentHouse" "equalRate" "[I", Cond.fieldLink RX0 9 "AssignmentHouse" "plainRate" "[I", Cond.methodLink RL 50 yX0_overtime, Cond.instanceMethod yX0_overtime, Cond.selects RX0 yX0_overtime yX0_overtime, Cond.code yX0_overtime cX0_overtime 2 (some .int), Cond.methodLink RL 60 yX0_chargeOf, Cond.instanceMethod yX0_chargeOf, Cond.selects RX0 yX0_chargeOf yX0_chargeOf, Cond.code yX0_chargeOf cX0_chargeOf 3 (some .int), Cond.methodLink RX0 103 yX0_marginAt, Cond.instanceMethod yX0_marginAt]
def wsL_areShifts_r5 : List Cond := [Cond.selects RX0 yX0_marginAt yX0_marginAt, Cond.code yX0_marginAt cX0_marginAt 4 (some .int), Cond.fieldLink RX0 22 "AssignmentHouse" "lowVolume" "[I", Cond.fieldLink RX0 19 "AssignmentHouse" "lowMargin" "[I", Cond.fieldLink RX0 16 "AssignmentHouse" "highMargin" "[I", Cond.methodLink RX0 144 yX0_hoursAtSite, Cond.instanceMethod yX0_hoursAtSite, Cond.selects RX0 yX0_hoursAtSite yX0_hoursAtSite, Cond.code yX0_hoursAtSite cX0_hoursAtSite 5 (some .int), Cond.methodLink RX0 119 yX0_isAtSite, Cond.instanceMethod yX0_isAtSite, Cond.selects RX0 yX0_isAtSite yX0_isAtSite, Cond.code yX0_isAtSite cX0_isAtSite 4 (some .boolean), Cond.methodLink RX0 106 yX0_chargeFor, Cond.static yX0_chargeFor, Cond.code yX0_chargeFor cX0_chargeFor 2 (some .int)]
def wsL_areShifts : List Cond := .code yL_areShifts cL_areShifts 12 (some .boolean) :: ((wsL_areShifts_r1 ++ (wsL_areShifts_r2 ++ (wsL_areShifts_r3 ++ (wsL_areShifts_r4 ++ wsL_areShifts_r5)))) ++ wsX00 ++ (vx_atS RX0 151 "java/lang/IndexOutOfBoundsException" ["java/lang/RuntimeException", "java/lang/Exception"]).filter goodWord)
def wsL_areSums_r1 : List Cond := [Cond.methodLink RL 96 yL_day, Cond.static yL_day, Cond.initialized RL, Cond.code yL_day cL_day 2 (some .int), Cond.methodLink RL 57 yX0_payOf, Cond.instanceMethod yX0_payOf, Cond.selects RX0 yX0_payOf yX0_payOf, Cond.initialized RX0, Cond.code yX0_payOf cX0_payOf 2 (some .int), Cond.fieldLink RX0 32 "AssignmentHouse" "shiftCount" "I", Cond.methodLink RX0 63 yX0_needOneOf, Cond.static yX0_needOneOf, Cond.code yX0_needOneOf cX0_needOneOf 2 none, Cond.classLink RX0 147 "java/lang/IndexOutOfBoundsException", Cond.initialized "java/lang/IndexOutOfBoundsException", Cond.methodLink RX0 97 yX0_shiftPay, Cond.instanceMethod yX0_shiftPay, Cond.selects RX0 yX0_shiftPay yX0_shiftPay, Cond.code yX0_shiftPay cX0_shiftPay 5 (some .int), Cond.fieldLink RX0 44 "AssignmentHouse" "hoursOf" "[I", Cond.fieldLink RX0 35 "AssignmentHouse" "workerOf" "[I", Cond.fieldLink RX0 38 "AssignmentHouse" "siteOf" "[I", Cond.fieldLink RX0 41 "AssignmentHouse" "dayOf" "[I", Cond.methodLink RX0 91 yX0_overtimeHours]
def wsL_areSums_r2 : List Cond := [Cond.instanceMethod yX0_overtimeHours, Cond.selects RX0 yX0_overtimeHours yX0_overtimeHours, Cond.code yX0_overtimeHours cX0_overtimeHours 6 (some .int), Cond.fieldLink RX0 56 "AssignmentHouse" "aheadOnDay" "[I", Cond.methodLink RX0 133 Lib.Math.max.name, Cond.static Lib.Math.max.name, Cond.initialized "java/lang/Math", Cond.code Lib.Math.max.name Lib.Math.max.code 2 (some .int), Cond.methodLink RX0 138 Lib.Math.min.name, Cond.static Lib.Math.min.name, Cond.code Lib.Math.min.name Lib.Math.min.code 2 (some .int), Cond.methodLink RX0 122 yX0_fillAheadOnDay, Cond.instanceMethod yX0_fillAheadOnDay, Cond.selects RX0 yX0_fillAheadOnDay yX0_fillAheadOnDay, Cond.code yX0_fillAheadOnDay cX0_fillAheadOnDay 9 none, Cond.methodLink RX0 79 yX0_at, Cond.static yX0_at, Cond.code yX0_at cX0_at 2 (some .int), Cond.methodLink RX0 100 yX0_weekOf, Cond.static yX0_weekOf, Cond.code yX0_weekOf cX0_weekOf 1 (some .int), Cond.methodLink RX0 59 yX0_put, Cond.static yX0_put, Cond.code yX0_put cX0_put 3 none]
def wsL_areSums_r3 : List Cond := [Cond.methodLink RX0 87 yX0_isOfWorker, Cond.instanceMethod yX0_isOfWorker, Cond.selects RX0 yX0_isOfWorker yX0_isOfWorker, Cond.code yX0_isOfWorker cX0_isOfWorker 4 (some .boolean), Cond.methodLink RX0 126 yX0_plainOfDay, Cond.static yX0_plainOfDay, Cond.code yX0_plainOfDay cX0_plainOfDay 1 (some .int), Cond.methodLink RX0 129 yX0_plainByDayAhead, Cond.instanceMethod yX0_plainByDayAhead, Cond.selects RX0 yX0_plainByDayAhead yX0_plainByDayAhead, Cond.code yX0_plainByDayAhead cX0_plainByDayAhead 3 (some .int), Cond.methodLink RX0 112 yX0_rateThere, Cond.instanceMethod yX0_rateThere, Cond.selects RX0 yX0_rateThere yX0_rateThere, Cond.code yX0_rateThere cX0_rateThere 4 (some .int), Cond.fieldLink RX0 13 "AssignmentHouse" "equalRate" "[I", Cond.fieldLink RX0 9 "AssignmentHouse" "plainRate" "[I", Cond.methodLink RX0 94 yX0_isEqual, Cond.instanceMethod yX0_isEqual, Cond.selects RX0 yX0_isEqual yX0_isEqual, Cond.code yX0_isEqual cX0_isEqual 8 (some .boolean), Cond.fieldLink RX0 29 "AssignmentHouse" "equalGap" "I", Cond.fieldLink RX0 25 "AssignmentHouse" "equalSpan" "I", Cond.methodLink RX0 141 yX0_weeksWorked]
def wsL_areSums_r4 : List Cond := [Cond.instanceMethod yX0_weeksWorked, Cond.selects RX0 yX0_weeksWorked yX0_weeksWorked, Cond.code yX0_weeksWorked cX0_weeksWorked 5 (some .int), Cond.methodLink RL 102 yL_hours, Cond.static yL_hours, Cond.code yL_hours cL_hours 2 (some .int), Cond.methodLink RL 63 yX0_pay, Cond.instanceMethod yX0_pay, Cond.selects RX0 yX0_pay yX0_pay, Cond.code yX0_pay cX0_pay 3 (some .int), Cond.methodLink RX0 109 yX0_weekPay, Cond.instanceMethod yX0_weekPay, Cond.selects RX0 yX0_weekPay yX0_weekPay, Cond.code yX0_weekPay cX0_weekPay 5 (some .int), Cond.methodLink RL 66 yX0_payByHours, Cond.instanceMethod yX0_payByHours, Cond.selects RX0 yX0_payByHours yX0_payByHours, Cond.code yX0_payByHours cX0_payByHours 13 (some .int), Cond.methodLink RL 69 yX0_paid, Cond.instanceMethod yX0_paid, Cond.selects RX0 yX0_paid yX0_paid, Cond.code yX0_paid cX0_paid 3 (some .int), Cond.fieldLink RX0 47 "AssignmentHouse" "paidFor" "[I", Cond.methodLink RL 75 yX0_owing]
def wsL_areSums_r5 : List Cond := [Cond.instanceMethod yX0_owing, Cond.selects RX0 yX0_owing yX0_owing, Cond.code yX0_owing cX0_owing 3 (some .int), Cond.methodLink RL 81 yX0_holiday, Cond.instanceMethod yX0_holiday, Cond.selects RX0 yX0_holiday yX0_holiday, Cond.code yX0_holiday cX0_holiday 2 (some .int), Cond.methodLink RX0 83 yX0_minutesLeft, Cond.instanceMethod yX0_minutesLeft, Cond.selects RX0 yX0_minutesLeft yX0_minutesLeft, Cond.code yX0_minutesLeft cX0_minutesLeft 4 (some .int), Cond.fieldLink RX0 53 "AssignmentHouse" "minutesTaken" "[I", Cond.methodLink RL 60 yX0_chargeOf, Cond.instanceMethod yX0_chargeOf, Cond.selects RX0 yX0_chargeOf yX0_chargeOf, Cond.code yX0_chargeOf cX0_chargeOf 3 (some .int), Cond.methodLink RX0 103 yX0_marginAt, Cond.instanceMethod yX0_marginAt, Cond.selects RX0 yX0_marginAt yX0_marginAt, Cond.code yX0_marginAt cX0_marginAt 4 (some .int), Cond.fieldLink RX0 22 "AssignmentHouse" "lowVolume" "[I", Cond.fieldLink RX0 19 "AssignmentHouse" "lowMargin" "[I", Cond.fieldLink RX0 16 "AssignmentHouse" "highMargin" "[I", Cond.methodLink RX0 144 yX0_hoursAtSite]
def wsL_areSums_r6 : List Cond := [Cond.instanceMethod yX0_hoursAtSite, Cond.selects RX0 yX0_hoursAtSite yX0_hoursAtSite, Cond.code yX0_hoursAtSite cX0_hoursAtSite 5 (some .int), Cond.methodLink RX0 119 yX0_isAtSite, Cond.instanceMethod yX0_isAtSite, Cond.selects RX0 yX0_isAtSite yX0_isAtSite, Cond.code yX0_isAtSite cX0_isAtSite 4 (some .boolean), Cond.methodLink RX0 106 yX0_chargeFor, Cond.static yX0_chargeFor, Cond.code yX0_chargeFor cX0_chargeFor 2 (some .int), Cond.methodLink RL 72 yX0_billed, Cond.instanceMethod yX0_billed, Cond.selects RX0 yX0_billed yX0_billed, Cond.code yX0_billed cX0_billed 3 (some .int), Cond.fieldLink RX0 50 "AssignmentHouse" "billedFor" "[I", Cond.methodLink RL 78 yX0_toBill, Cond.instanceMethod yX0_toBill, Cond.selects RX0 yX0_toBill yX0_toBill, Cond.code yX0_toBill cX0_toBill 3 (some .int), Cond.methodLink RX0 116 yX0_weekCharge, Cond.instanceMethod yX0_weekCharge, Cond.selects RX0 yX0_weekCharge yX0_weekCharge, Cond.code yX0_weekCharge cX0_weekCharge 6 (some .int)]
def wsL_areSums : List Cond := .code yL_areSums cL_areSums 11 (some .boolean) :: ((wsL_areSums_r1 ++ (wsL_areSums_r2 ++ (wsL_areSums_r3 ++ (wsL_areSums_r4 ++ (wsL_areSums_r5 ++ wsL_areSums_r6))))) ++ wsX00 ++ (vx_atS RX0 151 "java/lang/IndexOutOfBoundsException" ["java/lang/RuntimeException", "java/lang/Exception"]).filter goodWord)
def wsL_isRefused_r1 : List Cond := [Cond.constant RL 17 (-1100000001), Cond.constant RL 20 (-1100000002), Cond.constant RL 46 (-1100000003), Cond.methodLink RL 104 yL_all, Cond.static yL_all, Cond.initialized RL, Cond.code yL_all cL_all 5 (some .long), Cond.constantLong RL 88 (1000003), Cond.constantLong RL 90 (31), Cond.constantLong RL 92 (257), Cond.constantLong RL 94 (65537), Cond.methodLink RL 84 yX0_shifts, Cond.instanceMethod yX0_shifts, Cond.selects RX0 yX0_shifts yX0_shifts, Cond.initialized RX0, Cond.code yX0_shifts cX0_shifts 1 (some .int), Cond.fieldLink RX0 32 "AssignmentHouse" "shiftCount" "I", Cond.methodLink RL 57 yX0_payOf, Cond.instanceMethod yX0_payOf, Cond.selects RX0 yX0_payOf yX0_payOf, Cond.code yX0_payOf cX0_payOf 2 (some .int), Cond.methodLink RX0 63 yX0_needOneOf, Cond.static yX0_needOneOf, Cond.code yX0_needOneOf cX0_needOneOf 2 none]
def wsL_isRefused_r2 : List Cond := [Cond.classLink RX0 147 "java/lang/IndexOutOfBoundsException", Cond.initialized "java/lang/IndexOutOfBoundsException", Cond.methodLink RX0 97 yX0_shiftPay, Cond.instanceMethod yX0_shiftPay, Cond.selects RX0 yX0_shiftPay yX0_shiftPay, Cond.code yX0_shiftPay cX0_shiftPay 5 (some .int), Cond.fieldLink RX0 44 "AssignmentHouse" "hoursOf" "[I", Cond.fieldLink RX0 35 "AssignmentHouse" "workerOf" "[I", Cond.fieldLink RX0 38 "AssignmentHouse" "siteOf" "[I", Cond.fieldLink RX0 41 "AssignmentHouse" "dayOf" "[I", Cond.methodLink RX0 91 yX0_overtimeHours, Cond.instanceMethod yX0_overtimeHours, Cond.selects RX0 yX0_overtimeHours yX0_overtimeHours, Cond.code yX0_overtimeHours cX0_overtimeHours 6 (some .int), Cond.fieldLink RX0 56 "AssignmentHouse" "aheadOnDay" "[I", Cond.methodLink RX0 133 Lib.Math.max.name, Cond.static Lib.Math.max.name, Cond.initialized "java/lang/Math", Cond.code Lib.Math.max.name Lib.Math.max.code 2 (some .int), Cond.methodLink RX0 138 Lib.Math.min.name, Cond.static Lib.Math.min.name, Cond.code Lib.Math.min.name Lib.Math.min.code 2 (some .int), Cond.methodLink RX0 122 yX0_fillAheadOnDay, Cond.instanceMethod yX0_fillAheadOnDay]
def wsL_isRefused_r3 : List Cond := [Cond.selects RX0 yX0_fillAheadOnDay yX0_fillAheadOnDay, Cond.code yX0_fillAheadOnDay cX0_fillAheadOnDay 9 none, Cond.methodLink RX0 79 yX0_at, Cond.static yX0_at, Cond.code yX0_at cX0_at 2 (some .int), Cond.methodLink RX0 100 yX0_weekOf, Cond.static yX0_weekOf, Cond.code yX0_weekOf cX0_weekOf 1 (some .int), Cond.methodLink RX0 59 yX0_put, Cond.static yX0_put, Cond.code yX0_put cX0_put 3 none, Cond.methodLink RX0 87 yX0_isOfWorker, Cond.instanceMethod yX0_isOfWorker, Cond.selects RX0 yX0_isOfWorker yX0_isOfWorker, Cond.code yX0_isOfWorker cX0_isOfWorker 4 (some .boolean), Cond.methodLink RX0 126 yX0_plainOfDay, Cond.static yX0_plainOfDay, Cond.code yX0_plainOfDay cX0_plainOfDay 1 (some .int), Cond.methodLink RX0 129 yX0_plainByDayAhead, Cond.instanceMethod yX0_plainByDayAhead, Cond.selects RX0 yX0_plainByDayAhead yX0_plainByDayAhead, Cond.code yX0_plainByDayAhead cX0_plainByDayAhead 3 (some .int), Cond.methodLink RX0 112 yX0_rateThere, Cond.instanceMethod yX0_rateThere]
def wsL_isRefused_r4 : List Cond := [Cond.selects RX0 yX0_rateThere yX0_rateThere, Cond.code yX0_rateThere cX0_rateThere 4 (some .int), Cond.fieldLink RX0 13 "AssignmentHouse" "equalRate" "[I", Cond.fieldLink RX0 9 "AssignmentHouse" "plainRate" "[I", Cond.methodLink RX0 94 yX0_isEqual, Cond.instanceMethod yX0_isEqual, Cond.selects RX0 yX0_isEqual yX0_isEqual, Cond.code yX0_isEqual cX0_isEqual 8 (some .boolean), Cond.fieldLink RX0 29 "AssignmentHouse" "equalGap" "I", Cond.fieldLink RX0 25 "AssignmentHouse" "equalSpan" "I", Cond.methodLink RX0 141 yX0_weeksWorked, Cond.instanceMethod yX0_weeksWorked, Cond.selects RX0 yX0_weeksWorked yX0_weeksWorked, Cond.code yX0_weeksWorked cX0_weeksWorked 5 (some .int), Cond.methodLink RL 60 yX0_chargeOf, Cond.instanceMethod yX0_chargeOf, Cond.selects RX0 yX0_chargeOf yX0_chargeOf, Cond.code yX0_chargeOf cX0_chargeOf 3 (some .int), Cond.methodLink RX0 103 yX0_marginAt, Cond.instanceMethod yX0_marginAt, Cond.selects RX0 yX0_marginAt yX0_marginAt, Cond.code yX0_marginAt cX0_marginAt 4 (some .int), Cond.fieldLink RX0 22 "AssignmentHouse" "lowVolume" "[I", Cond.fieldLink RX0 19 "AssignmentHouse" "lowMargin" "[I"]
def wsL_isRefused_r5 : List Cond := [Cond.fieldLink RX0 16 "AssignmentHouse" "highMargin" "[I", Cond.methodLink RX0 144 yX0_hoursAtSite, Cond.instanceMethod yX0_hoursAtSite, Cond.selects RX0 yX0_hoursAtSite yX0_hoursAtSite, Cond.code yX0_hoursAtSite cX0_hoursAtSite 5 (some .int), Cond.methodLink RX0 119 yX0_isAtSite, Cond.instanceMethod yX0_isAtSite, Cond.selects RX0 yX0_isAtSite yX0_isAtSite, Cond.code yX0_isAtSite cX0_isAtSite 4 (some .boolean), Cond.methodLink RX0 106 yX0_chargeFor, Cond.static yX0_chargeFor, Cond.code yX0_chargeFor cX0_chargeFor 2 (some .int), Cond.methodLink RL 81 yX0_holiday, Cond.instanceMethod yX0_holiday, Cond.selects RX0 yX0_holiday yX0_holiday, Cond.code yX0_holiday cX0_holiday 2 (some .int), Cond.methodLink RX0 83 yX0_minutesLeft, Cond.instanceMethod yX0_minutesLeft, Cond.selects RX0 yX0_minutesLeft yX0_minutesLeft, Cond.code yX0_minutesLeft cX0_minutesLeft 4 (some .int), Cond.fieldLink RX0 53 "AssignmentHouse" "minutesTaken" "[I", Cond.methodLink RL 69 yX0_paid, Cond.instanceMethod yX0_paid, Cond.selects RX0 yX0_paid yX0_paid]
def wsL_isRefused_r6 : List Cond := [Cond.code yX0_paid cX0_paid 3 (some .int), Cond.fieldLink RX0 47 "AssignmentHouse" "paidFor" "[I", Cond.methodLink RL 75 yX0_owing, Cond.instanceMethod yX0_owing, Cond.selects RX0 yX0_owing yX0_owing, Cond.code yX0_owing cX0_owing 3 (some .int), Cond.methodLink RX0 109 yX0_weekPay, Cond.instanceMethod yX0_weekPay, Cond.selects RX0 yX0_weekPay yX0_weekPay, Cond.code yX0_weekPay cX0_weekPay 5 (some .int), Cond.methodLink RL 108 yL_setRates, Cond.static yL_setRates, Cond.codeWith yL_setRates cL_setRates 5 (some .int) [(0, 8, 9, 15), (0, 8, 14, 18)], Cond.classLink RL 15 "java/lang/IndexOutOfBoundsException", Cond.classLink RL 18 "java/lang/IllegalArgumentException", Cond.methodLink RL 9 yX0_setRates, Cond.instanceMethod yX0_setRates, Cond.selects RX0 yX0_setRates yX0_setRates, Cond.code yX0_setRates cX0_setRates 4 none, Cond.methodLink RX0 67 yX0_needRange, Cond.static yX0_needRange, Cond.code yX0_needRange cX0_needRange 3 none, Cond.classLink RX0 154 "java/lang/IllegalArgumentException", Cond.initialized "java/lang/IllegalArgumentException"]
def wsL_isRefused_r7 : List Cond := [Cond.methodLink RL 111 yL_setMargins, Cond.static yL_setMargins, Cond.codeWith yL_setMargins cL_setMargins 6 (some .int) [(0, 10, 11, 15), (0, 10, 16, 18)], Cond.methodLink RL 21 yX0_setMargins, Cond.instanceMethod yX0_setMargins, Cond.selects RX0 yX0_setMargins yX0_setMargins, Cond.code yX0_setMargins cX0_setMargins 5 none, Cond.methodLink RL 114 yL_setEqual, Cond.static yL_setEqual, Cond.codeWith yL_setEqual cL_setEqual 4 (some .int) [(0, 7, 8, 18)], Cond.methodLink RL 25 yX0_setEqual, Cond.instanceMethod yX0_setEqual, Cond.selects RX0 yX0_setEqual yX0_setEqual, Cond.code yX0_setEqual cX0_setEqual 3 none, Cond.methodLink RL 117 yL_act, Cond.static yL_act, Cond.codeWith yL_act cL_act 7 (some .int) [(0, 50, 51, 15), (0, 50, 56, 18), (0, 50, 61, 44)], Cond.classLink RL 44 "java/lang/IllegalStateException", Cond.methodLink RL 29 yX0_shift, Cond.instanceMethod yX0_shift, Cond.selects RX0 yX0_shift yX0_shift, Cond.code yX0_shift cX0_shift 6 (some .int), Cond.methodLink RX0 71 yX0_needState, Cond.static yX0_needState]
def wsL_isRefused_r8 : List Cond := [Cond.code yX0_needState cX0_needState 1 none, Cond.classLink RX0 159 "java/lang/IllegalStateException", Cond.initialized "java/lang/IllegalStateException", Cond.methodLink RX0 75 yX0_hoursOnDay, Cond.instanceMethod yX0_hoursOnDay, Cond.selects RX0 yX0_hoursOnDay yX0_hoursOnDay, Cond.code yX0_hoursOnDay cX0_hoursOnDay 5 (some .int), Cond.methodLink RL 33 yX0_correct, Cond.instanceMethod yX0_correct, Cond.selects RX0 yX0_correct yX0_correct, Cond.code yX0_correct cX0_correct 6 (some .int), Cond.methodLink RL 37 yX0_run, Cond.instanceMethod yX0_run, Cond.selects RX0 yX0_run yX0_run, Cond.code yX0_run cX0_run 6 (some .int), Cond.fieldLink RX0 50 "AssignmentHouse" "billedFor" "[I", Cond.methodLink RX0 116 yX0_weekCharge, Cond.instanceMethod yX0_weekCharge, Cond.selects RX0 yX0_weekCharge yX0_weekCharge, Cond.code yX0_weekCharge cX0_weekCharge 6 (some .int), Cond.methodLink RL 41 yX0_takeHoliday, Cond.instanceMethod yX0_takeHoliday, Cond.selects RX0 yX0_takeHoliday yX0_takeHoliday, Cond.code yX0_takeHoliday cX0_takeHoliday 4 (some .int)]
def wsL_isRefused_r9 : List Cond := [Cond.methodLink RL 121 yL_of, Cond.static yL_of, Cond.codeWith yL_of cL_of 6 (some .int) [(0, 170, 171, 15)], Cond.methodLink RL 47 yX0_hours, Cond.instanceMethod yX0_hours, Cond.selects RX0 yX0_hours yX0_hours, Cond.code yX0_hours cX0_hours 5 (some .int), Cond.methodLink RL 50 yX0_overtime, Cond.instanceMethod yX0_overtime, Cond.selects RX0 yX0_overtime yX0_overtime, Cond.code yX0_overtime cX0_overtime 2 (some .int), Cond.methodLink RL 53 yX0_hasEqual, Cond.instanceMethod yX0_hasEqual, Cond.selects RX0 yX0_hasEqual yX0_hasEqual, Cond.code yX0_hasEqual cX0_hasEqual 4 (some .boolean), Cond.methodLink RL 63 yX0_pay, Cond.instanceMethod yX0_pay, Cond.selects RX0 yX0_pay yX0_pay, Cond.code yX0_pay cX0_pay 3 (some .int), Cond.methodLink RL 66 yX0_payByHours, Cond.instanceMethod yX0_payByHours, Cond.selects RX0 yX0_payByHours yX0_payByHours, Cond.code yX0_payByHours cX0_payByHours 13 (some .int), Cond.methodLink RL 72 yX0_billed]
def wsL_isRefused_r10 : List Cond := [Cond.instanceMethod yX0_billed, Cond.selects RX0 yX0_billed yX0_billed, Cond.code yX0_billed cX0_billed 3 (some .int), Cond.methodLink RL 78 yX0_toBill, Cond.instanceMethod yX0_toBill, Cond.selects RX0 yX0_toBill yX0_toBill, Cond.code yX0_toBill cX0_toBill 3 (some .int)]
def wsL_isRefused : List Cond := .code yL_isRefused cL_isRefused 15 (some .boolean) :: ((wsL_isRefused_r1 ++ (wsL_isRefused_r2 ++ (wsL_isRefused_r3 ++ (wsL_isRefused_r4 ++ (wsL_isRefused_r5 ++ (wsL_isRefused_r6 ++ (wsL_isRefused_r7 ++ (wsL_isRefused_r8 ++ (wsL_isRefused_r9 ++ wsL_isRefused_r10))))))))) ++ wsX00 ++ (vx_atS RX0 151 "java/lang/IndexOutOfBoundsException" ["java/lang/RuntimeException", "java/lang/Exception"]).filter goodWord ++ (vx_atS RX0 158 "java/lang/IllegalArgumentException" ["java/lang/RuntimeException", "java/lang/Exception"]).filter goodWord ++ (vx_atS RX0 163 "java/lang/IllegalStateException" ["java/lang/RuntimeException", "java/lang/Exception"]).filter goodWord)
def wsL_onDay : List Cond := .code yL_onDay cL_onDay 6 (some .int) :: ([.methodLink RL 96 yL_day, .static yL_day, .initialized RL, .code yL_day cL_day 2 (some .int), .methodLink RL 102 yL_hours, .static yL_hours, .code yL_hours cL_hours 2 (some .int)])
def wsL_isTold_r1 : List Cond := [Cond.constant RL 46 (-1100000003), Cond.methodLink RL 124 yL_onDay, Cond.static yL_onDay, Cond.initialized RL, Cond.code yL_onDay cL_onDay 6 (some .int), Cond.methodLink RL 96 yL_day, Cond.static yL_day, Cond.code yL_day cL_day 2 (some .int), Cond.methodLink RL 102 yL_hours, Cond.static yL_hours, Cond.code yL_hours cL_hours 2 (some .int), Cond.methodLink RL 81 yX0_holiday, Cond.instanceMethod yX0_holiday, Cond.selects RX0 yX0_holiday yX0_holiday, Cond.initialized RX0, Cond.code yX0_holiday cX0_holiday 2 (some .int), Cond.methodLink RX0 63 yX0_needOneOf, Cond.static yX0_needOneOf, Cond.code yX0_needOneOf cX0_needOneOf 2 none, Cond.classLink RX0 147 "java/lang/IndexOutOfBoundsException", Cond.initialized "java/lang/IndexOutOfBoundsException", Cond.methodLink RX0 83 yX0_minutesLeft, Cond.instanceMethod yX0_minutesLeft, Cond.selects RX0 yX0_minutesLeft yX0_minutesLeft]
def wsL_isTold_r2 : List Cond := [Cond.code yX0_minutesLeft cX0_minutesLeft 4 (some .int), Cond.fieldLink RX0 32 "AssignmentHouse" "shiftCount" "I", Cond.fieldLink RX0 35 "AssignmentHouse" "workerOf" "[I", Cond.fieldLink RX0 44 "AssignmentHouse" "hoursOf" "[I", Cond.fieldLink RX0 53 "AssignmentHouse" "minutesTaken" "[I", Cond.methodLink RX0 79 yX0_at, Cond.static yX0_at, Cond.code yX0_at cX0_at 2 (some .int), Cond.methodLink RL 117 yL_act, Cond.static yL_act, Cond.codeWith yL_act cL_act 7 (some .int) [(0, 50, 51, 15), (0, 50, 56, 18), (0, 50, 61, 44)], Cond.classLink RL 15 "java/lang/IndexOutOfBoundsException", Cond.classLink RL 18 "java/lang/IllegalArgumentException", Cond.classLink RL 44 "java/lang/IllegalStateException", Cond.constant RL 17 (-1100000001), Cond.constant RL 20 (-1100000002), Cond.methodLink RL 29 yX0_shift, Cond.instanceMethod yX0_shift, Cond.selects RX0 yX0_shift yX0_shift, Cond.code yX0_shift cX0_shift 6 (some .int), Cond.fieldLink RX0 38 "AssignmentHouse" "siteOf" "[I", Cond.fieldLink RX0 41 "AssignmentHouse" "dayOf" "[I", Cond.methodLink RX0 67 yX0_needRange, Cond.static yX0_needRange]
def wsL_isTold_r3 : List Cond := [Cond.code yX0_needRange cX0_needRange 3 none, Cond.classLink RX0 154 "java/lang/IllegalArgumentException", Cond.initialized "java/lang/IllegalArgumentException", Cond.methodLink RX0 71 yX0_needState, Cond.static yX0_needState, Cond.code yX0_needState cX0_needState 1 none, Cond.classLink RX0 159 "java/lang/IllegalStateException", Cond.initialized "java/lang/IllegalStateException", Cond.methodLink RX0 75 yX0_hoursOnDay, Cond.instanceMethod yX0_hoursOnDay, Cond.selects RX0 yX0_hoursOnDay yX0_hoursOnDay, Cond.code yX0_hoursOnDay cX0_hoursOnDay 5 (some .int), Cond.methodLink RX0 59 yX0_put, Cond.static yX0_put, Cond.code yX0_put cX0_put 3 none, Cond.methodLink RL 33 yX0_correct, Cond.instanceMethod yX0_correct, Cond.selects RX0 yX0_correct yX0_correct, Cond.code yX0_correct cX0_correct 6 (some .int), Cond.methodLink RL 37 yX0_run, Cond.instanceMethod yX0_run, Cond.selects RX0 yX0_run yX0_run, Cond.code yX0_run cX0_run 6 (some .int), Cond.fieldLink RX0 47 "AssignmentHouse" "paidFor" "[I"]
def wsL_isTold_r4 : List Cond := [Cond.fieldLink RX0 50 "AssignmentHouse" "billedFor" "[I", Cond.methodLink RX0 109 yX0_weekPay, Cond.instanceMethod yX0_weekPay, Cond.selects RX0 yX0_weekPay yX0_weekPay, Cond.code yX0_weekPay cX0_weekPay 5 (some .int), Cond.methodLink RX0 87 yX0_isOfWorker, Cond.instanceMethod yX0_isOfWorker, Cond.selects RX0 yX0_isOfWorker yX0_isOfWorker, Cond.code yX0_isOfWorker cX0_isOfWorker 4 (some .boolean), Cond.methodLink RX0 100 yX0_weekOf, Cond.static yX0_weekOf, Cond.code yX0_weekOf cX0_weekOf 1 (some .int), Cond.methodLink RX0 97 yX0_shiftPay, Cond.instanceMethod yX0_shiftPay, Cond.selects RX0 yX0_shiftPay yX0_shiftPay, Cond.code yX0_shiftPay cX0_shiftPay 5 (some .int), Cond.methodLink RX0 91 yX0_overtimeHours, Cond.instanceMethod yX0_overtimeHours, Cond.selects RX0 yX0_overtimeHours yX0_overtimeHours, Cond.code yX0_overtimeHours cX0_overtimeHours 6 (some .int), Cond.fieldLink RX0 56 "AssignmentHouse" "aheadOnDay" "[I", Cond.methodLink RX0 133 Lib.Math.max.name, Cond.static Lib.Math.max.name, Cond.initialized "java/lang/Math"]
def wsL_isTold_r5 : List Cond := [Cond.code Lib.Math.max.name Lib.Math.max.code 2 (some .int), Cond.methodLink RX0 138 Lib.Math.min.name, Cond.static Lib.Math.min.name, Cond.code Lib.Math.min.name Lib.Math.min.code 2 (some .int), Cond.methodLink RX0 122 yX0_fillAheadOnDay, Cond.instanceMethod yX0_fillAheadOnDay, Cond.selects RX0 yX0_fillAheadOnDay yX0_fillAheadOnDay, Cond.code yX0_fillAheadOnDay cX0_fillAheadOnDay 9 none, Cond.methodLink RX0 126 yX0_plainOfDay, Cond.static yX0_plainOfDay, Cond.code yX0_plainOfDay cX0_plainOfDay 1 (some .int), Cond.methodLink RX0 129 yX0_plainByDayAhead, Cond.instanceMethod yX0_plainByDayAhead, Cond.selects RX0 yX0_plainByDayAhead yX0_plainByDayAhead, Cond.code yX0_plainByDayAhead cX0_plainByDayAhead 3 (some .int), Cond.methodLink RX0 112 yX0_rateThere, Cond.instanceMethod yX0_rateThere, Cond.selects RX0 yX0_rateThere yX0_rateThere, Cond.code yX0_rateThere cX0_rateThere 4 (some .int), Cond.fieldLink RX0 13 "AssignmentHouse" "equalRate" "[I", Cond.fieldLink RX0 9 "AssignmentHouse" "plainRate" "[I", Cond.methodLink RX0 94 yX0_isEqual, Cond.instanceMethod yX0_isEqual, Cond.selects RX0 yX0_isEqual yX0_isEqual]
def wsL_isTold_r6 : List Cond := [Cond.code yX0_isEqual cX0_isEqual 8 (some .boolean), Cond.fieldLink RX0 29 "AssignmentHouse" "equalGap" "I", Cond.fieldLink RX0 25 "AssignmentHouse" "equalSpan" "I", Cond.methodLink RX0 141 yX0_weeksWorked, Cond.instanceMethod yX0_weeksWorked, Cond.selects RX0 yX0_weeksWorked yX0_weeksWorked, Cond.code yX0_weeksWorked cX0_weeksWorked 5 (some .int), Cond.methodLink RX0 116 yX0_weekCharge, Cond.instanceMethod yX0_weekCharge, Cond.selects RX0 yX0_weekCharge yX0_weekCharge, Cond.code yX0_weekCharge cX0_weekCharge 6 (some .int), Cond.methodLink RX0 103 yX0_marginAt, Cond.instanceMethod yX0_marginAt, Cond.selects RX0 yX0_marginAt yX0_marginAt, Cond.code yX0_marginAt cX0_marginAt 4 (some .int), Cond.fieldLink RX0 22 "AssignmentHouse" "lowVolume" "[I", Cond.fieldLink RX0 19 "AssignmentHouse" "lowMargin" "[I", Cond.fieldLink RX0 16 "AssignmentHouse" "highMargin" "[I", Cond.methodLink RX0 144 yX0_hoursAtSite, Cond.instanceMethod yX0_hoursAtSite, Cond.selects RX0 yX0_hoursAtSite yX0_hoursAtSite, Cond.code yX0_hoursAtSite cX0_hoursAtSite 5 (some .int), Cond.methodLink RX0 119 yX0_isAtSite, Cond.instanceMethod yX0_isAtSite]
def wsL_isTold_r7 : List Cond := [Cond.selects RX0 yX0_isAtSite yX0_isAtSite, Cond.code yX0_isAtSite cX0_isAtSite 4 (some .boolean), Cond.methodLink RX0 106 yX0_chargeFor, Cond.static yX0_chargeFor, Cond.code yX0_chargeFor cX0_chargeFor 2 (some .int), Cond.methodLink RL 41 yX0_takeHoliday, Cond.instanceMethod yX0_takeHoliday, Cond.selects RX0 yX0_takeHoliday yX0_takeHoliday, Cond.code yX0_takeHoliday cX0_takeHoliday 4 (some .int)]
def wsL_isTold : List Cond := .code yL_isTold cL_isTold 9 (some .boolean) :: ((wsL_isTold_r1 ++ (wsL_isTold_r2 ++ (wsL_isTold_r3 ++ (wsL_isTold_r4 ++ (wsL_isTold_r5 ++ (wsL_isTold_r6 ++ wsL_isTold_r7)))))) ++ wsX00 ++ (vx_atS RX0 151 "java/lang/IndexOutOfBoundsException" ["java/lang/RuntimeException", "java/lang/Exception"]).filter goodWord ++ (vx_atS RX0 158 "java/lang/IllegalArgumentException" ["java/lang/RuntimeException", "java/lang/Exception"]).filter goodWord ++ (vx_atS RX0 163 "java/lang/IllegalStateException" ["java/lang/RuntimeException", "java/lang/Exception"]).filter goodWord)
def wsL_isCorrected_r1 : List Cond := [Cond.constant RL 46 (-1100000003), Cond.methodLink RL 102 yL_hours, Cond.static yL_hours, Cond.initialized RL, Cond.code yL_hours cL_hours 2 (some .int), Cond.methodLink RL 81 yX0_holiday, Cond.instanceMethod yX0_holiday, Cond.selects RX0 yX0_holiday yX0_holiday, Cond.initialized RX0, Cond.code yX0_holiday cX0_holiday 2 (some .int), Cond.methodLink RX0 63 yX0_needOneOf, Cond.static yX0_needOneOf, Cond.code yX0_needOneOf cX0_needOneOf 2 none, Cond.classLink RX0 147 "java/lang/IndexOutOfBoundsException", Cond.initialized "java/lang/IndexOutOfBoundsException", Cond.methodLink RX0 83 yX0_minutesLeft, Cond.instanceMethod yX0_minutesLeft, Cond.selects RX0 yX0_minutesLeft yX0_minutesLeft, Cond.code yX0_minutesLeft cX0_minutesLeft 4 (some .int), Cond.fieldLink RX0 32 "AssignmentHouse" "shiftCount" "I", Cond.fieldLink RX0 35 "AssignmentHouse" "workerOf" "[I", Cond.fieldLink RX0 44 "AssignmentHouse" "hoursOf" "[I", Cond.fieldLink RX0 53 "AssignmentHouse" "minutesTaken" "[I", Cond.methodLink RX0 79 yX0_at]
def wsL_isCorrected_r2 : List Cond := [Cond.static yX0_at, Cond.code yX0_at cX0_at 2 (some .int), Cond.methodLink RL 96 yL_day, Cond.static yL_day, Cond.code yL_day cL_day 2 (some .int), Cond.methodLink RL 69 yX0_paid, Cond.instanceMethod yX0_paid, Cond.selects RX0 yX0_paid yX0_paid, Cond.code yX0_paid cX0_paid 3 (some .int), Cond.fieldLink RX0 47 "AssignmentHouse" "paidFor" "[I", Cond.methodLink RL 124 yL_onDay, Cond.static yL_onDay, Cond.code yL_onDay cL_onDay 6 (some .int), Cond.methodLink RL 117 yL_act, Cond.static yL_act, Cond.codeWith yL_act cL_act 7 (some .int) [(0, 50, 51, 15), (0, 50, 56, 18), (0, 50, 61, 44)], Cond.classLink RL 15 "java/lang/IndexOutOfBoundsException", Cond.classLink RL 18 "java/lang/IllegalArgumentException", Cond.classLink RL 44 "java/lang/IllegalStateException", Cond.constant RL 17 (-1100000001), Cond.constant RL 20 (-1100000002), Cond.methodLink RL 29 yX0_shift, Cond.instanceMethod yX0_shift, Cond.selects RX0 yX0_shift yX0_shift]
def wsL_isCorrected_r3 : List Cond := [Cond.code yX0_shift cX0_shift 6 (some .int), Cond.fieldLink RX0 38 "AssignmentHouse" "siteOf" "[I", Cond.fieldLink RX0 41 "AssignmentHouse" "dayOf" "[I", Cond.methodLink RX0 67 yX0_needRange, Cond.static yX0_needRange, Cond.code yX0_needRange cX0_needRange 3 none, Cond.classLink RX0 154 "java/lang/IllegalArgumentException", Cond.initialized "java/lang/IllegalArgumentException", Cond.methodLink RX0 71 yX0_needState, Cond.static yX0_needState, Cond.code yX0_needState cX0_needState 1 none, Cond.classLink RX0 159 "java/lang/IllegalStateException", Cond.initialized "java/lang/IllegalStateException", Cond.methodLink RX0 75 yX0_hoursOnDay, Cond.instanceMethod yX0_hoursOnDay, Cond.selects RX0 yX0_hoursOnDay yX0_hoursOnDay, Cond.code yX0_hoursOnDay cX0_hoursOnDay 5 (some .int), Cond.methodLink RX0 59 yX0_put, Cond.static yX0_put, Cond.code yX0_put cX0_put 3 none, Cond.methodLink RL 33 yX0_correct, Cond.instanceMethod yX0_correct, Cond.selects RX0 yX0_correct yX0_correct, Cond.code yX0_correct cX0_correct 6 (some .int)]
def wsL_isCorrected_r4 : List Cond := [Cond.methodLink RL 37 yX0_run, Cond.instanceMethod yX0_run, Cond.selects RX0 yX0_run yX0_run, Cond.code yX0_run cX0_run 6 (some .int), Cond.fieldLink RX0 50 "AssignmentHouse" "billedFor" "[I", Cond.methodLink RX0 109 yX0_weekPay, Cond.instanceMethod yX0_weekPay, Cond.selects RX0 yX0_weekPay yX0_weekPay, Cond.code yX0_weekPay cX0_weekPay 5 (some .int), Cond.methodLink RX0 87 yX0_isOfWorker, Cond.instanceMethod yX0_isOfWorker, Cond.selects RX0 yX0_isOfWorker yX0_isOfWorker, Cond.code yX0_isOfWorker cX0_isOfWorker 4 (some .boolean), Cond.methodLink RX0 100 yX0_weekOf, Cond.static yX0_weekOf, Cond.code yX0_weekOf cX0_weekOf 1 (some .int), Cond.methodLink RX0 97 yX0_shiftPay, Cond.instanceMethod yX0_shiftPay, Cond.selects RX0 yX0_shiftPay yX0_shiftPay, Cond.code yX0_shiftPay cX0_shiftPay 5 (some .int), Cond.methodLink RX0 91 yX0_overtimeHours, Cond.instanceMethod yX0_overtimeHours, Cond.selects RX0 yX0_overtimeHours yX0_overtimeHours, Cond.code yX0_overtimeHours cX0_overtimeHours 6 (some .int)]
def wsL_isCorrected_r5 : List Cond := [Cond.fieldLink RX0 56 "AssignmentHouse" "aheadOnDay" "[I", Cond.methodLink RX0 133 Lib.Math.max.name, Cond.static Lib.Math.max.name, Cond.initialized "java/lang/Math", Cond.code Lib.Math.max.name Lib.Math.max.code 2 (some .int), Cond.methodLink RX0 138 Lib.Math.min.name, Cond.static Lib.Math.min.name, Cond.code Lib.Math.min.name Lib.Math.min.code 2 (some .int), Cond.methodLink RX0 122 yX0_fillAheadOnDay, Cond.instanceMethod yX0_fillAheadOnDay, Cond.selects RX0 yX0_fillAheadOnDay yX0_fillAheadOnDay, Cond.code yX0_fillAheadOnDay cX0_fillAheadOnDay 9 none, Cond.methodLink RX0 126 yX0_plainOfDay, Cond.static yX0_plainOfDay, Cond.code yX0_plainOfDay cX0_plainOfDay 1 (some .int), Cond.methodLink RX0 129 yX0_plainByDayAhead, Cond.instanceMethod yX0_plainByDayAhead, Cond.selects RX0 yX0_plainByDayAhead yX0_plainByDayAhead, Cond.code yX0_plainByDayAhead cX0_plainByDayAhead 3 (some .int), Cond.methodLink RX0 112 yX0_rateThere, Cond.instanceMethod yX0_rateThere, Cond.selects RX0 yX0_rateThere yX0_rateThere, Cond.code yX0_rateThere cX0_rateThere 4 (some .int), Cond.fieldLink RX0 13 "AssignmentHouse" "equalRate" "[I"]
def wsL_isCorrected_r6 : List Cond := [Cond.fieldLink RX0 9 "AssignmentHouse" "plainRate" "[I", Cond.methodLink RX0 94 yX0_isEqual, Cond.instanceMethod yX0_isEqual, Cond.selects RX0 yX0_isEqual yX0_isEqual, Cond.code yX0_isEqual cX0_isEqual 8 (some .boolean), Cond.fieldLink RX0 29 "AssignmentHouse" "equalGap" "I", Cond.fieldLink RX0 25 "AssignmentHouse" "equalSpan" "I", Cond.methodLink RX0 141 yX0_weeksWorked, Cond.instanceMethod yX0_weeksWorked, Cond.selects RX0 yX0_weeksWorked yX0_weeksWorked, Cond.code yX0_weeksWorked cX0_weeksWorked 5 (some .int), Cond.methodLink RX0 116 yX0_weekCharge, Cond.instanceMethod yX0_weekCharge, Cond.selects RX0 yX0_weekCharge yX0_weekCharge, Cond.code yX0_weekCharge cX0_weekCharge 6 (some .int), Cond.methodLink RX0 103 yX0_marginAt, Cond.instanceMethod yX0_marginAt, Cond.selects RX0 yX0_marginAt yX0_marginAt, Cond.code yX0_marginAt cX0_marginAt 4 (some .int), Cond.fieldLink RX0 22 "AssignmentHouse" "lowVolume" "[I", Cond.fieldLink RX0 19 "AssignmentHouse" "lowMargin" "[I", Cond.fieldLink RX0 16 "AssignmentHouse" "highMargin" "[I", Cond.methodLink RX0 144 yX0_hoursAtSite, Cond.instanceMethod yX0_hoursAtSite]
def wsL_isCorrected_r7 : List Cond := [Cond.selects RX0 yX0_hoursAtSite yX0_hoursAtSite, Cond.code yX0_hoursAtSite cX0_hoursAtSite 5 (some .int), Cond.methodLink RX0 119 yX0_isAtSite, Cond.instanceMethod yX0_isAtSite, Cond.selects RX0 yX0_isAtSite yX0_isAtSite, Cond.code yX0_isAtSite cX0_isAtSite 4 (some .boolean), Cond.methodLink RX0 106 yX0_chargeFor, Cond.static yX0_chargeFor, Cond.code yX0_chargeFor cX0_chargeFor 2 (some .int), Cond.methodLink RL 41 yX0_takeHoliday, Cond.instanceMethod yX0_takeHoliday, Cond.selects RX0 yX0_takeHoliday yX0_takeHoliday, Cond.code yX0_takeHoliday cX0_takeHoliday 4 (some .int)]
def wsL_isCorrected : List Cond := .code yL_isCorrected cL_isCorrected 10 (some .boolean) :: ((wsL_isCorrected_r1 ++ (wsL_isCorrected_r2 ++ (wsL_isCorrected_r3 ++ (wsL_isCorrected_r4 ++ (wsL_isCorrected_r5 ++ (wsL_isCorrected_r6 ++ wsL_isCorrected_r7)))))) ++ wsX00 ++ (vx_atS RX0 151 "java/lang/IndexOutOfBoundsException" ["java/lang/RuntimeException", "java/lang/Exception"]).filter goodWord ++ (vx_atS RX0 158 "java/lang/IllegalArgumentException" ["java/lang/RuntimeException", "java/lang/Exception"]).filter goodWord ++ (vx_atS RX0 163 "java/lang/IllegalStateException" ["java/lang/RuntimeException", "java/lang/Exception"]).filter goodWord)
def wsL_isRun_r1 : List Cond := [Cond.methodLink RL 75 yX0_owing, Cond.instanceMethod yX0_owing, Cond.selects RX0 yX0_owing yX0_owing, Cond.initialized RX0, Cond.code yX0_owing cX0_owing 3 (some .int), Cond.fieldLink RX0 47 "AssignmentHouse" "paidFor" "[I", Cond.methodLink RX0 63 yX0_needOneOf, Cond.static yX0_needOneOf, Cond.code yX0_needOneOf cX0_needOneOf 2 none, Cond.classLink RX0 147 "java/lang/IndexOutOfBoundsException", Cond.initialized "java/lang/IndexOutOfBoundsException", Cond.methodLink RX0 109 yX0_weekPay, Cond.instanceMethod yX0_weekPay, Cond.selects RX0 yX0_weekPay yX0_weekPay, Cond.code yX0_weekPay cX0_weekPay 5 (some .int), Cond.fieldLink RX0 32 "AssignmentHouse" "shiftCount" "I", Cond.methodLink RX0 87 yX0_isOfWorker, Cond.instanceMethod yX0_isOfWorker, Cond.selects RX0 yX0_isOfWorker yX0_isOfWorker, Cond.code yX0_isOfWorker cX0_isOfWorker 4 (some .boolean), Cond.fieldLink RX0 35 "AssignmentHouse" "workerOf" "[I", Cond.fieldLink RX0 41 "AssignmentHouse" "dayOf" "[I", Cond.methodLink RX0 79 yX0_at, Cond.static yX0_at]
def wsL_isRun_r2 : List Cond := [Cond.code yX0_at cX0_at 2 (some .int), Cond.methodLink RX0 100 yX0_weekOf, Cond.static yX0_weekOf, Cond.code yX0_weekOf cX0_weekOf 1 (some .int), Cond.methodLink RX0 97 yX0_shiftPay, Cond.instanceMethod yX0_shiftPay, Cond.selects RX0 yX0_shiftPay yX0_shiftPay, Cond.code yX0_shiftPay cX0_shiftPay 5 (some .int), Cond.fieldLink RX0 44 "AssignmentHouse" "hoursOf" "[I", Cond.fieldLink RX0 38 "AssignmentHouse" "siteOf" "[I", Cond.methodLink RX0 91 yX0_overtimeHours, Cond.instanceMethod yX0_overtimeHours, Cond.selects RX0 yX0_overtimeHours yX0_overtimeHours, Cond.code yX0_overtimeHours cX0_overtimeHours 6 (some .int), Cond.fieldLink RX0 56 "AssignmentHouse" "aheadOnDay" "[I", Cond.methodLink RX0 133 Lib.Math.max.name, Cond.static Lib.Math.max.name, Cond.initialized "java/lang/Math", Cond.code Lib.Math.max.name Lib.Math.max.code 2 (some .int), Cond.methodLink RX0 138 Lib.Math.min.name, Cond.static Lib.Math.min.name, Cond.code Lib.Math.min.name Lib.Math.min.code 2 (some .int), Cond.methodLink RX0 122 yX0_fillAheadOnDay, Cond.instanceMethod yX0_fillAheadOnDay]
def wsL_isRun_r3 : List Cond := [Cond.selects RX0 yX0_fillAheadOnDay yX0_fillAheadOnDay, Cond.code yX0_fillAheadOnDay cX0_fillAheadOnDay 9 none, Cond.methodLink RX0 59 yX0_put, Cond.static yX0_put, Cond.code yX0_put cX0_put 3 none, Cond.methodLink RX0 126 yX0_plainOfDay, Cond.static yX0_plainOfDay, Cond.code yX0_plainOfDay cX0_plainOfDay 1 (some .int), Cond.methodLink RX0 129 yX0_plainByDayAhead, Cond.instanceMethod yX0_plainByDayAhead, Cond.selects RX0 yX0_plainByDayAhead yX0_plainByDayAhead, Cond.code yX0_plainByDayAhead cX0_plainByDayAhead 3 (some .int), Cond.methodLink RX0 112 yX0_rateThere, Cond.instanceMethod yX0_rateThere, Cond.selects RX0 yX0_rateThere yX0_rateThere, Cond.code yX0_rateThere cX0_rateThere 4 (some .int), Cond.fieldLink RX0 13 "AssignmentHouse" "equalRate" "[I", Cond.fieldLink RX0 9 "AssignmentHouse" "plainRate" "[I", Cond.methodLink RX0 94 yX0_isEqual, Cond.instanceMethod yX0_isEqual, Cond.selects RX0 yX0_isEqual yX0_isEqual, Cond.code yX0_isEqual cX0_isEqual 8 (some .boolean), Cond.fieldLink RX0 29 "AssignmentHouse" "equalGap" "I", Cond.fieldLink RX0 25 "AssignmentHouse" "equalSpan" "I"]
def wsL_isRun_r4 : List Cond := [Cond.methodLink RX0 141 yX0_weeksWorked, Cond.instanceMethod yX0_weeksWorked, Cond.selects RX0 yX0_weeksWorked yX0_weeksWorked, Cond.code yX0_weeksWorked cX0_weeksWorked 5 (some .int), Cond.methodLink RL 117 yL_act, Cond.static yL_act, Cond.initialized RL, Cond.codeWith yL_act cL_act 7 (some .int) [(0, 50, 51, 15), (0, 50, 56, 18), (0, 50, 61, 44)], Cond.classLink RL 15 "java/lang/IndexOutOfBoundsException", Cond.classLink RL 18 "java/lang/IllegalArgumentException", Cond.classLink RL 44 "java/lang/IllegalStateException", Cond.constant RL 17 (-1100000001), Cond.constant RL 20 (-1100000002), Cond.constant RL 46 (-1100000003), Cond.methodLink RL 29 yX0_shift, Cond.instanceMethod yX0_shift, Cond.selects RX0 yX0_shift yX0_shift, Cond.code yX0_shift cX0_shift 6 (some .int), Cond.methodLink RX0 67 yX0_needRange, Cond.static yX0_needRange, Cond.code yX0_needRange cX0_needRange 3 none, Cond.classLink RX0 154 "java/lang/IllegalArgumentException", Cond.initialized "java/lang/IllegalArgumentException", Cond.methodLink RX0 71 yX0_needState]
def wsL_isRun_r5 : List Cond := [Cond.static yX0_needState, Cond.code yX0_needState cX0_needState 1 none, Cond.classLink RX0 159 "java/lang/IllegalStateException", Cond.initialized "java/lang/IllegalStateException", Cond.methodLink RX0 75 yX0_hoursOnDay, Cond.instanceMethod yX0_hoursOnDay, Cond.selects RX0 yX0_hoursOnDay yX0_hoursOnDay, Cond.code yX0_hoursOnDay cX0_hoursOnDay 5 (some .int), Cond.methodLink RL 33 yX0_correct, Cond.instanceMethod yX0_correct, Cond.selects RX0 yX0_correct yX0_correct, Cond.code yX0_correct cX0_correct 6 (some .int), Cond.methodLink RX0 83 yX0_minutesLeft, Cond.instanceMethod yX0_minutesLeft, Cond.selects RX0 yX0_minutesLeft yX0_minutesLeft, Cond.code yX0_minutesLeft cX0_minutesLeft 4 (some .int), Cond.fieldLink RX0 53 "AssignmentHouse" "minutesTaken" "[I", Cond.methodLink RL 37 yX0_run, Cond.instanceMethod yX0_run, Cond.selects RX0 yX0_run yX0_run, Cond.code yX0_run cX0_run 6 (some .int), Cond.fieldLink RX0 50 "AssignmentHouse" "billedFor" "[I", Cond.methodLink RX0 116 yX0_weekCharge, Cond.instanceMethod yX0_weekCharge]
def wsL_isRun_r6 : List Cond := [Cond.selects RX0 yX0_weekCharge yX0_weekCharge, Cond.code yX0_weekCharge cX0_weekCharge 6 (some .int), Cond.methodLink RX0 103 yX0_marginAt, Cond.instanceMethod yX0_marginAt, Cond.selects RX0 yX0_marginAt yX0_marginAt, Cond.code yX0_marginAt cX0_marginAt 4 (some .int), Cond.fieldLink RX0 22 "AssignmentHouse" "lowVolume" "[I", Cond.fieldLink RX0 19 "AssignmentHouse" "lowMargin" "[I", Cond.fieldLink RX0 16 "AssignmentHouse" "highMargin" "[I", Cond.methodLink RX0 144 yX0_hoursAtSite, Cond.instanceMethod yX0_hoursAtSite, Cond.selects RX0 yX0_hoursAtSite yX0_hoursAtSite, Cond.code yX0_hoursAtSite cX0_hoursAtSite 5 (some .int), Cond.methodLink RX0 119 yX0_isAtSite, Cond.instanceMethod yX0_isAtSite, Cond.selects RX0 yX0_isAtSite yX0_isAtSite, Cond.code yX0_isAtSite cX0_isAtSite 4 (some .boolean), Cond.methodLink RX0 106 yX0_chargeFor, Cond.static yX0_chargeFor, Cond.code yX0_chargeFor cX0_chargeFor 2 (some .int), Cond.methodLink RL 41 yX0_takeHoliday, Cond.instanceMethod yX0_takeHoliday, Cond.selects RX0 yX0_takeHoliday yX0_takeHoliday, Cond.code yX0_takeHoliday cX0_takeHoliday 4 (some .int)]
def wsL_isRun_r7 : List Cond := [Cond.methodLink RL 69 yX0_paid, Cond.instanceMethod yX0_paid, Cond.selects RX0 yX0_paid yX0_paid, Cond.code yX0_paid cX0_paid 3 (some .int), Cond.methodLink RL 63 yX0_pay, Cond.instanceMethod yX0_pay, Cond.selects RX0 yX0_pay yX0_pay, Cond.code yX0_pay cX0_pay 3 (some .int), Cond.methodLink RL 78 yX0_toBill, Cond.instanceMethod yX0_toBill, Cond.selects RX0 yX0_toBill yX0_toBill, Cond.code yX0_toBill cX0_toBill 3 (some .int)]
def wsL_isRun : List Cond := .code yL_isRun cL_isRun 5 (some .boolean) :: ((wsL_isRun_r1 ++ (wsL_isRun_r2 ++ (wsL_isRun_r3 ++ (wsL_isRun_r4 ++ (wsL_isRun_r5 ++ (wsL_isRun_r6 ++ wsL_isRun_r7)))))) ++ wsX00 ++ (vx_atS RX0 151 "java/lang/IndexOutOfBoundsException" ["java/lang/RuntimeException", "java/lang/Exception"]).filter goodWord ++ (vx_atS RX0 158 "java/lang/IllegalArgumentException" ["java/lang/RuntimeException", "java/lang/Exception"]).filter goodWord ++ (vx_atS RX0 163 "java/lang/IllegalStateException" ["java/lang/RuntimeException", "java/lang/Exception"]).filter goodWord)
def wsL_law0_r1 : List Cond := [Cond.classLink RL 10 RX0, Cond.instantiable RX0 16, Cond.initialized RX0, Cond.arrayClass .int, Cond.constant RL 46 (-1100000003), Cond.methodLink RL 128 yX0_init, Cond.instanceMethod yX0_init, Cond.code yX0_init cX0_init 2 none, Cond.methodLink RX0 3 objectInit, Cond.instanceMethod objectInit, Cond.code objectInit ⟨#[0xb1]⟩ 1 none, Cond.fieldLink RX0 9 "AssignmentHouse" "plainRate" "[I", Cond.fieldLink RX0 13 "AssignmentHouse" "equalRate" "[I", Cond.fieldLink RX0 16 "AssignmentHouse" "highMargin" "[I", Cond.fieldLink RX0 19 "AssignmentHouse" "lowMargin" "[I", Cond.fieldLink RX0 22 "AssignmentHouse" "lowVolume" "[I", Cond.fieldLink RX0 25 "AssignmentHouse" "equalSpan" "I", Cond.fieldLink RX0 29 "AssignmentHouse" "equalGap" "I", Cond.fieldLink RX0 32 "AssignmentHouse" "shiftCount" "I", Cond.fieldLink RX0 35 "AssignmentHouse" "workerOf" "[I", Cond.fieldLink RX0 38 "AssignmentHouse" "siteOf" "[I", Cond.fieldLink RX0 41 "AssignmentHouse" "dayOf" "[I", Cond.fieldLink RX0 44 "AssignmentHouse" "hoursOf" "[I", Cond.fieldLink RX0 47 "AssignmentHouse" "paidFor" "[I"]
def wsL_law0_r2 : List Cond := [Cond.fieldLink RX0 50 "AssignmentHouse" "billedFor" "[I", Cond.fieldLink RX0 53 "AssignmentHouse" "minutesTaken" "[I", Cond.fieldLink RX0 56 "AssignmentHouse" "aheadOnDay" "[I", Cond.methodLink RX0 59 yX0_put, Cond.static yX0_put, Cond.code yX0_put cX0_put 3 none, Cond.methodLink RL 129 yL_isRefused, Cond.static yL_isRefused, Cond.initialized RL, Cond.code yL_isRefused cL_isRefused 15 (some .boolean), Cond.constant RL 17 (-1100000001), Cond.constant RL 20 (-1100000002), Cond.methodLink RL 104 yL_all, Cond.static yL_all, Cond.code yL_all cL_all 5 (some .long), Cond.constantLong RL 88 (1000003), Cond.constantLong RL 90 (31), Cond.constantLong RL 92 (257), Cond.constantLong RL 94 (65537), Cond.methodLink RL 84 yX0_shifts, Cond.instanceMethod yX0_shifts, Cond.selects RX0 yX0_shifts yX0_shifts, Cond.code yX0_shifts cX0_shifts 1 (some .int), Cond.methodLink RL 57 yX0_payOf]
def wsL_law0_r3 : List Cond := [Cond.instanceMethod yX0_payOf, Cond.selects RX0 yX0_payOf yX0_payOf, Cond.code yX0_payOf cX0_payOf 2 (some .int), Cond.methodLink RX0 63 yX0_needOneOf, Cond.static yX0_needOneOf, Cond.code yX0_needOneOf cX0_needOneOf 2 none, Cond.classLink RX0 147 "java/lang/IndexOutOfBoundsException", Cond.initialized "java/lang/IndexOutOfBoundsException", Cond.methodLink RX0 97 yX0_shiftPay, Cond.instanceMethod yX0_shiftPay, Cond.selects RX0 yX0_shiftPay yX0_shiftPay, Cond.code yX0_shiftPay cX0_shiftPay 5 (some .int), Cond.methodLink RX0 91 yX0_overtimeHours, Cond.instanceMethod yX0_overtimeHours, Cond.selects RX0 yX0_overtimeHours yX0_overtimeHours, Cond.code yX0_overtimeHours cX0_overtimeHours 6 (some .int), Cond.methodLink RX0 133 Lib.Math.max.name, Cond.static Lib.Math.max.name, Cond.initialized "java/lang/Math", Cond.code Lib.Math.max.name Lib.Math.max.code 2 (some .int), Cond.methodLink RX0 138 Lib.Math.min.name, Cond.static Lib.Math.min.name, Cond.code Lib.Math.min.name Lib.Math.min.code 2 (some .int), Cond.methodLink RX0 122 yX0_fillAheadOnDay]
def wsL_law0_r4 : List Cond := [Cond.instanceMethod yX0_fillAheadOnDay, Cond.selects RX0 yX0_fillAheadOnDay yX0_fillAheadOnDay, Cond.code yX0_fillAheadOnDay cX0_fillAheadOnDay 9 none, Cond.methodLink RX0 79 yX0_at, Cond.static yX0_at, Cond.code yX0_at cX0_at 2 (some .int), Cond.methodLink RX0 100 yX0_weekOf, Cond.static yX0_weekOf, Cond.code yX0_weekOf cX0_weekOf 1 (some .int), Cond.methodLink RX0 87 yX0_isOfWorker, Cond.instanceMethod yX0_isOfWorker, Cond.selects RX0 yX0_isOfWorker yX0_isOfWorker, Cond.code yX0_isOfWorker cX0_isOfWorker 4 (some .boolean), Cond.methodLink RX0 126 yX0_plainOfDay, Cond.static yX0_plainOfDay, Cond.code yX0_plainOfDay cX0_plainOfDay 1 (some .int), Cond.methodLink RX0 129 yX0_plainByDayAhead, Cond.instanceMethod yX0_plainByDayAhead, Cond.selects RX0 yX0_plainByDayAhead yX0_plainByDayAhead, Cond.code yX0_plainByDayAhead cX0_plainByDayAhead 3 (some .int), Cond.methodLink RX0 112 yX0_rateThere, Cond.instanceMethod yX0_rateThere, Cond.selects RX0 yX0_rateThere yX0_rateThere, Cond.code yX0_rateThere cX0_rateThere 4 (some .int)]
def wsL_law0_r5 : List Cond := [Cond.methodLink RX0 94 yX0_isEqual, Cond.instanceMethod yX0_isEqual, Cond.selects RX0 yX0_isEqual yX0_isEqual, Cond.code yX0_isEqual cX0_isEqual 8 (some .boolean), Cond.methodLink RX0 141 yX0_weeksWorked, Cond.instanceMethod yX0_weeksWorked, Cond.selects RX0 yX0_weeksWorked yX0_weeksWorked, Cond.code yX0_weeksWorked cX0_weeksWorked 5 (some .int), Cond.methodLink RL 60 yX0_chargeOf, Cond.instanceMethod yX0_chargeOf, Cond.selects RX0 yX0_chargeOf yX0_chargeOf, Cond.code yX0_chargeOf cX0_chargeOf 3 (some .int), Cond.methodLink RX0 103 yX0_marginAt, Cond.instanceMethod yX0_marginAt, Cond.selects RX0 yX0_marginAt yX0_marginAt, Cond.code yX0_marginAt cX0_marginAt 4 (some .int), Cond.methodLink RX0 144 yX0_hoursAtSite, Cond.instanceMethod yX0_hoursAtSite, Cond.selects RX0 yX0_hoursAtSite yX0_hoursAtSite, Cond.code yX0_hoursAtSite cX0_hoursAtSite 5 (some .int), Cond.methodLink RX0 119 yX0_isAtSite, Cond.instanceMethod yX0_isAtSite, Cond.selects RX0 yX0_isAtSite yX0_isAtSite, Cond.code yX0_isAtSite cX0_isAtSite 4 (some .boolean)]
def wsL_law0_r6 : List Cond := [Cond.methodLink RX0 106 yX0_chargeFor, Cond.static yX0_chargeFor, Cond.code yX0_chargeFor cX0_chargeFor 2 (some .int), Cond.methodLink RL 81 yX0_holiday, Cond.instanceMethod yX0_holiday, Cond.selects RX0 yX0_holiday yX0_holiday, Cond.code yX0_holiday cX0_holiday 2 (some .int), Cond.methodLink RX0 83 yX0_minutesLeft, Cond.instanceMethod yX0_minutesLeft, Cond.selects RX0 yX0_minutesLeft yX0_minutesLeft, Cond.code yX0_minutesLeft cX0_minutesLeft 4 (some .int), Cond.methodLink RL 69 yX0_paid, Cond.instanceMethod yX0_paid, Cond.selects RX0 yX0_paid yX0_paid, Cond.code yX0_paid cX0_paid 3 (some .int), Cond.methodLink RL 75 yX0_owing, Cond.instanceMethod yX0_owing, Cond.selects RX0 yX0_owing yX0_owing, Cond.code yX0_owing cX0_owing 3 (some .int), Cond.methodLink RX0 109 yX0_weekPay, Cond.instanceMethod yX0_weekPay, Cond.selects RX0 yX0_weekPay yX0_weekPay, Cond.code yX0_weekPay cX0_weekPay 5 (some .int), Cond.methodLink RL 108 yL_setRates]
def wsL_law0_r7 : List Cond := [Cond.static yL_setRates, Cond.codeWith yL_setRates cL_setRates 5 (some .int) [(0, 8, 9, 15), (0, 8, 14, 18)], Cond.classLink RL 15 "java/lang/IndexOutOfBoundsException", Cond.classLink RL 18 "java/lang/IllegalArgumentException", Cond.methodLink RL 9 yX0_setRates, Cond.instanceMethod yX0_setRates, Cond.selects RX0 yX0_setRates yX0_setRates, Cond.code yX0_setRates cX0_setRates 4 none, Cond.methodLink RX0 67 yX0_needRange, Cond.static yX0_needRange, Cond.code yX0_needRange cX0_needRange 3 none, Cond.classLink RX0 154 "java/lang/IllegalArgumentException", Cond.initialized "java/lang/IllegalArgumentException", Cond.methodLink RL 111 yL_setMargins, Cond.static yL_setMargins, Cond.codeWith yL_setMargins cL_setMargins 6 (some .int) [(0, 10, 11, 15), (0, 10, 16, 18)], Cond.methodLink RL 21 yX0_setMargins, Cond.instanceMethod yX0_setMargins, Cond.selects RX0 yX0_setMargins yX0_setMargins, Cond.code yX0_setMargins cX0_setMargins 5 none, Cond.methodLink RL 114 yL_setEqual, Cond.static yL_setEqual, Cond.codeWith yL_setEqual cL_setEqual 4 (some .int) [(0, 7, 8, 18)], Cond.methodLink RL 25 yX0_setEqual]
def wsL_law0_r8 : List Cond := [Cond.instanceMethod yX0_setEqual, Cond.selects RX0 yX0_setEqual yX0_setEqual, Cond.code yX0_setEqual cX0_setEqual 3 none, Cond.methodLink RL 117 yL_act, Cond.static yL_act, Cond.codeWith yL_act cL_act 7 (some .int) [(0, 50, 51, 15), (0, 50, 56, 18), (0, 50, 61, 44)], Cond.classLink RL 44 "java/lang/IllegalStateException", Cond.methodLink RL 29 yX0_shift, Cond.instanceMethod yX0_shift, Cond.selects RX0 yX0_shift yX0_shift, Cond.code yX0_shift cX0_shift 6 (some .int), Cond.methodLink RX0 71 yX0_needState, Cond.static yX0_needState, Cond.code yX0_needState cX0_needState 1 none, Cond.classLink RX0 159 "java/lang/IllegalStateException", Cond.initialized "java/lang/IllegalStateException", Cond.methodLink RX0 75 yX0_hoursOnDay, Cond.instanceMethod yX0_hoursOnDay, Cond.selects RX0 yX0_hoursOnDay yX0_hoursOnDay, Cond.code yX0_hoursOnDay cX0_hoursOnDay 5 (some .int), Cond.methodLink RL 33 yX0_correct, Cond.instanceMethod yX0_correct, Cond.selects RX0 yX0_correct yX0_correct, Cond.code yX0_correct cX0_correct 6 (some .int)]
def wsL_law0_r9 : List Cond := [Cond.methodLink RL 37 yX0_run, Cond.instanceMethod yX0_run, Cond.selects RX0 yX0_run yX0_run, Cond.code yX0_run cX0_run 6 (some .int), Cond.methodLink RX0 116 yX0_weekCharge, Cond.instanceMethod yX0_weekCharge, Cond.selects RX0 yX0_weekCharge yX0_weekCharge, Cond.code yX0_weekCharge cX0_weekCharge 6 (some .int), Cond.methodLink RL 41 yX0_takeHoliday, Cond.instanceMethod yX0_takeHoliday, Cond.selects RX0 yX0_takeHoliday yX0_takeHoliday, Cond.code yX0_takeHoliday cX0_takeHoliday 4 (some .int), Cond.methodLink RL 121 yL_of, Cond.static yL_of, Cond.codeWith yL_of cL_of 6 (some .int) [(0, 170, 171, 15)], Cond.methodLink RL 47 yX0_hours, Cond.instanceMethod yX0_hours, Cond.selects RX0 yX0_hours yX0_hours, Cond.code yX0_hours cX0_hours 5 (some .int), Cond.methodLink RL 50 yX0_overtime, Cond.instanceMethod yX0_overtime, Cond.selects RX0 yX0_overtime yX0_overtime, Cond.code yX0_overtime cX0_overtime 2 (some .int), Cond.methodLink RL 53 yX0_hasEqual]
def wsL_law0_r10 : List Cond := [Cond.instanceMethod yX0_hasEqual, Cond.selects RX0 yX0_hasEqual yX0_hasEqual, Cond.code yX0_hasEqual cX0_hasEqual 4 (some .boolean), Cond.methodLink RL 63 yX0_pay, Cond.instanceMethod yX0_pay, Cond.selects RX0 yX0_pay yX0_pay, Cond.code yX0_pay cX0_pay 3 (some .int), Cond.methodLink RL 66 yX0_payByHours, Cond.instanceMethod yX0_payByHours, Cond.selects RX0 yX0_payByHours yX0_payByHours, Cond.code yX0_payByHours cX0_payByHours 13 (some .int), Cond.methodLink RL 72 yX0_billed, Cond.instanceMethod yX0_billed, Cond.selects RX0 yX0_billed yX0_billed, Cond.code yX0_billed cX0_billed 3 (some .int), Cond.methodLink RL 78 yX0_toBill, Cond.instanceMethod yX0_toBill, Cond.selects RX0 yX0_toBill yX0_toBill, Cond.code yX0_toBill cX0_toBill 3 (some .int), Cond.methodLink RL 133 yL_dice, Cond.static yL_dice, Cond.code yL_dice cL_dice 2 (some .int), Cond.constant RL 7 (2024104815), Cond.constant RL 8 (2147483647)]
def wsL_law0_r11 : List Cond := [Cond.methodLink RL 136 yL_isTold, Cond.static yL_isTold, Cond.code yL_isTold cL_isTold 9 (some .boolean), Cond.methodLink RL 124 yL_onDay, Cond.static yL_onDay, Cond.code yL_onDay cL_onDay 6 (some .int), Cond.methodLink RL 96 yL_day, Cond.static yL_day, Cond.code yL_day cL_day 2 (some .int), Cond.methodLink RL 102 yL_hours, Cond.static yL_hours, Cond.code yL_hours cL_hours 2 (some .int), Cond.methodLink RL 140 yL_isCorrected, Cond.static yL_isCorrected, Cond.code yL_isCorrected cL_isCorrected 10 (some .boolean), Cond.methodLink RL 144 yL_isRun, Cond.static yL_isRun, Cond.code yL_isRun cL_isRun 5 (some .boolean), Cond.methodLink RL 148 yL_areSums, Cond.static yL_areSums, Cond.code yL_areSums cL_areSums 11 (some .boolean), Cond.methodLink RL 151 yL_isOvertime, Cond.static yL_isOvertime, Cond.code yL_isOvertime cL_isOvertime 14 (some .boolean)]
def wsL_law0_r12 : List Cond := [Cond.methodLink RL 154 yL_isEqual, Cond.static yL_isEqual, Cond.code yL_isEqual cL_isEqual 12 (some .boolean), Cond.methodLink RL 158 yL_areShifts, Cond.static yL_areShifts, Cond.code yL_areShifts cL_areShifts 12 (some .boolean)]
def wsL_law0 : List Cond := (wsL_law0_r1 ++ (wsL_law0_r2 ++ (wsL_law0_r3 ++ (wsL_law0_r4 ++ (wsL_law0_r5 ++ (wsL_law0_r6 ++ (wsL_law0_r7 ++ (wsL_law0_r8 ++ (wsL_law0_r9 ++ (wsL_law0_r10 ++ (wsL_law0_r11 ++ wsL_law0_r12))))))))))) ++ wsX00 ++ ([] : List Cond)
def wsL_law : List Cond := wsL_law0 ++ (vx_atS RX0 151 "java/lang/IndexOutOfBoundsException" ["java/lang/RuntimeException", "java/lang/Exception"]).filter goodWord ++ (vx_atS RX0 158 "java/lang/IllegalArgumentException" ["java/lang/RuntimeException", "java/lang/Exception"]).filter goodWord ++ (vx_atS RX0 163 "java/lang/IllegalStateException" ["java/lang/RuntimeException", "java/lang/Exception"]).filter goodWord
theorem dJ9_max_7cf53_0 : decode cJ9_max_7cf53 0 = .ok (.iload_n 0, 1) := by decide +kernel
theorem dJ9_max_7cf53_1 : decode cJ9_max_7cf53 1 = .ok (.iload_n 1, 1) := by decide +kernel
theorem dJ9_max_7cf53_2 : decode cJ9_max_7cf53 2 = .ok (.if_icmp .lt 7, 3) := by decide +kernel
theorem dJ9_max_7cf53_5 : decode cJ9_max_7cf53 5 = .ok (.iload_n 0, 1) := by decide +kernel
theorem dJ9_max_7cf53_6 : decode cJ9_max_7cf53 6 = .ok (.goto 4, 3) := by decide +kernel
theorem dJ9_max_7cf53_9 : decode cJ9_max_7cf53 9 = .ok (.iload_n 1, 1) := by decide +kernel
theorem dJ9_max_7cf53_10 : decode cJ9_max_7cf53 10 = .ok (.ireturn, 1) := by decide +kernel
theorem dJ9_min_7cf53_0 : decode cJ9_min_7cf53 0 = .ok (.iload_n 0, 1) := by decide +kernel
theorem dJ9_min_7cf53_1 : decode cJ9_min_7cf53 1 = .ok (.iload_n 1, 1) := by decide +kernel
theorem dJ9_min_7cf53_2 : decode cJ9_min_7cf53 2 = .ok (.if_icmp .gt 7, 3) := by decide +kernel
theorem dJ9_min_7cf53_5 : decode cJ9_min_7cf53 5 = .ok (.iload_n 0, 1) := by decide +kernel
theorem dJ9_min_7cf53_6 : decode cJ9_min_7cf53 6 = .ok (.goto 4, 3) := by decide +kernel
theorem dJ9_min_7cf53_9 : decode cJ9_min_7cf53 9 = .ok (.iload_n 1, 1) := by decide +kernel
theorem dJ9_min_7cf53_10 : decode cJ9_min_7cf53 10 = .ok (.ireturn, 1) := by decide +kernel
abbrev vwCl : List vw_C := [(RX0, TX0, 16)]

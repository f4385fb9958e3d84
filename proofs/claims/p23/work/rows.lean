section
-- ===== PART A: goes FIRST, ahead of the names: the tables' words, and 'selects' of the private methods out of them =====
/-- a private method of a class that the tables say can be made, by its rows of tables_1 -/
def lw_okq (q : MethodName × Nat) : Prop := (q.1.cls ≠ "java/lang/invoke/MethodHandle" ∧ q.1.cls ≠ "java/lang/invoke/VarHandle") ∧ Cond.instantiable q.1.cls q.2 ∈ tables_1 ∧ Cond.privateMethod q.1 ∈ tables_1 ∧ Cond.instanceMethod q.1 ∈ tables_1
theorem lw_p0 : lw_okq (⟨"java/lang/Throwable", "fillInStackTrace", "(I)Ljava/lang/Throwable;"⟩, 6) := ⟨⟨by decide +kernel, by decide +kernel⟩, List.mem_of_getElem? (i := 116) (by decide +kernel), List.mem_of_getElem? (i := 114) (by decide +kernel), List.mem_of_getElem? (i := 115) (by decide +kernel)⟩
theorem lw_p1 : lw_okq (⟨"AssignmentHouse", "minutesLeft", "(I)I"⟩, 16) := ⟨⟨by decide +kernel, by decide +kernel⟩, List.mem_of_getElem? (i := 10) (by decide +kernel), List.mem_of_getElem? (i := 146) (by decide +kernel), List.mem_of_getElem? (i := 147) (by decide +kernel)⟩
theorem lw_p2 : lw_okq (⟨"AssignmentHouse", "hoursOnDay", "(II)I"⟩, 16) := ⟨⟨by decide +kernel, by decide +kernel⟩, List.mem_of_getElem? (i := 10) (by decide +kernel), List.mem_of_getElem? (i := 229) (by decide +kernel), List.mem_of_getElem? (i := 230) (by decide +kernel)⟩
theorem lw_p3 : lw_okq (⟨"AssignmentHouse", "weekPay", "(II)I"⟩, 16) := ⟨⟨by decide +kernel, by decide +kernel⟩, List.mem_of_getElem? (i := 10) (by decide +kernel), List.mem_of_getElem? (i := 241) (by decide +kernel), List.mem_of_getElem? (i := 242) (by decide +kernel)⟩
theorem lw_p4 : lw_okq (⟨"AssignmentHouse", "isOfWorker", "(III)Z"⟩, 16) := ⟨⟨by decide +kernel, by decide +kernel⟩, List.mem_of_getElem? (i := 10) (by decide +kernel), List.mem_of_getElem? (i := 245) (by decide +kernel), List.mem_of_getElem? (i := 246) (by decide +kernel)⟩
theorem lw_p5 : lw_okq (⟨"AssignmentHouse", "shiftPay", "(I)I"⟩, 16) := ⟨⟨by decide +kernel, by decide +kernel⟩, List.mem_of_getElem? (i := 10) (by decide +kernel), List.mem_of_getElem? (i := 252) (by decide +kernel), List.mem_of_getElem? (i := 253) (by decide +kernel)⟩
theorem lw_p6 : lw_okq (⟨"AssignmentHouse", "overtimeHours", "(I)I"⟩, 16) := ⟨⟨by decide +kernel, by decide +kernel⟩, List.mem_of_getElem? (i := 10) (by decide +kernel), List.mem_of_getElem? (i := 256) (by decide +kernel), List.mem_of_getElem? (i := 257) (by decide +kernel)⟩
theorem lw_p7 : lw_okq (⟨"AssignmentHouse", "fillAheadOnDay", "(I)V"⟩, 16) := ⟨⟨by decide +kernel, by decide +kernel⟩, List.mem_of_getElem? (i := 10) (by decide +kernel), List.mem_of_getElem? (i := 260) (by decide +kernel), List.mem_of_getElem? (i := 261) (by decide +kernel)⟩
theorem lw_p8 : lw_okq (⟨"AssignmentHouse", "plainByDayAhead", "()I"⟩, 16) := ⟨⟨by decide +kernel, by decide +kernel⟩, List.mem_of_getElem? (i := 10) (by decide +kernel), List.mem_of_getElem? (i := 270) (by decide +kernel), List.mem_of_getElem? (i := 271) (by decide +kernel)⟩
theorem lw_p9 : lw_okq (⟨"AssignmentHouse", "rateThere", "(III)I"⟩, 16) := ⟨⟨by decide +kernel, by decide +kernel⟩, List.mem_of_getElem? (i := 10) (by decide +kernel), List.mem_of_getElem? (i := 277) (by decide +kernel), List.mem_of_getElem? (i := 278) (by decide +kernel)⟩
theorem lw_p10 : lw_okq (⟨"AssignmentHouse", "isEqual", "(III)Z"⟩, 16) := ⟨⟨by decide +kernel, by decide +kernel⟩, List.mem_of_getElem? (i := 10) (by decide +kernel), List.mem_of_getElem? (i := 281) (by decide +kernel), List.mem_of_getElem? (i := 282) (by decide +kernel)⟩
theorem lw_p11 : lw_okq (⟨"AssignmentHouse", "weeksWorked", "(II)I"⟩, 16) := ⟨⟨by decide +kernel, by decide +kernel⟩, List.mem_of_getElem? (i := 10) (by decide +kernel), List.mem_of_getElem? (i := 285) (by decide +kernel), List.mem_of_getElem? (i := 286) (by decide +kernel)⟩
theorem lw_p12 : lw_okq (⟨"AssignmentHouse", "weekCharge", "(II)I"⟩, 16) := ⟨⟨by decide +kernel, by decide +kernel⟩, List.mem_of_getElem? (i := 10) (by decide +kernel), List.mem_of_getElem? (i := 289) (by decide +kernel), List.mem_of_getElem? (i := 290) (by decide +kernel)⟩
theorem lw_p13 : lw_okq (⟨"AssignmentHouse", "marginAt", "(II)I"⟩, 16) := ⟨⟨by decide +kernel, by decide +kernel⟩, List.mem_of_getElem? (i := 10) (by decide +kernel), List.mem_of_getElem? (i := 293) (by decide +kernel), List.mem_of_getElem? (i := 294) (by decide +kernel)⟩
theorem lw_p14 : lw_okq (⟨"AssignmentHouse", "hoursAtSite", "(II)I"⟩, 16) := ⟨⟨by decide +kernel, by decide +kernel⟩, List.mem_of_getElem? (i := 10) (by decide +kernel), List.mem_of_getElem? (i := 297) (by decide +kernel), List.mem_of_getElem? (i := 298) (by decide +kernel)⟩
theorem lw_p15 : lw_okq (⟨"AssignmentHouse", "isAtSite", "(III)Z"⟩, 16) := ⟨⟨by decide +kernel, by decide +kernel⟩, List.mem_of_getElem? (i := 10) (by decide +kernel), List.mem_of_getElem? (i := 301) (by decide +kernel), List.mem_of_getElem? (i := 302) (by decide +kernel)⟩
def lw_privs_1 : List (MethodName × Nat) := [(⟨"java/lang/Throwable", "fillInStackTrace", "(I)Ljava/lang/Throwable;"⟩, 6), (⟨"AssignmentHouse", "minutesLeft", "(I)I"⟩, 16), (⟨"AssignmentHouse", "hoursOnDay", "(II)I"⟩, 16), (⟨"AssignmentHouse", "weekPay", "(II)I"⟩, 16), (⟨"AssignmentHouse", "isOfWorker", "(III)Z"⟩, 16), (⟨"AssignmentHouse", "shiftPay", "(I)I"⟩, 16), (⟨"AssignmentHouse", "overtimeHours", "(I)I"⟩, 16), (⟨"AssignmentHouse", "fillAheadOnDay", "(I)V"⟩, 16), (⟨"AssignmentHouse", "plainByDayAhead", "()I"⟩, 16), (⟨"AssignmentHouse", "rateThere", "(III)I"⟩, 16), (⟨"AssignmentHouse", "isEqual", "(III)Z"⟩, 16), (⟨"AssignmentHouse", "weeksWorked", "(II)I"⟩, 16), (⟨"AssignmentHouse", "weekCharge", "(II)I"⟩, 16), (⟨"AssignmentHouse", "marginAt", "(II)I"⟩, 16), (⟨"AssignmentHouse", "hoursAtSite", "(II)I"⟩, 16), (⟨"AssignmentHouse", "isAtSite", "(III)Z"⟩, 16)]
theorem lw_r1 : ∀ q ∈ lw_privs_1, lw_okq q := List.forall_mem_cons.mpr ⟨lw_p0, List.forall_mem_cons.mpr ⟨lw_p1, List.forall_mem_cons.mpr ⟨lw_p2, List.forall_mem_cons.mpr ⟨lw_p3, List.forall_mem_cons.mpr ⟨lw_p4, List.forall_mem_cons.mpr ⟨lw_p5, List.forall_mem_cons.mpr ⟨lw_p6, List.forall_mem_cons.mpr ⟨lw_p7, List.forall_mem_cons.mpr ⟨lw_p8, List.forall_mem_cons.mpr ⟨lw_p9, List.forall_mem_cons.mpr ⟨lw_p10, List.forall_mem_cons.mpr ⟨lw_p11, List.forall_mem_cons.mpr ⟨lw_p12, List.forall_mem_cons.mpr ⟨lw_p13, List.forall_mem_cons.mpr ⟨lw_p14, List.forall_mem_cons.mpr ⟨lw_p15, fun _ h => absurd h List.not_mem_nil⟩⟩⟩⟩⟩⟩⟩⟩⟩⟩⟩⟩⟩⟩⟩⟩
def lw_privs : List (MethodName × Nat) := lw_privs_1
def lw_tbl : List Cond := k2_sels lw_privs ++ tables_1
theorem lw_privs_ok : ∀ q ∈ lw_privs, lw_okq q := lw_r1
end
section
/-! ===== BEGIN words of one list among another's, by their places ===== -/
theorem goodIn_r {big : List Cond} (ws : List Cond) (ps : List Nat) (hp : ws = ps.filterMap (fun i => big[i]?)) (h : ws.all goodWord = true) : GoodIn big ws := by
  intro w hw
  have h1 := List.all_eq_true.mp h w hw
  rw [hp] at hw
  obtain ⟨i, -, hi⟩ := List.mem_filterMap.mp hw
  have hm : w ∈ big := by first | exact List.mem_of_getElem? hi | exact List.getElem?_mem hi
  exact ⟨hm, good_of_word h1⟩
theorem goodIn_app {big a b : List Cond} (ha : GoodIn big a) (hb : GoodIn big b) : GoodIn big (a ++ b) := fun w h => (List.mem_append.mp h).elim (ha w) (hb w)
theorem goodIn_ca {big a b : List Cond} {c : Cond} (ha : GoodIn big (c :: a)) (hb : GoodIn big b) : GoodIn big (c :: (a ++ b)) := fun w h => (List.mem_cons.mp h).elim (fun e => ha w (List.mem_cons.mpr (Or.inl e))) (fun h => (List.mem_append.mp h).elim (fun h => ha w (List.mem_cons.mpr (Or.inr h))) (hb w))
theorem goodIn_sub {big ws : List Cond} (hm : ∀ w ∈ ws, w ∈ big) (h : ws.all goodWord = true) : GoodIn big ws := fun w hw => ⟨hm w hw, good_of_word (List.all_eq_true.mp h w hw)⟩
/-! ===== END ===== -/

/-! ===== BEGIN exceptions that leave a method, and their catching by the caller (launches without stack traces) ===== -/
section VXA
/-! The laws vx_back, vx_callV, vx_callS, vx_callSW, vx_throw0, vx_throwS follow proofs of the library, with one case more: JvmDerived/Free/Laws.lean (Back.of_free), Shelf42/LK1.lean (callV, callS), Shelf/KitTraced.lean (throwNew0V, throwNewS). -/
/-- where a method has thrown q: the class by its name, the cell, what was written, the world -/
def vx_T (XC : String → State → State → Prop) (st : State) (q : Addr) (t : State) (mc ms : Nat) (free : Addr → Prop) : Prop :=
  ∃ (E : String) (ce : Cell) (L : List Loc), XC E st t ∧ t.heap[q]? = some ce ∧ ce.vm = .none ∧ st.vm.findClass E = some ce.cls ∧ st.WarmedH t.vm ∧ st.sameButNew ({ t with vm := st.vm } : State) L mc ms ∧ ∀ z ∈ L, free z.base
def vx_Q (Qc : Array Value → State → Outcome → State → Prop) (XC : String → State → State → Prop) (mc ms : Nat) (free : Addr → Prop) : Array Value → State → Outcome → State → Prop := fun a st o t =>
  (Qc a st o t ∧ ∃ L, FrameEnd st o t L mc ms ∧ ∀ q ∈ L, free q.base) ∨ ∃ q, o = .threw q ∧ vx_T XC st q t mc ms free
/-- a callee that returns or throws -/
def vx_Met (l : Launch) (y : MethodName) (ws : List Cond) (rm : Room) (Pc : Array Value → State → Prop) (Qc : Array Value → State → Outcome → State → Prop) (XC : String → State → State → Prop) (mc ms : Nat) (free : Addr → Prop) : Prop :=
  MetFree l y (headSpec ws rm) Pc (fun _ _ _ _ _ => True) (vx_Q Qc XC mc ms free)
def vx_Post (XC : String → State → State → Prop) (mc ms : Nat) (free : Addr → Prop) : Pt → Array Value → Addr → Pt → Prop := fun A a q B =>
  ∃ (g : JFrame) (mk : MethodId) (t : State) (L : List Loc) (E : String) (ce : Cell), B.U.heap = t.heap ∧ B.U.vm = t.vm ∧ XC E (A.U.calling g mk a) t ∧ t.heap[q]? = some ce ∧ ce.vm = .none ∧ A.U.vm.findClass E = some ce.cls ∧ B.locs = A.locs ++ L ∧ (∀ z ∈ L, free z.base) ∧ B.cells = A.cells + mc ∧ B.slots = A.slots + ms
def vx_Back (l : Launch) (R : Room) (p : Program) (e : Env) (below : List Frame) (s : State) (sargs : Array Value) (y : MethodName) (len W9 : Nat)
    (Pre : Pt → Array Value → Prop) (Post : Pt → Array Value → Option Value → Pt → Prop) (PostX : Pt → Array Value → Addr → Pt → Prop) : Prop :=
  ∀ (m : MethodId) (meth : Method) (c : Code) (A : Pt) (g : JFrame) (ig : Instr) (mk : MethodId) (a : Array Value),
    Stand p l e R s m sargs below meth c A.U A.locs A.cells A.slots → g.method = m → g.locals.size = c.maxLocals → decode c.code g.pc = .ok (ig, len) →
    2 * g.monitorRoom + (g.stack.map fun v => v.category).sum ≤ W9 → A.U.methodNamed? y = some mk → Pre A a →
    (∃ (v : Option Value) (B : Pt), Stand p l e R s m sargs below meth c B.U B.locs B.cells B.slots ∧ Post A a v B ∧
      Steps p.tables e below (doInvoke e (A.U.setTop g) [] mk a).1 (B.U.setTop { g with pc := g.pc + len, stack := v.toList ++ g.stack })) ∨
    (∃ (q : Addr) (B : Pt), Stand p l e R s m sargs below meth c B.U B.locs B.cells B.slots ∧ PostX A a q B ∧
      Steps p.tables e below (doInvoke e (A.U.setTop g) [] mk a).1 ((B.U.setTop g).pushFrame (.throwing q)))
section Payer
variable {l : Launch} {R : Room} {p : Program} {e : Env} {below : List Frame} {s : State} {sargs : Array Value} {y : MethodName} {len W9 : Nat}
theorem vx_back {ws : List Cond} {rm : Room} {Pc : Array Value → State → Prop} {Qc : Array Value → State → Outcome → State → Prop} {XC : String → State → State → Prop} {mc ms : Nat} {free : Addr → Prop} {bytes : ByteArray} {maxL : Nat} {ret : Option FieldType}
    (hM : vx_Met l y ws rm Pc Qc XC mc ms free) (hblind : FrameBlind Pc) (hrc : rm.cells = mc) (hrs : rm.slots = ms)
    (hframes : rm.frames + 1 ≤ R.frames) (hlocals : W9 + (maxL + 11) + rm.locals ≤ R.locals)
    (hws : ∀ w ∈ ws, ∀ a' U, s.WarmedH U.vm → w.before a' U = true) (hcode : Cond.code y bytes maxL ret ∈ ws) (hinit : ∀ a' U, s.WarmedH U.vm → (Cond.initialized y.cls).before a' U = true) :
    vx_Back l R p e below s sargs y len W9 (PreOf R mc ms Pc) (PostOf Qc mc ms free) (vx_Post XC mc ms free) := by
  intro m meth c A g ig mk a X hg hsize hdg hW hn hp
  have h1 : (headSpec ws rm).pre.before a A.U = true := atoms_intro fun w hw => hws w hw _ _ X.warmed
  have h2 : (Cond.code y bytes maxL ret).before a A.U = true := hws _ hcode _ _ X.warmed
  have h3 : (Cond.initialized y.cls).before a A.U = true := hinit _ _ X.warmed
  have h4 : A.cells + (headSpec ws rm).room.cells ≤ R.cells := by rw [show (headSpec ws rm).room.cells = mc from hrc]; exact hp.1
  have h5 : A.slots + (headSpec ws rm).room.slots ≤ R.slots := by rw [show (headSpec ws rm).room.slots = ms from hrs]; exact hp.2.1
  have hPc : Pc a (A.U.calling g mk a) := hblind _ _ _ _ hp.2.2
  obtain ⟨U, Ls, c0, s0⟩ := A
  dsimp only [Pt.U, Pt.locs, Pt.cells, Pt.slots] at h1 h2 h3 h4 h5 X hn hPc ⊢
  obtain ⟨methY, cY, hmY, hcY, -, hlY, -, -, -, -⟩ := Cond.code_spec hn h2
  obtain ⟨kY, hkY, -⟩ := className_of_methodNamed hn
  have hinitY : kY.init = .initialized := Cond.initialized_spec (findClass_of_methodNamed hn) hkY h3
  have h : At U g.method c below := by rw [hg]; exact X.here
  have hlocals9 : W9 + (maxL + 11) + (headSpec ws rm).room.locals ≤ R.locals := hlocals
  have happ : (headSpec ws rm).appliesLoose y e.platform (U.calling g mk a) = true :=
    Spec.appliesLoose_calling (g := g) h hdg hn hkY hinitY
      (X.room_calling (g := g) (R' := (headSpec ws rm).room) hsize hmY hcY hframes (by rw [hlY]; omega) h4 h5) h1
  obtain ⟨mid, hmid⟩ := h.above
  have hfr : (U.setTop g).frames = (.java g :: mid) ++ below := by rw [State.frames_setTop' g h.top, hmid]; rfl
  obtain ⟨o, s₂, hsteps, -, hend, hq⟩ := Steps.callFree hM p X.admits X.cas X.clock (acts := []) hfr happ hPc trivial
  have hq' : vx_Q Qc XC mc ms free a (U.calling g mk a) o s₂ := hq
  rw [State.frames_setTop' g h.top] at hend
  obtain ⟨g₀, hg0⟩ := Option.isSome_iff_exists.mp h.top
  obtain ⟨r, hr⟩ := State.topJava?_eq_some.mp hg0
  have hr' : (({ U with heap := s₂.heap, slotsUsed := s₂.slotsUsed } : State).setVm s₂.vm).frames = .java g₀ :: r := hr
  rcases hq' with ⟨hqc, L, hfe, hL⟩ | ⟨q, rfl, E, ce, L, hx, hce, hcv, hcl, hW₂, hsm, hL⟩
  · obtain ⟨⟨v, rfl⟩, hW₂, e2, q2, q3, q4, q5, q6⟩ := id hfe
    have e3 : s₂ = ({ (U.calling g mk a).setFrames s₂.frames with heap := s₂.heap, slotsUsed := s₂.slotsUsed } : State).setVm s₂.vm := by
      have : s₂ = ({ s₂ with vm := (U.calling g mk a).vm } : State).setVm s₂.vm := rfl
      rw [e2] at this
      exact this
    obtain ⟨c₂, i₂, len₂, hc₂, hd₂, hf₂⟩ := hend
    have hW' : U.WarmedH s₂.vm := hW₂
    have hcc : c₂ = c := by
      have h1 : s₂.code? g.method = U.code? g.method := by
        rw [State.code?_eq, State.code?_eq, hW'.alike.method?]
      exact Option.some.inj (hc₂.symm.trans (h1.trans h.code))
    subst hcc
    have hlen : len₂ = len := by rw [hdg] at hd₂; cases hd₂; rfl
    subst hlen
    have hs₂ : s₂ = (({ U with heap := s₂.heap, slotsUsed := s₂.slotsUsed } : State).setVm s₂.vm).setTop { g with pc := g.pc + len₂, stack := v.toList ++ g.stack } := by
      refine e3.trans ?_
      rw [hf₂, State.calling_eq h.top, State.setFrames_setFrames, State.setTop_of_frames _ hr', hr]
      rfl
    have hsame : U.sameButNew ({ U with heap := s₂.heap, slotsUsed := s₂.slotsUsed } : State) L mc ms := by
      refine ⟨?_, q2, q3, q4, q5, q6⟩
      obtain ⟨t, ht, -⟩ := State.frames_cons hr
      show ({ U with heap := s₂.heap, slotsUsed := s₂.slotsUsed } : State) = { U.setFrames U.frames with heap := s₂.heap, slotsUsed := s₂.slotsUsed }
      rw [State.setFrames_self ht]
    subst hg
    refine Or.inl ⟨v, ⟨(({ U with heap := s₂.heap, slotsUsed := s₂.slotsUsed } : State).setVm s₂.vm), Ls ++ L, c0 + mc, s0 + ms⟩,
      ⟨X.admits, X.cas, X.clock, X.frames, X.room, X.hears, X.method, X.code, (X.here.setHeapUsed s₂.heap s₂.slotsUsed).setVm hW'.alike, X.tail, State.WarmedH.trans X.warmed hW', X.limits, X.bytes, X.same.trans (hsame.setVm s.vm)⟩,
      ⟨g, mk, s₂, L, rfl, rfl, hqc, rfl, hL, rfl, rfl⟩, ?_⟩
    show Steps p.tables e below _ ((({ U with heap := s₂.heap, slotsUsed := s₂.slotsUsed } : State).setVm s₂.vm).setTop { g with pc := g.pc + len₂, stack := v.toList ++ g.stack })
    rw [← hs₂]
    exact hsteps
  · obtain ⟨e2, q2, q3, q4, q5, q6⟩ := id hsm
    have e3 : s₂ = ({ (U.calling g mk a).setFrames s₂.frames with heap := s₂.heap, slotsUsed := s₂.slotsUsed } : State).setVm s₂.vm := by
      have : s₂ = ({ s₂ with vm := (U.calling g mk a).vm } : State).setVm s₂.vm := rfl
      rw [e2] at this
      exact this
    have hf₂ : s₂.frames = .throwing q :: .java g :: U.frames.tail := hend
    have hW' : U.WarmedH s₂.vm := hW₂
    have hs₂ : s₂ = ((({ U with heap := s₂.heap, slotsUsed := s₂.slotsUsed } : State).setVm s₂.vm).setTop g).pushFrame (.throwing q) := by
      refine e3.trans ?_
      rw [hf₂, State.calling_eq h.top, State.setFrames_setFrames, State.pushFrame, State.frames_setTop _ hr', State.setTop_of_frames _ hr', State.setFrames_setFrames, hr]
      rfl
    have hsame : U.sameButNew ({ U with heap := s₂.heap, slotsUsed := s₂.slotsUsed } : State) L mc ms := by
      refine ⟨?_, q2, q3, q4, q5, q6⟩
      obtain ⟨t, ht, -⟩ := State.frames_cons hr
      show ({ U with heap := s₂.heap, slotsUsed := s₂.slotsUsed } : State) = { U.setFrames U.frames with heap := s₂.heap, slotsUsed := s₂.slotsUsed }
      rw [State.setFrames_self ht]
    subst hg
    refine Or.inr ⟨q, ⟨(({ U with heap := s₂.heap, slotsUsed := s₂.slotsUsed } : State).setVm s₂.vm), Ls ++ L, c0 + mc, s0 + ms⟩,
      ⟨X.admits, X.cas, X.clock, X.frames, X.room, X.hears, X.method, X.code, (X.here.setHeapUsed s₂.heap s₂.slotsUsed).setVm hW'.alike, X.tail, State.WarmedH.trans X.warmed hW', X.limits, X.bytes, X.same.trans (hsame.setVm s.vm)⟩,
      ⟨g, mk, s₂, L, E, ce, rfl, rfl, hx, hce, hcv, hcl, rfl, hL, rfl, rfl⟩, ?_⟩
    show Steps p.tables e below _ (((({ U with heap := s₂.heap, slotsUsed := s₂.slotsUsed } : State).setVm s₂.vm).setTop g).pushFrame (.throwing q))
    rw [← hs₂]
    exact hsteps
end Payer
section Calls
variable {p : Program} {l : Launch} {e : Env} {R : Room} {s : State} {m : MethodId} {args : Array Value} {below : List Frame} {meth : Method} {c : Code} {T : State} {locs : List Loc} {cells slots : Nat}
theorem vx_callV (X : Stand p l e R s m args below meth c T locs cells slots) (hexec : p.tables.exec = Jvm.exec) {own C : String} {index : Nat} {y : MethodName} {bytes : ByteArray} {maxL : Nat} {ret : Option FieldType}
    (hown : s.vm.findClass own = some m.cls) (hlink : (Cond.methodLink own index y).before args s = true) (hinst : (Cond.instanceMethod y).before args s = true) (hsel : (Cond.selects C y y).before args s = true)
    (hcode : (Cond.code y bytes maxL ret).before args s = true) (hy : y.cls ≠ "java/lang/invoke/MethodHandle" ∧ y.cls ≠ "java/lang/invoke/VarHandle")
    {W9 : Nat} {Pre : Pt → Array Value → Prop} {Post : Pt → Array Value → Option Value → Pt → Prop} {PostX : Pt → Array Value → Addr → Pt → Prop} (hK : vx_Back l R p e below s args y 3 W9 Pre Post PostX)
    {b : Addr} {cellB : Cell} (hcell : T.heap[b]? = some cellB) (hobj : cellB.vm.isStatics = false) (hcls : s.vm.findClass C = some cellB.cls)
    {g : JFrame} (hg : g.method = m) (hsize : g.locals.size = c.maxLocals) {argsL rest : List Value} (hlen : ∀ sig, parseMethodDescriptor y.desc = some sig → argsL.length = sig.parameters.length)
    (hstack : g.stack = argsL.reverse ++ .ref b :: rest) (hW : 2 * g.monitorRoom + (rest.map fun v => v.category).sum ≤ W9) (hdg : decode c.code g.pc = .ok (.invokevirtual index, 3))
    (hpre : ∀ vm₁, s.WarmedH vm₁ → Pre ⟨T.setVm vm₁, locs, cells, slots⟩ (Value.ref b :: argsL).toArray) :
    (∃ (v : Option Value) (vm₁ : Vm) (B : Pt), s.WarmedH vm₁ ∧ Stand p l e R s m args below meth c B.U B.locs B.cells B.slots ∧ Post ⟨T.setVm vm₁, locs, cells, slots⟩ (Value.ref b :: argsL).toArray v B ∧
      ∀ target, Steps p.tables e below (B.U.setTop { g with pc := g.pc + 3, stack := v.toList ++ rest }) target → Steps p.tables e below (T.setTop g) target) ∨
    (∃ (q : Addr) (vm₁ : Vm) (B : Pt), s.WarmedH vm₁ ∧ Stand p l e R s m args below meth c B.U B.locs B.cells B.slots ∧ PostX ⟨T.setVm vm₁, locs, cells, slots⟩ (Value.ref b :: argsL).toArray q B ∧
      Steps p.tables e below (T.setTop g) ((B.U.setTop { g with stack := rest }).pushFrame (.throwing q))) := by
  obtain ⟨mk, methM, hnamed, hmethM, hstM, habM⟩ := Cond.instanceMethod_spec hinst
  obtain ⟨methM', cM, hmethM', -, -, -, -, -, -, hsigM⟩ := Cond.code_spec hnamed hcode
  cases hmethM.symm.trans hmethM'
  obtain ⟨c2, r2, m2, q1, q2, q3, q4, kP, hkP, hkPi⟩ := Cond.selects_spec hsel
  cases hcls.symm.trans q1
  cases (State.methodFound?_of_named hnamed hy).symm.trans q2
  cases hnamed.symm.trans q3
  have hselP : selectMethod e.platform s.vm cellB.cls mk = .method mk := by rw [Launch.admits_selectMethod X.admits]; exact q4
  obtain ⟨vm₁, X₁, hstep₁⟩ := X.invokevirtual hexec hown hlink hnamed hmethM hstM hkP hkPi hy (a := b) (cell := cellB) hcell
    (fun z h => by rw [h] at hobj; cases hobj) hselP hmethM habM hkP hkPi (g := g) hg (argsL := argsL) (rest := rest) (hlen _ hsigM) hstack hdg
  rcases hK m meth c ⟨T.setVm vm₁, locs, cells, slots⟩ { g with stack := rest } (.invokevirtual index) mk (Value.ref b :: argsL).toArray X₁ hg hsize hdg hW (X₁.named hnamed) (hpre vm₁ X₁.warmed) with ⟨v, B, X', hpost, hsteps⟩ | ⟨q, B, X', hpost, hsteps⟩
  · exact Or.inl ⟨v, vm₁, B, X₁.warmed, X', hpost, fun target h => hstep₁ _ fun acts => by rw [doInvoke_state]; exact hsteps.trans h⟩
  · exact Or.inr ⟨q, vm₁, B, X₁.warmed, X', hpost, hstep₁ _ fun acts => by rw [doInvoke_state]; exact hsteps⟩
theorem vx_callS (X : Stand p l e R s m args below meth c T locs cells slots) (hexec : p.tables.exec = Jvm.exec) {own : String} {index : Nat} {y : MethodName} {bytes : ByteArray} {maxL : Nat} {ret : Option FieldType}
    (hown : s.vm.findClass own = some m.cls) (hlink : (Cond.methodLink own index y).before args s = true) (hstat : (Cond.static y).before args s = true) (hinit : (Cond.initialized y.cls).before args s = true)
    (hcode : (Cond.code y bytes maxL ret).before args s = true) (hy : y.cls ≠ "java/lang/invoke/MethodHandle" ∧ y.cls ≠ "java/lang/invoke/VarHandle")
    {W9 : Nat} {Pre : Pt → Array Value → Prop} {Post : Pt → Array Value → Option Value → Pt → Prop} {PostX : Pt → Array Value → Addr → Pt → Prop} (hK : vx_Back l R p e below s args y 3 W9 Pre Post PostX)
    {g : JFrame} (hg : g.method = m) (hsize : g.locals.size = c.maxLocals) {argsL rest : List Value} (hlen : ∀ sig, parseMethodDescriptor y.desc = some sig → argsL.length = sig.parameters.length)
    (hstack : g.stack = argsL.reverse ++ rest) (hW : 2 * g.monitorRoom + (rest.map fun v => v.category).sum ≤ W9) (hdg : decode c.code g.pc = .ok (.invokestatic index, 3))
    (hpre : ∀ vm₁, s.WarmedH vm₁ → Pre ⟨T.setVm vm₁, locs, cells, slots⟩ argsL.toArray) :
    (∃ (v : Option Value) (vm₁ : Vm) (B : Pt), s.WarmedH vm₁ ∧ Stand p l e R s m args below meth c B.U B.locs B.cells B.slots ∧ Post ⟨T.setVm vm₁, locs, cells, slots⟩ argsL.toArray v B ∧
      ∀ target, Steps p.tables e below (B.U.setTop { g with pc := g.pc + 3, stack := v.toList ++ rest }) target → Steps p.tables e below (T.setTop g) target) ∨
    (∃ (q : Addr) (vm₁ : Vm) (B : Pt), s.WarmedH vm₁ ∧ Stand p l e R s m args below meth c B.U B.locs B.cells B.slots ∧ PostX ⟨T.setVm vm₁, locs, cells, slots⟩ argsL.toArray q B ∧
      Steps p.tables e below (T.setTop g) ((B.U.setTop { g with stack := rest }).pushFrame (.throwing q))) := by
  obtain ⟨mk, hnamed⟩ := Cond.code_named hcode
  obtain ⟨methM, cM, hmethM, -, -, -, -, -, -, hsigM⟩ := Cond.code_spec hnamed hcode
  have hstatic : methM.isStatic = true := Cond.static_spec hnamed hmethM hstat
  obtain ⟨kP, hkP, -⟩ := className_of_methodNamed hnamed
  have hinitP : kP.init = .initialized := Cond.initialized_spec (findClass_of_methodNamed hnamed) hkP hinit
  obtain ⟨vm₁, X₁, hstep₁⟩ := X.invokestatic hexec hown hlink hnamed hmethM hstatic hkP hinitP hy (g := g) hg (argsL := argsL) (rest := rest) (hlen _ hsigM) hstack hdg
  rcases hK m meth c ⟨T.setVm vm₁, locs, cells, slots⟩ { g with stack := rest } (.invokestatic index) mk argsL.toArray X₁ hg hsize hdg hW (X₁.named hnamed) (hpre vm₁ X₁.warmed) with ⟨v, B, X', hpost, hsteps⟩ | ⟨q, B, X', hpost, hsteps⟩
  · exact Or.inl ⟨v, vm₁, B, X₁.warmed, X', hpost, fun target h => hstep₁ _ fun acts => by rw [doInvoke_state]; exact hsteps.trans h⟩
  · exact Or.inr ⟨q, vm₁, B, X₁.warmed, X', hpost, hstep₁ _ fun acts => by rw [doInvoke_state]; exact hsteps⟩
end Calls
theorem vx_cls {s : State} {T : State} {vm₁ : Vm} {E : String} {k : ClassId} (hW : s.WarmedH vm₁) (h : (T.setVm vm₁).vm.findClass E = some k) : s.vm.findClass E = some k := by
  have h1 : vm₁.findClass E = some k := h
  rw [hW.alike.findClass] at h1
  exact h1
/-- the method's frame g, with q thrown over it -/
def vx_W (p : Program) (l : Launch) (e : Env) (R : Room) (s : State) (m : MethodId) (args : Array Value) (below : List Frame) (meth : Method) (c : Code) (H : Heap) (locs : List Loc) (cells slots : Nat) (Q : State → Prop) (g : JFrame) (q : Addr) : Prop :=
  ∀ T : State, T.heap = H → Stand p l e R s m args below meth c T locs cells slots → ∃ t, Steps p.tables e below ((T.setTop g).pushFrame (.throwing q)) t ∧ Q t
def vx_Run (p : Program) (l : Launch) (e : Env) (R : Room) (s : State) (m : MethodId) (args : Array Value) (below : List Frame) (meth : Method) (c : Code) (H : Heap) (locs : List Loc) (cells slots mc ms : Nat) (g : JFrame) (rest : List Value) (Qa : State → Outcome → State → Prop) (XC : String → State → State → Prop) (free : Addr → Prop) : Prop :=
  ∀ T : State, T.heap = H → Stand p l e R s m args below meth c T locs cells slots →
    (∃ (v : Option Value) (st₀ t T' : State) (L : List Loc), st₀.heap = H ∧ Stand p l e R s m args below meth c T' (locs ++ L) (cells + mc) (slots + ms) ∧ (∀ q ∈ L, free q.base) ∧ T'.heap = t.heap ∧ T'.vm = t.vm ∧ Qa st₀ (.returned v) t ∧
      Goes p e below T g T' { g with pc := g.pc + 3, stack := v.toList ++ rest }) ∨
    (∃ (q : Addr) (st₀ t T' : State) (L : List Loc) (E : String) (ce : Cell), st₀.heap = H ∧ Stand p l e R s m args below meth c T' (locs ++ L) (cells + mc) (slots + ms) ∧ (∀ z ∈ L, free z.base) ∧ T'.heap = t.heap ∧ T'.vm = t.vm ∧ XC E st₀ t ∧ t.heap[q]? = some ce ∧ ce.vm = .none ∧ s.vm.findClass E = some ce.cls ∧
      Steps p.tables e below (T.setTop g) ((T'.setTop { g with stack := rest }).pushFrame (.throwing q)))
def vx_X {S : Type} (px : S → Prop) (B : String → S → State → Prop) (A : Nat → Prop) : String → State → State → Prop := fun E st t => ∃ u : S, px u ∧ B E u t ∧ va_F A st t
section Runs
variable {p : Program} {l : Launch} {e : Env} {R : Room} {s : State} {m : MethodId} {args : Array Value} {below : List Frame} {meth : Method} {c : Code} {H : Heap} {locs : List Loc} {cells slots : Nat}
variable {y : MethodName} {bytes cc : ByteArray} {maxL nL mc ms n index : Nat} {ret : Option FieldType} {ws : List Cond} {rm : Room} {Pc : Array Value → State → Prop} {Qc : Array Value → State → Outcome → State → Prop} {XC : String → State → State → Prop} {free : Addr → Prop} {Ts : List Cond} {own C : String} {b : Addr} {As rest : List Value} {g : JFrame}
theorem vx_callBack (cb : CallB R s args own index y bytes maxL ret ws rm mc ms n) (hM : vx_Met l y ws rm Pc Qc XC mc ms free) (hbl : FrameBlind Pc) : vx_Back l R p e below s args y 3 8 (PreOf R mc ms Pc) (PostOf Qc mc ms free) (vx_Post XC mc ms free) := by
  obtain ⟨hrc, hrs, hfr, hlo, hws, hcw, -, hini, -⟩ := cb
  exact vx_back (bytes := bytes) (maxL := maxL) (ret := ret) hM hbl hrc hrs hfr hlo hws hcw (fun a' U hW => word_at hW (Or.inl (by first | rfl | simp [Cond.onTables, Cond.keeps, Cond.steady])) hini)
theorem vx_runV (S : CallFix p m c cc nL s args Ts own) (hM : vx_Met l y ws rm Pc Qc XC mc ms free) (cw : CallW R s args own C index y bytes maxL ret ws rm mc ms n) (hp : PreV s H C b Pc As)
    (hg : g.method = m) (hn : As.length = n) (hsize : g.locals.size = nL) (hstack : g.stack = As.reverse ++ .ref b :: rest) (hW : 2 * g.monitorRoom + (rest.map fun v => v.category).sum ≤ 8) (hdg : decode cc g.pc = .ok (.invokevirtual index, 3)) (hf : cells + mc ≤ R.cells ∧ slots + ms ≤ R.slots) :
    vx_Run p l e R s m args below meth c H locs cells slots mc ms g rest (Qc (Value.ref b :: As).toArray) XC free := by
  have hK : vx_Back l R p e below s args y 3 8 (PreOf R mc ms Pc) (PostOf Qc mc ms free) (vx_Post XC mc ms free) := vx_callBack cw.1 hM hp.1
  obtain ⟨⟨-, -, -, -, -, -, hcode, -, hy, hlen, hl⟩, hin, hse⟩ := cw
  obtain ⟨hx, hb, hml, ho, -⟩ := S
  obtain ⟨-, ⟨cellB, hcB, hoB, hclB⟩, hPc⟩ := hp
  intro T hT X
  rcases vx_callV X hx (C := C) (bytes := bytes) (maxL := maxL) (ret := ret) ho hl hin hse hcode hy hK (by rw [hT]; exact hcB) hoB hclB hg (hsize.trans hml.symm) (argsL := As) (rest := rest) (fun sig h => hn.trans (hlen sig h)) hstack hW (by rw [hb]; exact hdg)
    (fun vm₁ hW₁ => ⟨hf.1, hf.2, hPc (T.setVm vm₁) hT hW₁⟩) with ⟨v, vm₁, ⟨U', l2, c2, s2⟩, hW₁, X', ⟨g', mk, t, L, e1, e2, hq, h1, hL, h2, h3⟩, st⟩ | ⟨q, vm₁, ⟨U', l2, c2, s2⟩, hW₁, X', ⟨g', mk, t, L, E, ce, e1, e2, hq, hce, hcv, hcl, h1, hL, h2, h3⟩, st⟩
  · dsimp only [Pt.U, Pt.locs, Pt.cells, Pt.slots] at X' e1 e2 h1 h2 h3 st
    subst h1; subst h2; subst h3
    exact Or.inl ⟨v, (T.setVm vm₁).calling g' mk (Value.ref b :: As).toArray, t, U', L, hT, X', hL, e1, e2, hq, st⟩
  · dsimp only [Pt.U, Pt.locs, Pt.cells, Pt.slots] at X' e1 e2 h1 h2 h3 st hcl
    subst h1; subst h2; subst h3
    exact Or.inr ⟨q, (T.setVm vm₁).calling g' mk (Value.ref b :: As).toArray, t, U', L, E, ce, hT, X', hL, e1, e2, hq, hce, hcv, vx_cls hW₁ hcl, st⟩
theorem vx_runS (S : CallFix p m c cc nL s args Ts own) (hM : vx_Met l y ws rm Pc Qc XC mc ms free) (cw : CallB R s args own index y bytes maxL ret ws rm mc ms n ∧ (Cond.static y).before args s = true) (hp : PreS s H Pc As)
    (hg : g.method = m) (hn : As.length = n) (hsize : g.locals.size = nL) (hstack : g.stack = As.reverse ++ rest) (hW : 2 * g.monitorRoom + (rest.map fun v => v.category).sum ≤ 8) (hdg : decode cc g.pc = .ok (.invokestatic index, 3)) (hf : cells + mc ≤ R.cells ∧ slots + ms ≤ R.slots) :
    vx_Run p l e R s m args below meth c H locs cells slots mc ms g rest (Qc As.toArray) XC free := by
  have hK : vx_Back l R p e below s args y 3 8 (PreOf R mc ms Pc) (PostOf Qc mc ms free) (vx_Post XC mc ms free) := vx_callBack cw.1 hM hp.1
  obtain ⟨⟨-, -, -, -, -, -, hcode, hini, hy, hlen, hl⟩, hstt⟩ := cw
  obtain ⟨hx, hb, hml, ho, -⟩ := S
  intro T hT X
  rcases vx_callS X hx (bytes := bytes) (maxL := maxL) (ret := ret) ho hl hstt hini hcode hy hK hg (hsize.trans hml.symm) (argsL := As) (rest := rest) (fun sig h => hn.trans (hlen sig h)) hstack hW (by rw [hb]; exact hdg)
    (fun vm₁ hW₁ => ⟨hf.1, hf.2, hp.2 (T.setVm vm₁) hT hW₁⟩) with ⟨v, vm₁, ⟨U', l2, c2, s2⟩, hW₁, X', ⟨g', mk, t, L, e1, e2, hq, h1, hL, h2, h3⟩, st⟩ | ⟨q, vm₁, ⟨U', l2, c2, s2⟩, hW₁, X', ⟨g', mk, t, L, E, ce, e1, e2, hq, hce, hcv, hcl, h1, hL, h2, h3⟩, st⟩
  · dsimp only [Pt.U, Pt.locs, Pt.cells, Pt.slots] at X' e1 e2 h1 h2 h3 st
    subst h1; subst h2; subst h3
    exact Or.inl ⟨v, (T.setVm vm₁).calling g' mk As.toArray, t, U', L, hT, X', hL, e1, e2, hq, st⟩
  · dsimp only [Pt.U, Pt.locs, Pt.cells, Pt.slots] at X' e1 e2 h1 h2 h3 st hcl
    subst h1; subst h2; subst h3
    exact Or.inr ⟨q, (T.setVm vm₁).calling g' mk As.toArray, t, U', L, E, ce, hT, X', hL, e1, e2, hq, hce, hcv, vx_cls hW₁ hcl, st⟩
end Runs
section Rows
variable {p : Program} {l : Launch} {e : Env} {R : Room} {s : State} {m : MethodId} {args : Array Value} {below : List Frame} {meth : Method} {c : Code} {H : Heap} {locs : List Loc} {cells slots : Nat} {Q : State → Prop}
variable {mc ms : Nat} {free : Addr → Prop} {A0 A1 : Nat → Prop} {H0 : Heap} {a : Array Value} {pc : Nat} {ls : Array Slot} {st0 rest : List Value}
theorem vx_keep {st₀ t T' : State} {L : List Loc} (h0 : st₀.heap = H) (e1 : T'.heap = t.heap) (hS : va_S A0 H0 H locs) (hA : ∀ q, q < H.size → A1 q → A0 q) (hf : ∀ q, free q → A0 q) (hL : ∀ q ∈ L, free q.base) (hF : va_F A1 st₀ t) :
    H.size ≤ T'.heap.size ∧ (∀ q : Nat, q < H.size → ¬ A1 q → T'.heap[q]? = H[q]?) ∧ va_S A0 H0 T'.heap (locs ++ L) := by
  obtain ⟨hz, hk⟩ := hF
  rw [h0] at hz hk
  exact ⟨by rw [e1]; exact hz, fun q h1 h2 => by rw [e1]; exact hk q h1 h2,
    ⟨Nat.le_trans hS.1 (by rw [e1]; exact hz), fun q h1 h2 => by rw [e1, hk q (Nat.lt_of_lt_of_le h1 hS.1) (fun z => h2 (hA q (Nat.lt_of_lt_of_le h1 hS.1) z))]; exact hS.2.1 q h1 h2, fun q hq => by
      rcases List.mem_append.mp hq with h | h
      · exact hS.2.2 q h
      · exact hf _ (hL q h)⟩⟩
theorem vx_calli {S SX : Type} {post : Int32 → S → Prop} {px : SX → Prop} {B : S → State → Prop} {BX : String → SX → State → Prop} {AX : Nat → Prop} (hr : vx_Run p l e R s m args below meth c H locs cells slots mc ms (F0 m pc ls st0) rest (va_Qi post B A1 a) (vx_X px BX AX) free) (hS : va_S A0 H0 H locs) (hA : ∀ q, q < H.size → A1 q → A0 q) (hf : ∀ q, free q → A0 q) (hAX : ∀ q, q < H.size → AX q → A0 q)
    (kx : ∀ (E : String) (ce : Cell) (q9 : Addr) (u : SX) (t : State) (H1 : Heap) (locs1 : List Loc), t.heap = H1 → s.vm.Alike t.vm → px u → BX E u t → H.size ≤ H1.size → (∀ q : Nat, q < H.size → ¬ AX q → H1[q]? = H[q]?) → va_S A0 H0 H1 locs1 → H1[q9]? = some ce → ce.vm = .none → s.vm.findClass E = some ce.cls → vx_W p l e R s m args below meth c H1 locs1 (cells + mc) (slots + ms) Q (F0 m pc ls rest) q9)
    (kk : ∀ (r : Int32) (u : S) (t : State) (H1 : Heap) (locs1 : List Loc), t.heap = H1 → s.vm.Alike t.vm → post r u → B u t → H.size ≤ H1.size → (∀ q : Nat, q < H.size → ¬ A1 q → H1[q]? = H[q]?) → va_S A0 H0 H1 locs1 → W p l e R s m args below meth c H1 locs1 (cells + mc) (slots + ms) Q (F0 m (pc + 3) ls (.int r :: rest))) : W p l e R s m args below meth c H locs cells slots Q (F0 m pc ls st0) := by
  intro T hT X
  rcases hr T hT X with ⟨v, st₀, t, T', L, h0, X', hL, e1, e2, ⟨⟨r, u, hv, hp, hb⟩, hF⟩, st⟩ | ⟨q, st₀, t, T', L, E, ce, h0, X', hL, e1, e2, ⟨u, hp, hb, hF⟩, hce, hcv, hcl, st⟩
  · cases hv
    obtain ⟨k1, k2, k3⟩ := vx_keep h0 e1 hS hA hf hL hF
    obtain ⟨t2, a1, b1⟩ := kk r u t T'.heap (locs ++ L) e1.symm (by rw [← e2]; exact X'.warmed.alike) hp hb k1 k2 k3 T' rfl X'
    exact ⟨t2, st t2 a1, b1⟩
  · obtain ⟨k1, k2, k3⟩ := vx_keep h0 e1 hS hAX hf hL hF
    obtain ⟨t2, a1, b1⟩ := kx E ce q u t T'.heap (locs ++ L) e1.symm (by rw [← e2]; exact X'.warmed.alike) hp hb k1 k2 k3 (by rw [e1]; exact hce) hcv hcl T' rfl X'
    exact ⟨t2, st.trans a1, b1⟩
theorem vx_calll {S SX : Type} {post : Int64 → S → Prop} {px : SX → Prop} {B : S → State → Prop} {BX : String → SX → State → Prop} {AX : Nat → Prop} (hr : vx_Run p l e R s m args below meth c H locs cells slots mc ms (F0 m pc ls st0) rest (va_Ql post B A1 a) (vx_X px BX AX) free) (hS : va_S A0 H0 H locs) (hA : ∀ q, q < H.size → A1 q → A0 q) (hf : ∀ q, free q → A0 q) (hAX : ∀ q, q < H.size → AX q → A0 q)
    (kx : ∀ (E : String) (ce : Cell) (q9 : Addr) (u : SX) (t : State) (H1 : Heap) (locs1 : List Loc), t.heap = H1 → s.vm.Alike t.vm → px u → BX E u t → H.size ≤ H1.size → (∀ q : Nat, q < H.size → ¬ AX q → H1[q]? = H[q]?) → va_S A0 H0 H1 locs1 → H1[q9]? = some ce → ce.vm = .none → s.vm.findClass E = some ce.cls → vx_W p l e R s m args below meth c H1 locs1 (cells + mc) (slots + ms) Q (F0 m pc ls rest) q9)
    (kk : ∀ (r : Int64) (u : S) (t : State) (H1 : Heap) (locs1 : List Loc), t.heap = H1 → s.vm.Alike t.vm → post r u → B u t → H.size ≤ H1.size → (∀ q : Nat, q < H.size → ¬ A1 q → H1[q]? = H[q]?) → va_S A0 H0 H1 locs1 → W p l e R s m args below meth c H1 locs1 (cells + mc) (slots + ms) Q (F0 m (pc + 3) ls (.long r :: rest))) : W p l e R s m args below meth c H locs cells slots Q (F0 m pc ls st0) := by
  intro T hT X
  rcases hr T hT X with ⟨v, st₀, t, T', L, h0, X', hL, e1, e2, ⟨⟨r, u, hv, hp, hb⟩, hF⟩, st⟩ | ⟨q, st₀, t, T', L, E, ce, h0, X', hL, e1, e2, ⟨u, hp, hb, hF⟩, hce, hcv, hcl, st⟩
  · cases hv
    obtain ⟨k1, k2, k3⟩ := vx_keep h0 e1 hS hA hf hL hF
    obtain ⟨t2, a1, b1⟩ := kk r u t T'.heap (locs ++ L) e1.symm (by rw [← e2]; exact X'.warmed.alike) hp hb k1 k2 k3 T' rfl X'
    exact ⟨t2, st t2 a1, b1⟩
  · obtain ⟨k1, k2, k3⟩ := vx_keep h0 e1 hS hAX hf hL hF
    obtain ⟨t2, a1, b1⟩ := kx E ce q u t T'.heap (locs ++ L) e1.symm (by rw [← e2]; exact X'.warmed.alike) hp hb k1 k2 k3 (by rw [e1]; exact hce) hcv hcl T' rfl X'
    exact ⟨t2, st.trans a1, b1⟩
theorem vx_callf {S SX : Type} {post : UInt32 → S → Prop} {px : SX → Prop} {B : S → State → Prop} {BX : String → SX → State → Prop} {AX : Nat → Prop} (hr : vx_Run p l e R s m args below meth c H locs cells slots mc ms (F0 m pc ls st0) rest (va_Qf post B A1 a) (vx_X px BX AX) free) (hS : va_S A0 H0 H locs) (hA : ∀ q, q < H.size → A1 q → A0 q) (hf : ∀ q, free q → A0 q) (hAX : ∀ q, q < H.size → AX q → A0 q)
    (kx : ∀ (E : String) (ce : Cell) (q9 : Addr) (u : SX) (t : State) (H1 : Heap) (locs1 : List Loc), t.heap = H1 → s.vm.Alike t.vm → px u → BX E u t → H.size ≤ H1.size → (∀ q : Nat, q < H.size → ¬ AX q → H1[q]? = H[q]?) → va_S A0 H0 H1 locs1 → H1[q9]? = some ce → ce.vm = .none → s.vm.findClass E = some ce.cls → vx_W p l e R s m args below meth c H1 locs1 (cells + mc) (slots + ms) Q (F0 m pc ls rest) q9)
    (kk : ∀ (r : UInt32) (u : S) (t : State) (H1 : Heap) (locs1 : List Loc), t.heap = H1 → s.vm.Alike t.vm → post r u → B u t → H.size ≤ H1.size → (∀ q : Nat, q < H.size → ¬ A1 q → H1[q]? = H[q]?) → va_S A0 H0 H1 locs1 → W p l e R s m args below meth c H1 locs1 (cells + mc) (slots + ms) Q (F0 m (pc + 3) ls (.float r :: rest))) : W p l e R s m args below meth c H locs cells slots Q (F0 m pc ls st0) := by
  intro T hT X
  rcases hr T hT X with ⟨v, st₀, t, T', L, h0, X', hL, e1, e2, ⟨⟨r, u, hv, hp, hb⟩, hF⟩, st⟩ | ⟨q, st₀, t, T', L, E, ce, h0, X', hL, e1, e2, ⟨u, hp, hb, hF⟩, hce, hcv, hcl, st⟩
  · cases hv
    obtain ⟨k1, k2, k3⟩ := vx_keep h0 e1 hS hA hf hL hF
    obtain ⟨t2, a1, b1⟩ := kk r u t T'.heap (locs ++ L) e1.symm (by rw [← e2]; exact X'.warmed.alike) hp hb k1 k2 k3 T' rfl X'
    exact ⟨t2, st t2 a1, b1⟩
  · obtain ⟨k1, k2, k3⟩ := vx_keep h0 e1 hS hAX hf hL hF
    obtain ⟨t2, a1, b1⟩ := kx E ce q u t T'.heap (locs ++ L) e1.symm (by rw [← e2]; exact X'.warmed.alike) hp hb k1 k2 k3 (by rw [e1]; exact hce) hcv hcl T' rfl X'
    exact ⟨t2, st.trans a1, b1⟩
theorem vx_calld {S SX : Type} {post : UInt64 → S → Prop} {px : SX → Prop} {B : S → State → Prop} {BX : String → SX → State → Prop} {AX : Nat → Prop} (hr : vx_Run p l e R s m args below meth c H locs cells slots mc ms (F0 m pc ls st0) rest (va_Qd post B A1 a) (vx_X px BX AX) free) (hS : va_S A0 H0 H locs) (hA : ∀ q, q < H.size → A1 q → A0 q) (hf : ∀ q, free q → A0 q) (hAX : ∀ q, q < H.size → AX q → A0 q)
    (kx : ∀ (E : String) (ce : Cell) (q9 : Addr) (u : SX) (t : State) (H1 : Heap) (locs1 : List Loc), t.heap = H1 → s.vm.Alike t.vm → px u → BX E u t → H.size ≤ H1.size → (∀ q : Nat, q < H.size → ¬ AX q → H1[q]? = H[q]?) → va_S A0 H0 H1 locs1 → H1[q9]? = some ce → ce.vm = .none → s.vm.findClass E = some ce.cls → vx_W p l e R s m args below meth c H1 locs1 (cells + mc) (slots + ms) Q (F0 m pc ls rest) q9)
    (kk : ∀ (r : UInt64) (u : S) (t : State) (H1 : Heap) (locs1 : List Loc), t.heap = H1 → s.vm.Alike t.vm → post r u → B u t → H.size ≤ H1.size → (∀ q : Nat, q < H.size → ¬ A1 q → H1[q]? = H[q]?) → va_S A0 H0 H1 locs1 → W p l e R s m args below meth c H1 locs1 (cells + mc) (slots + ms) Q (F0 m (pc + 3) ls (.double r :: rest))) : W p l e R s m args below meth c H locs cells slots Q (F0 m pc ls st0) := by
  intro T hT X
  rcases hr T hT X with ⟨v, st₀, t, T', L, h0, X', hL, e1, e2, ⟨⟨r, u, hv, hp, hb⟩, hF⟩, st⟩ | ⟨q, st₀, t, T', L, E, ce, h0, X', hL, e1, e2, ⟨u, hp, hb, hF⟩, hce, hcv, hcl, st⟩
  · cases hv
    obtain ⟨k1, k2, k3⟩ := vx_keep h0 e1 hS hA hf hL hF
    obtain ⟨t2, a1, b1⟩ := kk r u t T'.heap (locs ++ L) e1.symm (by rw [← e2]; exact X'.warmed.alike) hp hb k1 k2 k3 T' rfl X'
    exact ⟨t2, st t2 a1, b1⟩
  · obtain ⟨k1, k2, k3⟩ := vx_keep h0 e1 hS hAX hf hL hF
    obtain ⟨t2, a1, b1⟩ := kx E ce q u t T'.heap (locs ++ L) e1.symm (by rw [← e2]; exact X'.warmed.alike) hp hb k1 k2 k3 (by rw [e1]; exact hce) hcv hcl T' rfl X'
    exact ⟨t2, st.trans a1, b1⟩
theorem vx_callv {S SX : Type} {post : S → Prop} {px : SX → Prop} {B : S → State → Prop} {BX : String → SX → State → Prop} {AX : Nat → Prop} (hr : vx_Run p l e R s m args below meth c H locs cells slots mc ms (F0 m pc ls st0) rest (va_Qv post B A1 a) (vx_X px BX AX) free) (hS : va_S A0 H0 H locs) (hA : ∀ q, q < H.size → A1 q → A0 q) (hf : ∀ q, free q → A0 q) (hAX : ∀ q, q < H.size → AX q → A0 q)
    (kx : ∀ (E : String) (ce : Cell) (q9 : Addr) (u : SX) (t : State) (H1 : Heap) (locs1 : List Loc), t.heap = H1 → s.vm.Alike t.vm → px u → BX E u t → H.size ≤ H1.size → (∀ q : Nat, q < H.size → ¬ AX q → H1[q]? = H[q]?) → va_S A0 H0 H1 locs1 → H1[q9]? = some ce → ce.vm = .none → s.vm.findClass E = some ce.cls → vx_W p l e R s m args below meth c H1 locs1 (cells + mc) (slots + ms) Q (F0 m pc ls rest) q9)
    (kk : ∀ (u : S) (t : State) (H1 : Heap) (locs1 : List Loc), t.heap = H1 → s.vm.Alike t.vm → post u → B u t → H.size ≤ H1.size → (∀ q : Nat, q < H.size → ¬ A1 q → H1[q]? = H[q]?) → va_S A0 H0 H1 locs1 → W p l e R s m args below meth c H1 locs1 (cells + mc) (slots + ms) Q (F0 m (pc + 3) ls (rest))) : W p l e R s m args below meth c H locs cells slots Q (F0 m pc ls st0) := by
  intro T hT X
  rcases hr T hT X with ⟨v, st₀, t, T', L, h0, X', hL, e1, e2, ⟨⟨u, hv, hp, hb⟩, hF⟩, st⟩ | ⟨q, st₀, t, T', L, E, ce, h0, X', hL, e1, e2, ⟨u, hp, hb, hF⟩, hce, hcv, hcl, st⟩
  · cases hv
    obtain ⟨k1, k2, k3⟩ := vx_keep h0 e1 hS hA hf hL hF
    obtain ⟨t2, a1, b1⟩ := kk u t T'.heap (locs ++ L) e1.symm (by rw [← e2]; exact X'.warmed.alike) hp hb k1 k2 k3 T' rfl X'
    exact ⟨t2, st t2 a1, b1⟩
  · obtain ⟨k1, k2, k3⟩ := vx_keep h0 e1 hS hAX hf hL hF
    obtain ⟨t2, a1, b1⟩ := kx E ce q u t T'.heap (locs ++ L) e1.symm (by rw [← e2]; exact X'.warmed.alike) hp hb k1 k2 k3 (by rw [e1]; exact hce) hcv hcl T' rfl X'
    exact ⟨t2, st.trans a1, b1⟩
/-- caught by the row x of this method's table; the rows ahead don't take it -/
theorem vx_catch {own name : String} {E : String} {ce : Cell} {q : Addr} (hown : s.vm.findClass own = some m.cls) (pre : List ExceptionTableEntry) (x : ExceptionTableEntry) (suf : List ExceptionTableEntry) (hsplit : c.exceptionTable.toList = pre ++ x :: suf)
    (hpass : ∀ z ∈ pre, covers z pc = false ∨ (z.catchType ≠ 0 ∧ ∃ nm : String, (Cond.classLink own z.catchType nm).before args s = true ∧ va_Nc E nm s)) (hx : covers x pc = true) (h0 : x.catchType ≠ 0)
    (hlink : (Cond.classLink own x.catchType name).before args s = true) (hcast : (Cond.castable E name).before args s = true) (hcell : H[q]? = some ce) (hv : ce.vm = .none) (hcl : s.vm.findClass E = some ce.cls)
    (kk : W p l e R s m args below meth c H locs cells slots Q (F0 m x.handlerPc ls [.ref q])) : vx_W p l e R s m args below meth c H locs cells slots Q (F0 m pc ls rest) q := by
  intro T hT X
  have hpl : e.platform.magicAccessors = ({} : Platform).magicAccessors := by rw [X.admits.platform]
  obtain ⟨c3, c4, hc3, hc4, hasg⟩ := Cond.castable_spec hcast
  cases Option.some.inj (hc3.symm.trans hcl)
  obtain ⟨c5, hc5, hcl5⟩ := Cond.classLink_spec hown hlink e.platform hpl
  cases Option.some.inj (hc4.symm.trans hc5)
  obtain ⟨vm', X', st⟩ := X.thenCaughtThrough q (g := F0 m pc ls rest) rfl (Steps.refl _) (by rw [hT]; exact hcell) (by rw [hv]; rfl) (by obtain ⟨k9, h9, -⟩ := Vm.findClass_spec hcl; exact ⟨k9, h9⟩) pre x suf hsplit
    (fun z hz => by
      rcases hpass z hz with h | ⟨hz0, nm, hl1, hn1⟩
      · exact Or.inl h
      · obtain ⟨c6, hc6, hcl6⟩ := Cond.classLink_spec hown hl1 e.platform hpl
        obtain ⟨a8, b8, h1, h2, h3⟩ := hn1
        cases Option.some.inj (h1.symm.trans hcl)
        cases Option.some.inj (h2.symm.trans hc6)
        exact Or.inr ⟨hz0, _, hcl6, h3⟩) hx (Or.inr ⟨h0, c4, hcl5, hasg⟩)
  obtain ⟨t, a1, b1⟩ := kk (T.setVm vm') hT X'
  exact ⟨t, st.trans a1, b1⟩
end Rows
section Ends
variable {p : Program} {l : Launch} {e : Env} {R : Room} {s : State} {m : MethodId} {args : Array Value} {below : List Frame} {meth : Method} {c : Code} {H : Heap} {locs : List Loc} {cells slots : Nat} {Q : State → Prop}
variable {mc ms : Nat} {free : Addr → Prop} {A0 A1 : Nat → Prop} {H0 : Heap} {a : Array Value} {ls : Array Slot} {st0 rest : List Value}
variable {Qc : Array Value → State → Outcome → State → Prop} {XC : String → State → State → Prop}
/-- what a body that may throw owes at its end -/
def vx_MQ (below : List Frame) (Qc : Array Value → State → Outcome → State → Prop) (XC : String → State → State → Prop) (a : Array Value) (s : State) (mc ms : Nat) (free : Addr → Prop) : State → Prop := fun t =>
  ∃ o, t.status = .running ∧ Ended t below o ∧ vx_Q Qc XC mc ms free a s o t
theorem vx_ret {g : JFrame} {mc ms : Nat} (k : W p l e R s m args below meth c H locs cells slots (MQ below Qc args s mc ms free) g) : W p l e R s m args below meth c H locs cells slots (vx_MQ below Qc XC args s mc ms free) g := by
  intro T hT X
  obtain ⟨t, a1, o, b1, b2, b3, b4⟩ := k T hT X
  exact ⟨t, a1, o, b1, b2, Or.inl ⟨b3, b4⟩⟩
/-- not caught here: it goes on to the caller -/
theorem vx_widen {g : JFrame} {q : Addr} {k n : Nat} (h1 : cells ≤ k) (h2 : slots ≤ n) (kk : vx_W p l e R s m args below meth c H locs k n Q g q) : vx_W p l e R s m args below meth c H locs cells slots Q g q := fun T hT X => kk T hT (stand_widen X h1 h2)
theorem vx_out {pc : Nat} {E : String} {ce : Cell} {q : Addr} {mc ms : Nat} (hout : ∀ x ∈ c.exceptionTable.toList, covers x pc = false) (hlocks : meth.locks = false) (hcell : H[q]? = some ce) (hv : ce.vm = .none) (hcl : s.vm.findClass E = some ce.cls)
    (hx : ∀ t : State, t.heap = H → s.vm.Alike t.vm → XC E s t) (hf : ∀ z ∈ locs, free z.base) (hc : cells ≤ mc) (hs : slots ≤ ms) :
    vx_W p l e R s m args below meth c H locs cells slots (vx_MQ below Qc XC args s mc ms free) (F0 m pc ls rest) q := by
  intro T hT X
  obtain ⟨st1, hrun, hend, hW, hsm⟩ := X.leaveThrown q (g := F0 m pc ls rest) rfl rfl rfl hout hlocks
  have hcell9 : (T.setFrames (.throwing q :: below)).heap[q]? = some ce := by
    show T.heap[q]? = some ce
    rw [hT]; exact hcell
  exact ⟨_, st1, .threw q, hrun, hend, Or.inr ⟨q, rfl, E, ce, locs, hx _ hT hW.alike, hcell9, hv, hcl, hW, hsm.mono hc hs, hf⟩⟩
theorem vx_frame {U : State} {k n : Nat} (h : s.sameButNew ({ U with vm := s.vm } : State) locs k n) : s.heap.size ≤ U.heap.size ∧ ∀ q : Nat, q < s.heap.size → (∀ z ∈ locs, z.base ≠ q) → U.heap[q]? = s.heap[q]? := by
  obtain ⟨-, h2, -, -, -, h6⟩ := h
  refine ⟨h2, fun q hq hz => ?_⟩
  obtain ⟨c9, e1, e2, e3, e4⟩ := h6 q _ (Array.getElem?_eq_getElem hq)
  have hs : c9.slots = (s.heap[q]).slots := Array.ext_getElem? fun i => e4 i fun hm => hz _ hm rfl
  have h9 : c9 = s.heap[q] := by
    rw [hs] at e2
    exact e2
  have e5 : U.heap[q]? = some c9 := e1
  rw [e5, h9, Array.getElem?_eq_getElem hq]
/-- the words of a throw but the four that speak of the heap -/
def vx_no (w : Cond) : Bool := decide (w ≠ .isRef (.static Bundle.tN "UNASSIGNED_STACK" Bundle.steD)) && decide (w ≠ .isRef (.static Bundle.tN "SUPPRESSED_SENTINEL" Bundle.listD)) && decide (w ≠ .laysStatic Bundle.tN "UNASSIGNED_STACK" Bundle.steD) && decide (w ≠ .laysStatic Bundle.tN "SUPPRESSED_SENTINEL" Bundle.listD)
def vx_at0 (own : String) (ic : Nat) (X : String) (names : List String) : List Cond := (Bundle.ownAtoms0 own ic X names).filter vx_no
def vx_atS (own : String) (ic : Nat) (X : String) (names : List String) : List Cond := (Bundle.ownAtoms own ic X names).filter vx_no
/-- a word that the tables alone decide, or a good one -/
def vx_ot (w : Cond) : Bool := w.onTables || goodWord w
theorem vx_ot_at {args a' : Array Value} {s U : State} {w : Cond} (hW : s.WarmedH U.vm) (hvm : s.vm = U.vm) (hg : vx_ot w = true) (h : w.before args s = true) : w.before a' U = true := by
  simp only [vx_ot, Bool.or_eq_true] at hg
  rcases hg with hg | hg
  · exact va_tabs hg hvm h
  · exact word_at hW (good_of_word hg) h
/-- a list's words: the good ones out of the method's own list, the others by premises of their own -/
theorem vx_hat {args : Array Value} {s : State} {L B : List Cond} (h1 : ∀ w ∈ L.filter goodWord, w.before args s = true) (h2 : ∀ w ∈ L.filter (fun w => !goodWord w), w ∈ B) (h3 : ∀ w ∈ B, w.before args s = true) : ∀ w ∈ L, w.before args s = true := by
  intro w hw
  by_cases g : goodWord w = true
  · exact h1 w (List.mem_filter.mpr ⟨hw, g⟩)
  · refine h3 w (h2 w (List.mem_filter.mpr ⟨hw, ?_⟩))
    show (!goodWord w) = true
    cases hgw : goodWord w
    · rfl
    · exact absurd hgw g
theorem vx_c {args : Array Value} {s : State} {w : Cond} {B : List Cond} (h : w.before args s = true) (t : ∀ w ∈ B, w.before args s = true) : ∀ w' ∈ w :: B, w'.before args s = true := fun w' h' => (List.mem_cons.mp h').elim (fun e => by rw [e]; exact h) (t w')
theorem vx_n {args : Array Value} {s : State} : ∀ w ∈ ([] : List Cond), w.before args s = true := fun _ h => nomatch h
theorem vx_own {args : Array Value} {s : State} {L : List Cond} (h1 : ∀ w ∈ L.filter vx_no, w.before args s = true)
    (hU : (Cond.isRef (.static Bundle.tN "UNASSIGNED_STACK" Bundle.steD)).before args s = true) (hN : (Cond.isRef (.static Bundle.tN "SUPPRESSED_SENTINEL" Bundle.listD)).before args s = true)
    (lU : (Cond.laysStatic Bundle.tN "UNASSIGNED_STACK" Bundle.steD).before args s = true) (lN : (Cond.laysStatic Bundle.tN "SUPPRESSED_SENTINEL" Bundle.listD).before args s = true) : ∀ w ∈ L, w.before args s = true := by
  intro w hw
  by_cases e1 : w = .isRef (.static Bundle.tN "UNASSIGNED_STACK" Bundle.steD)
  · rw [e1]; exact hU
  · by_cases e2 : w = .isRef (.static Bundle.tN "SUPPRESSED_SENTINEL" Bundle.listD)
    · rw [e2]; exact hN
    · by_cases e3 : w = .laysStatic Bundle.tN "UNASSIGNED_STACK" Bundle.steD
      · rw [e3]; exact lU
      · by_cases e4 : w = .laysStatic Bundle.tN "SUPPRESSED_SENTINEL" Bundle.listD
        · rw [e4]; exact lN
        · exact h1 w (List.mem_filter.mpr ⟨hw, by unfold vx_no; rw [decide_eq_true e1, decide_eq_true e2, decide_eq_true e3, decide_eq_true e4]; rfl⟩)
/-- where a static field lies, its class's statics cell in H -/
def vx_L (C n d : String) (A : Nat → Prop) (U : State) (H : Heap) : Prop := ∃ (c : ClassId) (k : Class) (i : Nat) (f : Field) (a : Nat) (cell : Cell), U.vm.findClass C = some c ∧ U.fieldFound? C n d = some (c, k, i, f) ∧ f.isStatic = true ∧ k.statics = some a ∧ H[a]? = some cell ∧ cell.vm.isStatics = true ∧ cell.cls = c ∧ f.slot < cell.slots.size ∧ k.staticTypes[f.slot]? = some f.type ∧ ¬ A a
theorem vx_L.moved {C n d : String} {A : Nat → Prop} {u U : State} {H : Heap} (hvm : u.vm.Alike U.vm) (h : vx_L C n d A u H) : vx_L C n d A U H := by
  obtain ⟨c, k, i, f, a, cell, h1, h2, h3, h4, h5, h6, h7, h8, h9, h10⟩ := h
  obtain ⟨k', hi', he⟩ := State.fieldFound?_setVm hvm h2
  exact ⟨c, k', i, f, a, cell, by rw [hvm.findClass]; exact h1, hi', h3, by rw [he]; exact h4, h5, h6, h7, h8, by rw [he]; exact h9, h10⟩
theorem vx_L.kept {C n d : String} {A : Nat → Prop} {U : State} {H H1 : Heap} (h : vx_L C n d A U H) (hq : ∀ a : Nat, a < H.size → ¬ A a → H1[a]? = H[a]?) : vx_L C n d A U H1 := by
  obtain ⟨c, k, i, f, a, cell, h1, h2, h3, h4, h5, h6, h7, h8, h9, h10⟩ := h
  exact ⟨c, k, i, f, a, cell, h1, h2, h3, h4, by rw [hq a (Array.getElem?_eq_some_iff.mp h5).1 h10]; exact h5, h6, h7, h8, h9, h10⟩
theorem vx_L.narrow {C n d : String} {A B : Nat → Prop} {U : State} {H : Heap} (h : vx_L C n d A U H) (hAB : ∀ q, B q → A q) : vx_L C n d B U H := by
  obtain ⟨c, k, i, f, a, cell, h1, h2, h3, h4, h5, h6, h7, h8, h9, h10⟩ := h
  exact ⟨c, k, i, f, a, cell, h1, h2, h3, h4, h5, h6, h7, h8, h9, fun z => h10 (hAB _ z)⟩
theorem vx_L.word {C n d : String} {A : Nat → Prop} {s : State} {args : Array Value} (h : vx_L C n d A s s.heap) : (Cond.laysStatic C n d).before args s = true := by
  obtain ⟨c, k, i, f, a, cell, h1, h2, h3, h4, h5, h6, h7, h8, h9, -⟩ := h
  show (Cond.laysStatic C n d).holds args s none s [] = true
  exact Cond.laysStatic_of h1 h2 h3 h4 h5 h6 h7 h8 h9
/-- .. and what it holds: null or some reference -/
def vx_Zq (C n d : String) (A : Nat → Prop) (U : State) (H : Heap) : Prop := va_Zq C n d A U H ∧ vx_L C n d A U H
theorem vx_Zq.moved {C n d : String} {A : Nat → Prop} {u U : State} {H : Heap} (hvm : u.vm.Alike U.vm) (h : vx_Zq C n d A u H) : vx_Zq C n d A U H := ⟨va_Zq.moved hvm h.1, vx_L.moved hvm h.2⟩
theorem vx_Zq.kept {C n d : String} {A : Nat → Prop} {U : State} {H H1 : Heap} (h : vx_Zq C n d A U H) (hq : ∀ a : Nat, a < H.size → ¬ A a → H1[a]? = H[a]?) : vx_Zq C n d A U H1 := ⟨va_Zq.kept h.1 hq, vx_L.kept h.2 hq⟩
theorem vx_Zq.narrow {C n d : String} {A B : Nat → Prop} {U : State} {H : Heap} (h : vx_Zq C n d A U H) (hAB : ∀ q, B q → A q) : vx_Zq C n d B U H := ⟨va_Zq.narrow h.1 hAB, vx_L.narrow h.2 hAB⟩
theorem vx_Zqof {args : Array Value} {s : State} {C n d : String} {A : Nat → Prop} (hl : (Cond.laysStatic C n d).before args s = true) (hini : (Cond.initialized C).before args s = true) (h : (Cond.isRef (.static C n d)).before args s = true) (hA : ∀ a : Nat, a < s.heap.size → ¬ A a) : vx_Zq C n d A s s.heap := by
  refine ⟨va_Zqof hl hini h hA, ?_⟩
  obtain ⟨c, k, i, f, a, cell, h1, h2, h3, h4, h5, h6, h7, h8, h9⟩ := Cond.laysStatic_spec hl
  exact ⟨c, k, i, f, a, cell, h1, h2, h3, h4, h5, h6, h7, h8, h9, hA a (Array.getElem?_eq_some_iff.mp h5).1⟩
theorem vx_isRef {C n d : String} {v : Value} {A : Nat → Prop} {s : State} {args : Array Value} (h : va_Z C n d v A s s.heap) (hv : v.isRef = true) : (Cond.isRef (.static C n d)).before args s = true := by
  obtain ⟨cf, kf, fi, f, a, cell, h1, h2, h3, h4, h5, h6, h7, -⟩ := h
  have he : (Term.static C n d).eval args s none [] s = some v := by
    simp [Term.eval, State.fieldNamed?, h1, h2, h4, h5, h6, h7]
  simp only [Cond.before, Cond.holds, Cond.value, he]
  cases v <;> simp_all [Value.isRef]
theorem vx_isRefq {C n d : String} {A : Nat → Prop} {s : State} {args : Array Value} (h : va_Zq C n d A s s.heap) : (Cond.isRef (.static C n d)).before args s = true := by
  rcases h with h | ⟨t, h⟩
  · exact vx_isRef h rfl
  · exact vx_isRef h rfl
/-- the same frame, seen from here: as if the method were called anew in this heap -/
theorem vx_rebase {T : State} (X : Stand p l e R s m args below meth c T locs cells slots) {R' : Room} (hf : R'.frames ≤ R.frames) (hl : R'.locals ≤ R.locals) (hc : cells + R'.cells ≤ R.cells) (hs : slots + R'.slots ≤ R.slots) :
    Stand p l e R' ((T.setVm s.vm).setFrames (.invoking m args :: below)) m args below meth c T [] 0 0 := by
  have htop : (T.setVm s.vm).topJava?.isSome := X.here.top
  have hF : ((T.setVm s.vm).setFrames (.invoking m args :: below)).frames = .invoking m args :: below := State.frames_setFrames _ (State.cur_lt_of_top htop)
  obtain ⟨g₀, hg0⟩ := Option.isSome_iff_exists.mp htop
  obtain ⟨r, hr⟩ := State.topJava?_eq_some.mp hg0
  have hl9 : e.platform.stackLimits (T.setVm s.vm).me = e.platform.stackLimits s.me := X.limits
  have hb9 : (T.setVm s.vm).me.stackBytes = s.me.stackBytes := X.bytes
  refine ⟨X.admits, X.cas, X.clock, hF, ?_, X.hears, X.method, X.code, X.here, X.tail, X.warmed, ?_, ?_, ?_⟩
  · have h := X.room
    have hU : ((T.setVm s.vm).setFrames (.invoking m args :: below)).localsInUse = s.localsInUse := by
      rw [State.localsInUse_invoking hF (meth := meth) (c := c) X.method X.code, State.localsInUse_invoking X.frames X.method X.code]
    simp only [State.hasRoom, Bool.and_eq_true, decide_eq_true_eq] at h ⊢
    obtain ⟨⟨⟨⟨h1, h2, h3, h4, h5, h6⟩, h7⟩, h8⟩, h9⟩ := h
    rw [X.frames, List.length_cons] at h2 h3
    have q1 := X.heapSize
    have q2 := X.used
    simp only [hF, hU, List.length_cons, State.stackLimits_setFrames, State.stackBytes_setFrames, hl9, hb9]
    refine ⟨⟨⟨⟨by omega, by omega, by omega, by omega, by omega, h6⟩, ?_⟩, ?_⟩, X.book⟩
    · show T.heap.size + R'.cells ≤ e.platform.maxCells
      omega
    · show T.slotsUsed + R'.slots ≤ e.platform.maxSlots
      omega
  · rw [State.stackLimits_setFrames]; rfl
  · rw [State.stackBytes_setFrames]; rfl
  · refine ⟨?_, Nat.le_refl _, Nat.le_refl _, ?_, ?_, fun a c9 h9 => ⟨c9, h9, rfl, rfl, fun _ _ => rfl⟩⟩
    · obtain ⟨t, ht, -⟩ := State.frames_cons hr
      show T.setVm s.vm = { ((T.setVm s.vm).setFrames (.invoking m args :: below)).setFrames (T.setVm s.vm).frames with heap := T.heap, slotsUsed := T.slotsUsed }
      rw [State.setFrames_setFrames, State.setFrames_self ht]
      rfl
    · show T.slotsUsed = T.slotsUsed + ((T.heap.toList.drop T.heap.size).map (·.slots.size)).sum
      rw [List.drop_eq_nil_of_le (Nat.le_of_eq Array.length_toList)]
      rfl
    · show ((T.heap.toList.drop T.heap.size).map (·.slots.size)).sum ≤ 0
      rw [List.drop_eq_nil_of_le (Nat.le_of_eq Array.length_toList)]
      exact Nat.le_refl _
/-- 'throw new E()': new; dup; invokespecial; athrow -/
theorem vx_throw0 {cc : ByteArray} {pc : Nat} (hexec : p.tables.exec = Jvm.exec) (hb : c.code = cc) (hl : l.stackTraces = false) {own cls : String} {names : List String} {ik ic mc ms : Nat} {A : Nat → Prop}
    (hown : s.vm.findClass own = some m.cls) (hcls : Bundle.fit cls = true) (hnames : ∀ n ∈ names, Bundle.fit n = true)
    (hk : (Cond.classLink own ik cls).before args s = true) (hini : (Cond.initialized cls).before args s = true) (hat : ∀ w ∈ vx_at0 own ic cls names, w.before args s = true)
    (hgood : ∀ w ∈ Cond.classLink own ik cls :: Cond.initialized cls :: vx_at0 own ic cls names, vx_ot w = true)
    (hU : vx_Zq Bundle.tN "UNASSIGNED_STACK" Bundle.steD A s s.heap) (hN : vx_Zq Bundle.tN "SUPPRESSED_SENTINEL" Bundle.listD A s s.heap) (hS : va_S A s.heap H locs) (hsize : ls.size = c.maxLocals)
    (d0 : decode cc pc = .ok (.new ik, 3)) (d3 : decode cc (pc + 3) = .ok (.dup, 1)) (d4 : decode cc (pc + 4) = .ok (.invokespecial ic, 3)) (d7 : decode cc (pc + 7) = .ok (.athrow, 1))
    (hout : ∀ x ∈ c.exceptionTable.toList, covers x (pc + 7) = false)
    (hRframes : names.length + 3 < R.frames) (hRlocals : (rest.map fun v => v.category).sum + (13 * (names.length + 1) + 42) ≤ R.locals) (hRcells : cells + 1 ≤ R.cells) (hRslots : slots + 6 ≤ R.slots) (hlocks : meth.locks = false)
    (hx : ∀ t : State, s.vm.Alike t.vm → H.size ≤ t.heap.size → (∀ q : Nat, q < H.size → t.heap[q]? = H[q]?) → XC cls s t)
    (hf : ∀ z ∈ locs, free z.base) (hc : cells + 1 ≤ mc) (hs : slots + 6 ≤ ms) :
    W p l e R s m args below meth c H locs cells slots (vx_MQ below Qc XC args s mc ms free) (F0 m pc ls rest) := by
  intro T hT X
  have htr : e.platform.stackTraces = false := (show e.platform.stackTraces = l.stackTraces by rw [X.admits.platform]).trans hl
  have Y := vx_rebase X (R' := { frames := R.frames, locals := R.locals, cells := 1, slots := 6 }) (Nat.le_refl _) (Nat.le_refl _) hRcells hRslots
  obtain ⟨s', hA⟩ : ∃ z, z = (T.setVm s.vm).setFrames (.invoking m args :: below) := ⟨_, rfl⟩
  rw [← hA] at Y
  have hvm : s'.vm = s.vm := by rw [hA]; rfl
  have hhp : s'.heap = H := by rw [hA]; exact hT
  have hW0 : s.WarmedH s'.vm := by rw [hvm]; exact State.WarmedH.refl s
  have hat' : ∀ w ∈ vx_at0 own ic cls names, w.before args s' = true := fun w hw => vx_ot_at hW0 hvm.symm (hgood w (List.mem_cons_of_mem _ (List.mem_cons_of_mem _ hw))) (hat w hw)
  have hk' : (Cond.classLink own ik cls).before args s' = true := vx_ot_at hW0 hvm.symm (hgood _ List.mem_cons_self) hk
  have hini' : (Cond.initialized cls).before args s' = true := vx_ot_at hW0 hvm.symm (hgood _ (List.mem_cons_of_mem _ List.mem_cons_self)) hini
  have hU' : vx_Zq Bundle.tN "UNASSIGNED_STACK" Bundle.steD A s' s'.heap := by rw [hhp]; exact vx_Zq.moved hW0.alike (hU.kept hS.2.1)
  have hN' : vx_Zq Bundle.tN "SUPPRESSED_SENTINEL" Bundle.listD A s' s'.heap := by rw [hhp]; exact vx_Zq.moved hW0.alike (hN.kept hS.2.1)
  have h : ∀ w ∈ Bundle.ownAtoms0 own ic cls names, w.before args s' = true := vx_own hat' (vx_isRefq hU'.1) (vx_isRefq hN'.1) hU'.2.word hN'.2.word
  have hown' : s'.vm.findClass own = some m.cls := by rw [hvm]; exact hown
  have hins : (Cond.instantiable cls 6).before args s' = true := h _ (by simp [Bundle.ownAtoms0])
  obtain ⟨vm₁, cX, kX, hfX, hkX, -, -, X₁, st1⟩ := Y.newCold hexec (own := own) (C := cls) (index := ik) (n := 6) hown' hk' hins hini'
    (g := F0 m pc ls rest) rfl (by rw [hb]; exact d0) (Nat.le_refl _) (Nat.le_refl _)
  generalize hT1 : (T.setVm vm₁).pushCell { cls := cX, slots := kX.instanceTypes.map defaultValue, vm := .none } = T1 at X₁ st1
  have hcat : (Value.ref T.heap.size).category = 1 := rfl
  have hcellA : T1.heap[T.heap.size]? = some (freshCell cX kX) := by rw [← hT1]; exact State.heap_pushCell_size _ _
  have d3' : decode c.code (pc + 3) = .ok (.dup, 1) := by rw [hb]; exact d3
  obtain ⟨U, hsteps, hrun, hend, hW, hsame, ce, hce, hO⟩ := X₁.ctorThrow0 hexec htr (own := own) (cls := cls) (names := names) (ic := ic) hown' hcls hnames h (fun x hx => nomatch hx) hfX hkX hcellA (by rw [hhp, hT]; exact Nat.le_refl _)
    (g := { method := m, pc := pc + 4, locals := ls, stack := .ref T.heap.size :: .ref T.heap.size :: rest, locked := none }) rfl hsize rfl rfl (rest := rest) rfl
    (by rw [hb]; exact d4) (by rw [hb]; exact d7) hout hRframes (by simp only [List.map_cons, List.sum_cons, hcat]; omega) hlocks
  obtain ⟨f1, f2⟩ := vx_frame hsame
  rw [hhp] at f1 f2
  have hWs : s.WarmedH U.vm := State.WarmedH.trans hW0 hW
  have hcl : s.vm.findClass cls = some ce.cls := by
    have h9 := hO.cls
    rw [hvm] at h9
    exact h9
  have hall : s.sameButNew ({ U with vm := s.vm } : State) locs mc ms := by
    subst hA
    obtain ⟨e1, e2⟩ := hsame
    rw [State.setFrames_setFrames] at e1
    have h2 : (T.setVm s.vm).sameButNew ({ U with vm := s.vm } : State) [] (0 + 1) (0 + 6) := ⟨e1, e2⟩
    have h3 := X.same.trans h2
    rw [List.append_nil] at h3
    exact h3.mono hc hs
  refine ⟨U, ?_, .threw T.heap.size, hrun, hend, Or.inr ⟨T.heap.size, rfl, cls, ce, locs, hx U hWs.alike f1 (fun q hq => f2 q hq (fun z hz => nomatch hz)), hce, hO.vm, hcl, hWs, hall, hf⟩⟩
  refine st1 _ ?_
  show Steps p.tables e below (T1.setTop { method := m, pc := pc + 3, locals := ls, stack := .ref T.heap.size :: rest, locked := none }) _
  jvm_step X₁.here [X₁.here.top, hexec, d3', Value.category]
  exact hsteps
/-- 'throw new E("text")': new; dup; ldc; invokespecial; athrow -/
theorem vx_throwS {cc : ByteArray} {pc : Nat} (hexec : p.tables.exec = Jvm.exec) (hb : c.code = cc) (hl : l.stackTraces = false) {own cls text : String} {names : List String} {ik is ic mc ms sa : Nat} {A : Nat → Prop}
    (hown : s.vm.findClass own = some m.cls) (hcls : Bundle.fit cls = true) (hnames : ∀ n ∈ names, Bundle.fit n = true)
    (hk : (Cond.classLink own ik cls).before args s = true) (hini : (Cond.initialized cls).before args s = true) (hstr : vk_R own is text sa s) (hat : ∀ w ∈ vx_atS own ic cls names, w.before args s = true)
    (hgood : ∀ w ∈ Cond.classLink own ik cls :: Cond.initialized cls :: vx_atS own ic cls names, vx_ot w = true)
    (hU : vx_Zq Bundle.tN "UNASSIGNED_STACK" Bundle.steD A s s.heap) (hN : vx_Zq Bundle.tN "SUPPRESSED_SENTINEL" Bundle.listD A s s.heap) (hS : va_S A s.heap H locs) (hsize : ls.size = c.maxLocals)
    (d0 : decode cc pc = .ok (.new ik, 3)) (d3 : decode cc (pc + 3) = .ok (.dup, 1)) (d4 : decode cc (pc + 4) = .ok (.ldc is, 2)) (d6 : decode cc (pc + 6) = .ok (.invokespecial ic, 3)) (d9 : decode cc (pc + 9) = .ok (.athrow, 1))
    (hout : ∀ x ∈ c.exceptionTable.toList, covers x (pc + 9) = false)
    (hRframes : names.length + 3 < R.frames) (hRlocals : (rest.map fun v => v.category).sum + (13 * (names.length + 1) + 43) ≤ R.locals) (hRcells : cells + 1 ≤ R.cells) (hRslots : slots + 6 ≤ R.slots) (hlocks : meth.locks = false)
    (hx : ∀ t : State, s.vm.Alike t.vm → H.size ≤ t.heap.size → (∀ q : Nat, q < H.size → t.heap[q]? = H[q]?) → XC cls s t)
    (hf : ∀ z ∈ locs, free z.base) (hc : cells + 1 ≤ mc) (hs : slots + 6 ≤ ms) :
    W p l e R s m args below meth c H locs cells slots (vx_MQ below Qc XC args s mc ms free) (F0 m pc ls rest) := by
  intro T hT X
  have htr : e.platform.stackTraces = false := (show e.platform.stackTraces = l.stackTraces by rw [X.admits.platform]).trans hl
  have Y := vx_rebase X (R' := { frames := R.frames, locals := R.locals, cells := 1, slots := 6 }) (Nat.le_refl _) (Nat.le_refl _) hRcells hRslots
  obtain ⟨s', hA⟩ : ∃ z, z = (T.setVm s.vm).setFrames (.invoking m args :: below) := ⟨_, rfl⟩
  rw [← hA] at Y
  have hvm : s'.vm = s.vm := by rw [hA]; rfl
  have hhp : s'.heap = H := by rw [hA]; exact hT
  have hW0 : s.WarmedH s'.vm := by rw [hvm]; exact State.WarmedH.refl s
  have hat' : ∀ w ∈ vx_atS own ic cls names, w.before args s' = true := fun w hw => vx_ot_at hW0 hvm.symm (hgood w (List.mem_cons_of_mem _ (List.mem_cons_of_mem _ hw))) (hat w hw)
  have hk' : (Cond.classLink own ik cls).before args s' = true := vx_ot_at hW0 hvm.symm (hgood _ List.mem_cons_self) hk
  have hini' : (Cond.initialized cls).before args s' = true := vx_ot_at hW0 hvm.symm (hgood _ (List.mem_cons_of_mem _ List.mem_cons_self)) hini
  have hU' : vx_Zq Bundle.tN "UNASSIGNED_STACK" Bundle.steD A s' s'.heap := by rw [hhp]; exact vx_Zq.moved hW0.alike (hU.kept hS.2.1)
  have hN' : vx_Zq Bundle.tN "SUPPRESSED_SENTINEL" Bundle.listD A s' s'.heap := by rw [hhp]; exact vx_Zq.moved hW0.alike (hN.kept hS.2.1)
  have h : ∀ w ∈ Bundle.ownAtoms own ic cls names, w.before args s' = true := vx_own hat' (vx_isRefq hU'.1) (vx_isRefq hN'.1) hU'.2.word hN'.2.word
  have hown' : s'.vm.findClass own = some m.cls := by rw [hvm]; exact hown
  have hins : (Cond.instantiable cls 6).before args s' = true := h _ (by simp [Bundle.ownAtoms])
  obtain ⟨vm₁, cX, kX, hfX, hkX, -, -, X₁, st1⟩ := Y.newCold hexec (own := own) (C := cls) (index := ik) (n := 6) hown' hk' hins hini'
    (g := F0 m pc ls rest) rfl (by rw [hb]; exact d0) (Nat.le_refl _) (Nat.le_refl _)
  generalize hT1 : (T.setVm vm₁).pushCell { cls := cX, slots := kX.instanceTypes.map defaultValue, vm := .none } = T1 at X₁ st1
  have hcat : (Value.ref T.heap.size).category = 1 := rfl
  have hcellA : T1.heap[T.heap.size]? = some (freshCell cX kX) := by rw [← hT1]; exact State.heap_pushCell_size _ _
  have d3' : decode c.code (pc + 3) = .ok (.dup, 1) := by rw [hb]; exact d3
  have d4' : decode c.code (pc + 4) = .ok (.ldc is, 2) := by rw [hb]; exact d4
  have hstr' : vk_R own is text sa s' := vk_R.warm hW0 hstr
  obtain ⟨U, hsteps, hrun, hend, hW, hsame, ce, hce, hO⟩ := X₁.ctorThrowS hexec htr (own := own) (cls := cls) (names := names) (ic := ic) hown' hcls hnames h (fun x hx => nomatch hx) hfX hkX hcellA (by rw [hhp, hT]; exact Nat.le_refl _) (msg := .ref sa) rfl
    (g := { method := m, pc := pc + 6, locals := ls, stack := .ref sa :: .ref T.heap.size :: .ref T.heap.size :: rest, locked := none }) rfl hsize rfl rfl (rest := rest) rfl
    (by rw [hb]; exact d6) (by rw [hb]; exact d9) hout hRframes (by simp only [List.map_cons, List.sum_cons, hcat]; omega) hlocks
  obtain ⟨f1, f2⟩ := vx_frame hsame
  rw [hhp] at f1 f2
  have hWs : s.WarmedH U.vm := State.WarmedH.trans hW0 hW
  have hcl : s.vm.findClass cls = some ce.cls := by
    have h9 := hO.cls
    rw [hvm] at h9
    exact h9
  have hall : s.sameButNew ({ U with vm := s.vm } : State) locs mc ms := by
    subst hA
    obtain ⟨e1, e2⟩ := hsame
    rw [State.setFrames_setFrames] at e1
    have h2 : (T.setVm s.vm).sameButNew ({ U with vm := s.vm } : State) [] (0 + 1) (0 + 6) := ⟨e1, e2⟩
    have h3 := X.same.trans h2
    rw [List.append_nil] at h3
    exact h3.mono hc hs
  refine ⟨U, ?_, .threw T.heap.size, hrun, hend, Or.inr ⟨T.heap.size, rfl, cls, ce, locs, hx U hWs.alike f1 (fun q hq => f2 q hq (fun z hz => nomatch hz)), hce, hO.vm, hcl, hWs, hall, hf⟩⟩
  refine st1 _ ?_
  show Steps p.tables e below (T1.setTop { method := m, pc := pc + 3, locals := ls, stack := .ref T.heap.size :: rest, locked := none }) _
  jvm_step X₁.here [X₁.here.top, hexec, d3', Value.category]
  exact X₁.ldcString hexec (own := own) (text := text) (index := is) (a := sa) hown' hstr'.1 hstr'.2
    (g := { method := m, pc := pc + 4, locals := ls, stack := .ref T.heap.size :: .ref T.heap.size :: rest, locked := none }) rfl d4' _ hsteps
/-- 'throw new E("text")', the text by a wide index -/
theorem vx_throwSW {cc : ByteArray} {pc : Nat} (hexec : p.tables.exec = Jvm.exec) (hb : c.code = cc) (hl : l.stackTraces = false) {own cls text : String} {names : List String} {ik is ic mc ms sa : Nat} {A : Nat → Prop}
    (hown : s.vm.findClass own = some m.cls) (hcls : Bundle.fit cls = true) (hnames : ∀ n ∈ names, Bundle.fit n = true)
    (hk : (Cond.classLink own ik cls).before args s = true) (hini : (Cond.initialized cls).before args s = true) (hstr : vk_R own is text sa s) (hat : ∀ w ∈ vx_atS own ic cls names, w.before args s = true)
    (hgood : ∀ w ∈ Cond.classLink own ik cls :: Cond.initialized cls :: vx_atS own ic cls names, vx_ot w = true)
    (hU : vx_Zq Bundle.tN "UNASSIGNED_STACK" Bundle.steD A s s.heap) (hN : vx_Zq Bundle.tN "SUPPRESSED_SENTINEL" Bundle.listD A s s.heap) (hS : va_S A s.heap H locs) (hsize : ls.size = c.maxLocals)
    (d0 : decode cc pc = .ok (.new ik, 3)) (d3 : decode cc (pc + 3) = .ok (.dup, 1)) (d4 : decode cc (pc + 4) = .ok (.ldc_w is, 3)) (d7 : decode cc (pc + 7) = .ok (.invokespecial ic, 3)) (d10 : decode cc (pc + 10) = .ok (.athrow, 1))
    (hout : ∀ x ∈ c.exceptionTable.toList, covers x (pc + 10) = false)
    (hRframes : names.length + 3 < R.frames) (hRlocals : (rest.map fun v => v.category).sum + (13 * (names.length + 1) + 43) ≤ R.locals) (hRcells : cells + 1 ≤ R.cells) (hRslots : slots + 6 ≤ R.slots) (hlocks : meth.locks = false)
    (hx : ∀ t : State, s.vm.Alike t.vm → H.size ≤ t.heap.size → (∀ q : Nat, q < H.size → t.heap[q]? = H[q]?) → XC cls s t)
    (hf : ∀ z ∈ locs, free z.base) (hc : cells + 1 ≤ mc) (hs : slots + 6 ≤ ms) :
    W p l e R s m args below meth c H locs cells slots (vx_MQ below Qc XC args s mc ms free) (F0 m pc ls rest) := by
  intro T hT X
  have htr : e.platform.stackTraces = false := (show e.platform.stackTraces = l.stackTraces by rw [X.admits.platform]).trans hl
  have Y := vx_rebase X (R' := { frames := R.frames, locals := R.locals, cells := 1, slots := 6 }) (Nat.le_refl _) (Nat.le_refl _) hRcells hRslots
  obtain ⟨s', hA⟩ : ∃ z, z = (T.setVm s.vm).setFrames (.invoking m args :: below) := ⟨_, rfl⟩
  rw [← hA] at Y
  have hvm : s'.vm = s.vm := by rw [hA]; rfl
  have hhp : s'.heap = H := by rw [hA]; exact hT
  have hW0 : s.WarmedH s'.vm := by rw [hvm]; exact State.WarmedH.refl s
  have hat' : ∀ w ∈ vx_atS own ic cls names, w.before args s' = true := fun w hw => vx_ot_at hW0 hvm.symm (hgood w (List.mem_cons_of_mem _ (List.mem_cons_of_mem _ hw))) (hat w hw)
  have hk' : (Cond.classLink own ik cls).before args s' = true := vx_ot_at hW0 hvm.symm (hgood _ List.mem_cons_self) hk
  have hini' : (Cond.initialized cls).before args s' = true := vx_ot_at hW0 hvm.symm (hgood _ (List.mem_cons_of_mem _ List.mem_cons_self)) hini
  have hU' : vx_Zq Bundle.tN "UNASSIGNED_STACK" Bundle.steD A s' s'.heap := by rw [hhp]; exact vx_Zq.moved hW0.alike (hU.kept hS.2.1)
  have hN' : vx_Zq Bundle.tN "SUPPRESSED_SENTINEL" Bundle.listD A s' s'.heap := by rw [hhp]; exact vx_Zq.moved hW0.alike (hN.kept hS.2.1)
  have h : ∀ w ∈ Bundle.ownAtoms own ic cls names, w.before args s' = true := vx_own hat' (vx_isRefq hU'.1) (vx_isRefq hN'.1) hU'.2.word hN'.2.word
  have hown' : s'.vm.findClass own = some m.cls := by rw [hvm]; exact hown
  have hins : (Cond.instantiable cls 6).before args s' = true := h _ (by simp [Bundle.ownAtoms])
  obtain ⟨vm₁, cX, kX, hfX, hkX, -, -, X₁, st1⟩ := Y.newCold hexec (own := own) (C := cls) (index := ik) (n := 6) hown' hk' hins hini'
    (g := F0 m pc ls rest) rfl (by rw [hb]; exact d0) (Nat.le_refl _) (Nat.le_refl _)
  generalize hT1 : (T.setVm vm₁).pushCell { cls := cX, slots := kX.instanceTypes.map defaultValue, vm := .none } = T1 at X₁ st1
  have hcat : (Value.ref T.heap.size).category = 1 := rfl
  have hcellA : T1.heap[T.heap.size]? = some (freshCell cX kX) := by rw [← hT1]; exact State.heap_pushCell_size _ _
  have d3' : decode c.code (pc + 3) = .ok (.dup, 1) := by rw [hb]; exact d3
  have d4' : decode c.code (pc + 4) = .ok (.ldc_w is, 3) := by rw [hb]; exact d4
  have hstr' : vk_R own is text sa s' := vk_R.warm hW0 hstr
  obtain ⟨U, hsteps, hrun, hend, hW, hsame, ce, hce, hO⟩ := X₁.ctorThrowS hexec htr (own := own) (cls := cls) (names := names) (ic := ic) hown' hcls hnames h (fun x hx => nomatch hx) hfX hkX hcellA (by rw [hhp, hT]; exact Nat.le_refl _) (msg := .ref sa) rfl
    (g := { method := m, pc := pc + 7, locals := ls, stack := .ref sa :: .ref T.heap.size :: .ref T.heap.size :: rest, locked := none }) rfl hsize rfl rfl (rest := rest) rfl
    (by rw [hb]; exact d7) (by rw [hb]; exact d10) hout hRframes (by simp only [List.map_cons, List.sum_cons, hcat]; omega) hlocks
  obtain ⟨f1, f2⟩ := vx_frame hsame
  rw [hhp] at f1 f2
  have hWs : s.WarmedH U.vm := State.WarmedH.trans hW0 hW
  have hcl : s.vm.findClass cls = some ce.cls := by
    have h9 := hO.cls
    rw [hvm] at h9
    exact h9
  have hall : s.sameButNew ({ U with vm := s.vm } : State) locs mc ms := by
    subst hA
    obtain ⟨e1, e2⟩ := hsame
    rw [State.setFrames_setFrames] at e1
    have h2 : (T.setVm s.vm).sameButNew ({ U with vm := s.vm } : State) [] (0 + 1) (0 + 6) := ⟨e1, e2⟩
    have h3 := X.same.trans h2
    rw [List.append_nil] at h3
    exact h3.mono hc hs
  refine ⟨U, ?_, .threw T.heap.size, hrun, hend, Or.inr ⟨T.heap.size, rfl, cls, ce, locs, hx U hWs.alike f1 (fun q hq => f2 q hq (fun z hz => nomatch hz)), hce, hO.vm, hcl, hWs, hall, hf⟩⟩
  refine st1 _ ?_
  show Steps p.tables e below (T1.setTop { method := m, pc := pc + 3, locals := ls, stack := .ref T.heap.size :: rest, locked := none }) _
  jvm_step X₁.here [X₁.here.top, hexec, d3', Value.category]
  exact X₁.ldcStringW hexec (own := own) (text := text) (index := is) (a := sa) hown' hstr'.1 hstr'.2
    (g := { method := m, pc := pc + 4, locals := ls, stack := .ref T.heap.size :: .ref T.heap.size :: rest, locked := none }) rfl d4' _ hsteps
end Ends
section Bodies
variable {l : Launch}
theorem vx_ofW {y : MethodName} {ws ws' : List Cond} {rm : Room} {Pc : Array Value → State → Prop} {Qc : Array Value → State → Outcome → State → Prop} {XC : String → State → State → Prop} {mc ms : Nat} {free : Addr → Prop} {cc : ByteArray} {maxL : Nat} {ret : Option FieldType}
    (hy : plainName y.cls = true) (hw : ws = Cond.code y cc maxL ret :: ws')
    (body : ∀ p e s m args below meth c s₁, BodyLoose p l y (headSpec ws rm) cc maxL ret e s m args below meth c s₁ → c.maxLocals = maxL → (∀ x ∈ c.exceptionTable.toList, False) → Pc args s →
      W p l e (headSpec ws rm).room s m args below meth c s.heap [] 0 0 (vx_MQ below Qc XC args s mc ms free) (entryFrame m args maxL)) : vx_Met l y ws rm Pc Qc XC mc ms free := by
  refine MetFree.of_bodyS (code := cc) (maxLocals := maxL) (ret := ret) hy ?_ ?_
  · intro args s m h hn
    obtain ⟨meth, c, h1, h2, h3, h4, h5, h6, -, -⟩ := Cond.code_spec hn (atoms_spec (ws := ws) h _ (by rw [hw]; exact List.mem_cons_self))
    exact ⟨meth, c, h1, h2, h3, h4, h5, h6⟩
  · intro p e s m args below meth c s₁ B hml hP _
    have hh0 : s₁.heap = s.heap := by rw [B.state]; rfl
    have ht : ∀ x ∈ c.exceptionTable.toList, False := by
      obtain ⟨meth9, c9, h1, h2, -, -, -, -, h7, -⟩ := Cond.code_spec B.named (atoms_spec (ws := ws) B.pre _ (by rw [hw]; exact List.mem_cons_self))
      cases Option.some.inj (h1.symm.trans B.method)
      cases Option.some.inj (h2.symm.trans (Stand.of_body B).code)
      intro x hx
      rw [Array.isEmpty_iff.mp h7] at hx
      cases hx
    obtain ⟨t, a1, o, b1, b2, b3⟩ := body p e s m args below meth c s₁ B hml ht hP s₁ hh0 (Stand.of_body B)
    exact ⟨t, o, a1, b1, b2, b3⟩
/-- the table of a body with handlers -/
theorem vx_table {p : Program} {x y : MethodName} {S : Spec} {cc bytes : ByteArray} {maxL maxL' : Nat} {ret ret' : Option FieldType} {e : Env} {s s₁ : State} {m : MethodId} {args : Array Value} {below : List Frame} {meth : Method} {c : Code} {hh : List (Nat × Nat × Nat × Nat)}
    (B : BodyLoose p l y S cc maxL ret e s m args below meth c s₁) (h : (Cond.codeWith y bytes maxL' ret' hh).before args s = true) : c.exceptionTable.toList = tableOf hh := by
  obtain ⟨m9, meth9, c9, hn9, h1, h2, -, -, h6, -⟩ := Cond.codeWith_spec h
  cases Option.some.inj (hn9.symm.trans B.named)
  cases Option.some.inj (h1.symm.trans B.method)
  cases Option.some.inj (h2.symm.trans (Stand.of_body B).code)
  rw [← h6, table_eq]
end Bodies
end VXA
/-! ===== END ===== -/
/-! ===== BEGIN a static call of a method with an exception table ===== -/
section VXS
variable {p : Program} {l : Launch} {e : Env} {R : Room} {s : State} {m : MethodId} {args : Array Value} {below : List Frame} {meth : Method} {c : Code} {T : State} {H : Heap} {locs : List Loc} {cells slots : Nat}
abbrev vx_CSW (R : Room) (s : State) (args : Array Value) (own : String) (index : Nat) (y : MethodName) (bytes : ByteArray) (maxL : Nat) (ret : Option FieldType) (hh : List (Nat × Nat × Nat × Nat)) (ws : List Cond) (rm : Room) (mc ms n : Nat) : Prop :=
  (rm.cells = mc ∧ rm.slots = ms ∧ rm.frames + 1 ≤ R.frames ∧ 8 + (maxL + 11) + rm.locals ≤ R.locals ∧ (∀ w ∈ ws, ∀ (a' : Array Value) (U : State), s.WarmedH U.vm → w.before a' U = true) ∧ Cond.codeWith y bytes maxL ret hh ∈ ws) ∧
  (Cond.codeWith y bytes maxL ret hh).before args s = true ∧ (Cond.initialized y.cls).before args s = true ∧ (y.cls ≠ "java/lang/invoke/MethodHandle" ∧ y.cls ≠ "java/lang/invoke/VarHandle") ∧
  (∀ sig, parseMethodDescriptor y.desc = some sig → n = sig.parameters.length) ∧ (Cond.methodLink own index y).before args s = true ∧ (Cond.static y).before args s = true
theorem vx_cwSW {own : String} {index maxL mc ms : Nat} {y : MethodName} {bytes : ByteArray} {ret : Option FieldType} {hh : List (Nat × Nat × Nat × Nat)} {Ts ws ws' : List Cond} {rm : Room} (n : Nat) (ht : ∀ w ∈ Ts, w.before args s = true) (hT : GoodIn Ts (va_wsS own index y ws)) (hw : ws = Cond.codeWith y bytes maxL ret hh :: ws') (hrc : rm.cells = mc) (hrs : rm.slots = ms)
    (hd : y.cls ≠ "java/lang/invoke/MethodHandle" ∧ y.cls ≠ "java/lang/invoke/VarHandle" ∧ (parseMethodDescriptor y.desc).map (fun d => d.parameters.length) = some n) (hR : rm.frames + 1 ≤ R.frames ∧ 8 + (maxL + 11) + rm.locals ≤ R.locals) :
    vx_CSW R s args own index y bytes maxL ret hh ws rm mc ms n := by
  have ok : ∀ w ∈ va_wsS own index y ws, w.before args s = true := fun w h => ht w (hT w h).1
  have hG : GoodIn Ts ws := fun w h => hT w (by unfold va_wsS; exact List.mem_append_right _ h)
  have hc : Cond.codeWith y bytes maxL ret hh ∈ ws := by rw [hw]; exact List.mem_cons_self
  refine ⟨⟨hrc, hrs, hR.1, hR.2, pay_in ht hG, hc⟩, ht _ (hG _ hc).1, ok _ (by simp [va_wsS]), ⟨hd.1, hd.2.1⟩, fun sig h => ?_, ok _ (by simp [va_wsS]), ok _ (by simp [va_wsS])⟩
  have h2 := hd.2.2
  rw [h] at h2
  exact (Option.some.inj h2).symm
theorem vx_callSW (X : Stand p l e R s m args below meth c T locs cells slots) (hexec : p.tables.exec = Jvm.exec) {own : String} {index : Nat} {y : MethodName} {bytes : ByteArray} {maxL : Nat} {ret : Option FieldType} {hh : List (Nat × Nat × Nat × Nat)}
    (hown : s.vm.findClass own = some m.cls) (hlink : (Cond.methodLink own index y).before args s = true) (hstat : (Cond.static y).before args s = true) (hinit : (Cond.initialized y.cls).before args s = true)
    (hcode : (Cond.codeWith y bytes maxL ret hh).before args s = true) (hy : y.cls ≠ "java/lang/invoke/MethodHandle" ∧ y.cls ≠ "java/lang/invoke/VarHandle")
    {W9 : Nat} {Pre : Pt → Array Value → Prop} {Post : Pt → Array Value → Option Value → Pt → Prop} (hK : Back l R p e below s args y 3 W9 Pre Post)
    {g : JFrame} (hg : g.method = m) (hsize : g.locals.size = c.maxLocals) {argsL rest : List Value} (hlen : ∀ sig, parseMethodDescriptor y.desc = some sig → argsL.length = sig.parameters.length)
    (hstack : g.stack = argsL.reverse ++ rest) (hW : 2 * g.monitorRoom + (rest.map fun v => v.category).sum ≤ W9) (hdg : decode c.code g.pc = .ok (.invokestatic index, 3))
    (hpre : ∀ vm₁, s.WarmedH vm₁ → Pre ⟨T.setVm vm₁, locs, cells, slots⟩ argsL.toArray) :
    ∃ (v : Option Value) (vm₁ : Vm) (B : Pt), s.WarmedH vm₁ ∧ Stand p l e R s m args below meth c B.U B.locs B.cells B.slots ∧ Post ⟨T.setVm vm₁, locs, cells, slots⟩ argsL.toArray v B ∧
      ∀ target, Steps p.tables e below (B.U.setTop { g with pc := g.pc + 3, stack := v.toList ++ rest }) target → Steps p.tables e below (T.setTop g) target := by
  obtain ⟨mk, methM, cM, hnamed, hmethM, -, -, -, -, -, -, hsigM⟩ := Cond.codeWith_spec hcode
  have hstatic : methM.isStatic = true := Cond.static_spec hnamed hmethM hstat
  obtain ⟨kP, hkP, -⟩ := className_of_methodNamed hnamed
  have hinitP : kP.init = .initialized := Cond.initialized_spec (findClass_of_methodNamed hnamed) hkP hinit
  obtain ⟨vm₁, X₁, hstep₁⟩ := X.invokestatic hexec hown hlink hnamed hmethM hstatic hkP hinitP hy (g := g) hg (argsL := argsL) (rest := rest) (hlen _ hsigM) hstack hdg
  obtain ⟨v, B, X', hpost, hsteps⟩ := hK m meth c ⟨T.setVm vm₁, locs, cells, slots⟩ { g with stack := rest } (.invokestatic index) mk argsL.toArray X₁ hg hsize hdg hW (X₁.named hnamed) (hpre vm₁ X₁.warmed)
  exact ⟨v, vm₁, B, X₁.warmed, X', hpost, fun target h => hstep₁ _ fun acts => by rw [doInvoke_state]; exact hsteps.trans h⟩
theorem vx_runSW {y : MethodName} {bytes cc : ByteArray} {maxL nL mc ms n index : Nat} {ret : Option FieldType} {hh : List (Nat × Nat × Nat × Nat)} {ws : List Cond} {rm : Room} {Pc : Array Value → State → Prop} {Qc : Array Value → State → Outcome → State → Prop} {free : Addr → Prop} {Ts : List Cond} {own : String} {As rest : List Value} {g : JFrame}
    (S : CallFix p m c cc nL s args Ts own) (hM : Met l y ws rm Pc Qc mc ms free) (cw : vx_CSW R s args own index y bytes maxL ret hh ws rm mc ms n) (hp : PreS s H Pc As)
    (hg : g.method = m) (hn : As.length = n) (hsize : g.locals.size = nL) (hstack : g.stack = As.reverse ++ rest) (hW : 2 * g.monitorRoom + (rest.map fun v => v.category).sum ≤ 8) (hdg : decode cc g.pc = .ok (.invokestatic index, 3)) (hf : cells + mc ≤ R.cells ∧ slots + ms ≤ R.slots) :
    va_Run p l e R s m args below meth c H locs cells slots mc ms g rest (Qc As.toArray) (free) := by
  obtain ⟨⟨hrc, hrs, hfr, hlo, hws, hcw⟩, hcode, hini, hy, hlen, hl, hstt⟩ := cw
  have hK : Back l R p e below s args y 3 8 (PreOf R mc ms Pc) (PostOf Qc mc ms free) := va_backW (hh := hh) (bytes := bytes) (maxL := maxL) (ret := ret) hM hp.1 hrc hrs hfr hlo hws hcw (fun a' U hW => word_at hW (Or.inl (by first | rfl | simp [Cond.onTables, Cond.keeps, Cond.steady])) hini)
  obtain ⟨hx, hb, hml, ho, -⟩ := S
  intro T hT X
  obtain ⟨v, vm₁, ⟨U', l2, c2, s2⟩, hW₁, X', ⟨g', mk, t, L, e1, e2, hq, h1, hL, h2, h3⟩, st⟩ := vx_callSW X hx (hh := hh) (bytes := bytes) (maxL := maxL) (ret := ret) ho hl hstt hini hcode hy hK hg (hsize.trans hml.symm) (argsL := As) (rest := rest) (fun sig h => hn.trans (hlen sig h)) hstack hW (by rw [hb]; exact hdg)
    (fun vm₁ hW₁ => ⟨hf.1, hf.2, hp.2 (T.setVm vm₁) hT hW₁⟩)
  dsimp only [Pt.U, Pt.locs, Pt.cells, Pt.slots] at X' e1 e2 h1 h2 h3 st
  subst h1; subst h2; subst h3
  exact ⟨v, (T.setVm vm₁).calling g' mk As.toArray, t, U', L, hT, X', hL, e1, e2, hq, st⟩
/-- not caught here, past rows that name other classes: it goes on to the caller -/
theorem vx_outP {p : Program} {l : Launch} {e : Env} {R : Room} {s : State} {m : MethodId} {args : Array Value} {below : List Frame} {meth : Method} {c : Code} {H : Heap} {locs : List Loc} {cells slots : Nat} {free : Addr → Prop} {ls : Array Slot} {rest : List Value} {Qc : Array Value → State → Outcome → State → Prop} {XC : String → State → State → Prop}
    {pc : Nat} {own E : String} {ce : Cell} {q : Addr} {mc ms : Nat} (hown : s.vm.findClass own = some m.cls) (hlocks : meth.locks = false)
    (hpass : ∀ z ∈ c.exceptionTable.toList, covers z pc = false ∨ (z.catchType ≠ 0 ∧ ∃ nm : String, (Cond.classLink own z.catchType nm).before args s = true ∧ va_Nc E nm s)) (hcell : H[q]? = some ce) (hv : ce.vm = .none) (hcl : s.vm.findClass E = some ce.cls)
    (hx : ∀ t : State, t.heap = H → s.vm.Alike t.vm → XC E s t) (hf : ∀ z ∈ locs, free z.base) (hc : cells ≤ mc) (hs : slots ≤ ms) :
    vx_W p l e R s m args below meth c H locs cells slots (vx_MQ below Qc XC args s mc ms free) (F0 m pc ls rest) q := by
  intro T hT X
  have hpl : e.platform.magicAccessors = ({} : Platform).magicAccessors := by rw [X.admits.platform]
  obtain ⟨vm', hW', X', st⟩ := X.outThrough hlocks q (g := F0 m pc ls rest) rfl rfl rfl (cell := ce) (by rw [hT]; exact hcell) (by rw [hv]; rfl)
    (by obtain ⟨k9, h9, -⟩ := Vm.findClass_spec hcl; exact ⟨k9, h9⟩) (fun z hz => by
      rcases hpass z hz with h | ⟨hz0, nm, hl1, hn1⟩
      · exact Or.inl h
      · obtain ⟨c6, hc6, hcl6⟩ := Cond.classLink_spec hown hl1 e.platform hpl
        obtain ⟨a8, b8, h1, h2, h3⟩ := hn1
        cases Option.some.inj (h1.symm.trans hcl)
        cases Option.some.inj (h2.symm.trans hc6)
        exact Or.inr ⟨hz0, _, hcl6, h3⟩)
  obtain ⟨g₀, hfr⟩ := X'.frames_eq
  have hcell9 : ((T.setVm vm').setFrames (.throwing q :: below)).heap[q]? = some ce := by
    show T.heap[q]? = some ce
    rw [hT]; exact hcell
  have hend : Ended ((T.setVm vm').setFrames (.throwing q :: below)) below (.threw q) := State.frames_setFrames _ (State.cur_lt_of_frames hfr)
  refine ⟨(T.setVm vm').setFrames (.throwing q :: below), ?_, .threw q, X'.here.running, hend, Or.inr ⟨q, rfl, E, ce, locs, hx _ hT (X'.ends _).1.alike, hcell9, hv, hcl, (X'.ends _).1, (X'.ends _).2.mono hc hs, hf⟩⟩
  rw [X.pushThrowing_eq]
  exact st
/-- a thing of a world lies in the heap -/
theorem vx_lt {D : va_G} {cl : List vw_C} {ws : va_W} {H1 : Heap} (h : va_P D cl ws H1) {k : Nat} {q : Nat × va_E} (hk : ws[k]? = some q) : q.1 < H1.size := (h k q hk).lt
end VXS
/-! ===== END ===== -/
/-! ===== BEGIN methods with a table of their own: called by a name, returning or throwing ===== -/
section VXH
/-! vx_backW, vx_callVX, vx_callSX, vx_callVW, vx_runVW, vx_runVX, vx_runSX, vx_ofWH follow the same proofs as their sisters above (Free/Laws.lean, Shelf42/LK1.lean); vx_outP calls Shelf42/NT130.lean (outThrough). -/
section
variable {l : Launch} {R : Room} {p : Program} {e : Env} {below : List Frame} {s : State} {sargs : Array Value} {y : MethodName} {len W9 : Nat}
theorem vx_backW {ws : List Cond} {rm : Room} {Pc : Array Value → State → Prop} {Qc : Array Value → State → Outcome → State → Prop} {XC : String → State → State → Prop} {mc ms : Nat} {free : Addr → Prop} {bytes : ByteArray} {maxL : Nat} {ret : Option FieldType} {hh : List (Nat × Nat × Nat × Nat)}
    (hM : vx_Met l y ws rm Pc Qc XC mc ms free) (hblind : FrameBlind Pc) (hrc : rm.cells = mc) (hrs : rm.slots = ms)
    (hframes : rm.frames + 1 ≤ R.frames) (hlocals : W9 + (maxL + 11) + rm.locals ≤ R.locals)
    (hws : ∀ w ∈ ws, ∀ a' U, s.WarmedH U.vm → w.before a' U = true) (hcode : Cond.codeWith y bytes maxL ret hh ∈ ws) (hinit : ∀ a' U, s.WarmedH U.vm → (Cond.initialized y.cls).before a' U = true) :
    vx_Back l R p e below s sargs y len W9 (PreOf R mc ms Pc) (PostOf Qc mc ms free) (vx_Post XC mc ms free) := by
  intro m meth c A g ig mk a X hg hsize hdg hW hn hp
  have h1 : (headSpec ws rm).pre.before a A.U = true := atoms_intro fun w hw => hws w hw _ _ X.warmed
  have h2 : (Cond.codeWith y bytes maxL ret hh).before a A.U = true := hws _ hcode _ _ X.warmed
  have h3 : (Cond.initialized y.cls).before a A.U = true := hinit _ _ X.warmed
  have h4 : A.cells + (headSpec ws rm).room.cells ≤ R.cells := by rw [show (headSpec ws rm).room.cells = mc from hrc]; exact hp.1
  have h5 : A.slots + (headSpec ws rm).room.slots ≤ R.slots := by rw [show (headSpec ws rm).room.slots = ms from hrs]; exact hp.2.1
  have hPc : Pc a (A.U.calling g mk a) := hblind _ _ _ _ hp.2.2
  obtain ⟨U, Ls, c0, s0⟩ := A
  dsimp only [Pt.U, Pt.locs, Pt.cells, Pt.slots] at h1 h2 h3 h4 h5 X hn hPc ⊢
  obtain ⟨m9, methY, cY, hn9, hmY, hcY, -, hlY, -⟩ := Cond.codeWith_spec h2
  cases Option.some.inj (hn9.symm.trans hn)
  obtain ⟨kY, hkY, -⟩ := className_of_methodNamed hn
  have hinitY : kY.init = .initialized := Cond.initialized_spec (findClass_of_methodNamed hn) hkY h3
  have h : At U g.method c below := by rw [hg]; exact X.here
  have hlocals9 : W9 + (maxL + 11) + (headSpec ws rm).room.locals ≤ R.locals := hlocals
  have happ : (headSpec ws rm).appliesLoose y e.platform (U.calling g mk a) = true :=
    Spec.appliesLoose_calling (g := g) h hdg hn hkY hinitY
      (X.room_calling (g := g) (R' := (headSpec ws rm).room) hsize hmY hcY hframes (by rw [hlY]; omega) h4 h5) h1
  obtain ⟨mid, hmid⟩ := h.above
  have hfr : (U.setTop g).frames = (.java g :: mid) ++ below := by rw [State.frames_setTop' g h.top, hmid]; rfl
  obtain ⟨o, s₂, hsteps, -, hend, hq⟩ := Steps.callFree hM p X.admits X.cas X.clock (acts := []) hfr happ hPc trivial
  have hq' : vx_Q Qc XC mc ms free a (U.calling g mk a) o s₂ := hq
  rw [State.frames_setTop' g h.top] at hend
  obtain ⟨g₀, hg0⟩ := Option.isSome_iff_exists.mp h.top
  obtain ⟨r, hr⟩ := State.topJava?_eq_some.mp hg0
  have hr' : (({ U with heap := s₂.heap, slotsUsed := s₂.slotsUsed } : State).setVm s₂.vm).frames = .java g₀ :: r := hr
  rcases hq' with ⟨hqc, L, hfe, hL⟩ | ⟨q, rfl, E, ce, L, hx, hce, hcv, hcl, hW₂, hsm, hL⟩
  · obtain ⟨⟨v, rfl⟩, hW₂, e2, q2, q3, q4, q5, q6⟩ := id hfe
    have e3 : s₂ = ({ (U.calling g mk a).setFrames s₂.frames with heap := s₂.heap, slotsUsed := s₂.slotsUsed } : State).setVm s₂.vm := by
      have : s₂ = ({ s₂ with vm := (U.calling g mk a).vm } : State).setVm s₂.vm := rfl
      rw [e2] at this
      exact this
    obtain ⟨c₂, i₂, len₂, hc₂, hd₂, hf₂⟩ := hend
    have hW' : U.WarmedH s₂.vm := hW₂
    have hcc : c₂ = c := by
      have h1 : s₂.code? g.method = U.code? g.method := by
        rw [State.code?_eq, State.code?_eq, hW'.alike.method?]
      exact Option.some.inj (hc₂.symm.trans (h1.trans h.code))
    subst hcc
    have hlen : len₂ = len := by rw [hdg] at hd₂; cases hd₂; rfl
    subst hlen
    have hs₂ : s₂ = (({ U with heap := s₂.heap, slotsUsed := s₂.slotsUsed } : State).setVm s₂.vm).setTop { g with pc := g.pc + len₂, stack := v.toList ++ g.stack } := by
      refine e3.trans ?_
      rw [hf₂, State.calling_eq h.top, State.setFrames_setFrames, State.setTop_of_frames _ hr', hr]
      rfl
    have hsame : U.sameButNew ({ U with heap := s₂.heap, slotsUsed := s₂.slotsUsed } : State) L mc ms := by
      refine ⟨?_, q2, q3, q4, q5, q6⟩
      obtain ⟨t, ht, -⟩ := State.frames_cons hr
      show ({ U with heap := s₂.heap, slotsUsed := s₂.slotsUsed } : State) = { U.setFrames U.frames with heap := s₂.heap, slotsUsed := s₂.slotsUsed }
      rw [State.setFrames_self ht]
    subst hg
    refine Or.inl ⟨v, ⟨(({ U with heap := s₂.heap, slotsUsed := s₂.slotsUsed } : State).setVm s₂.vm), Ls ++ L, c0 + mc, s0 + ms⟩,
      ⟨X.admits, X.cas, X.clock, X.frames, X.room, X.hears, X.method, X.code, (X.here.setHeapUsed s₂.heap s₂.slotsUsed).setVm hW'.alike, X.tail, State.WarmedH.trans X.warmed hW', X.limits, X.bytes, X.same.trans (hsame.setVm s.vm)⟩,
      ⟨g, mk, s₂, L, rfl, rfl, hqc, rfl, hL, rfl, rfl⟩, ?_⟩
    show Steps p.tables e below _ ((({ U with heap := s₂.heap, slotsUsed := s₂.slotsUsed } : State).setVm s₂.vm).setTop { g with pc := g.pc + len₂, stack := v.toList ++ g.stack })
    rw [← hs₂]
    exact hsteps
  · obtain ⟨e2, q2, q3, q4, q5, q6⟩ := id hsm
    have e3 : s₂ = ({ (U.calling g mk a).setFrames s₂.frames with heap := s₂.heap, slotsUsed := s₂.slotsUsed } : State).setVm s₂.vm := by
      have : s₂ = ({ s₂ with vm := (U.calling g mk a).vm } : State).setVm s₂.vm := rfl
      rw [e2] at this
      exact this
    have hf₂ : s₂.frames = .throwing q :: .java g :: U.frames.tail := hend
    have hW' : U.WarmedH s₂.vm := hW₂
    have hs₂ : s₂ = ((({ U with heap := s₂.heap, slotsUsed := s₂.slotsUsed } : State).setVm s₂.vm).setTop g).pushFrame (.throwing q) := by
      refine e3.trans ?_
      rw [hf₂, State.calling_eq h.top, State.setFrames_setFrames, State.pushFrame, State.frames_setTop _ hr', State.setTop_of_frames _ hr', State.setFrames_setFrames, hr]
      rfl
    have hsame : U.sameButNew ({ U with heap := s₂.heap, slotsUsed := s₂.slotsUsed } : State) L mc ms := by
      refine ⟨?_, q2, q3, q4, q5, q6⟩
      obtain ⟨t, ht, -⟩ := State.frames_cons hr
      show ({ U with heap := s₂.heap, slotsUsed := s₂.slotsUsed } : State) = { U.setFrames U.frames with heap := s₂.heap, slotsUsed := s₂.slotsUsed }
      rw [State.setFrames_self ht]
    subst hg
    refine Or.inr ⟨q, ⟨(({ U with heap := s₂.heap, slotsUsed := s₂.slotsUsed } : State).setVm s₂.vm), Ls ++ L, c0 + mc, s0 + ms⟩,
      ⟨X.admits, X.cas, X.clock, X.frames, X.room, X.hears, X.method, X.code, (X.here.setHeapUsed s₂.heap s₂.slotsUsed).setVm hW'.alike, X.tail, State.WarmedH.trans X.warmed hW', X.limits, X.bytes, X.same.trans (hsame.setVm s.vm)⟩,
      ⟨g, mk, s₂, L, E, ce, rfl, rfl, hx, hce, hcv, hcl, rfl, hL, rfl, rfl⟩, ?_⟩
    show Steps p.tables e below _ (((({ U with heap := s₂.heap, slotsUsed := s₂.slotsUsed } : State).setVm s₂.vm).setTop g).pushFrame (.throwing q))
    rw [← hs₂]
    exact hsteps
end
variable {p : Program} {l : Launch} {e : Env} {R : Room} {s : State} {m : MethodId} {args : Array Value} {below : List Frame} {meth : Method} {c : Code} {T : State} {H : Heap} {locs : List Loc} {cells slots : Nat}
theorem vx_callVX (X : Stand p l e R s m args below meth c T locs cells slots) (hexec : p.tables.exec = Jvm.exec) {own C : String} {index : Nat} {y : MethodName} {bytes : ByteArray} {maxL : Nat} {ret : Option FieldType} {hh : List (Nat × Nat × Nat × Nat)}
    (hown : s.vm.findClass own = some m.cls) (hlink : (Cond.methodLink own index y).before args s = true) (hinst : (Cond.instanceMethod y).before args s = true) (hsel : (Cond.selects C y y).before args s = true)
    (hcode : (Cond.codeWith y bytes maxL ret hh).before args s = true) (hy : y.cls ≠ "java/lang/invoke/MethodHandle" ∧ y.cls ≠ "java/lang/invoke/VarHandle")
    {W9 : Nat} {Pre : Pt → Array Value → Prop} {Post : Pt → Array Value → Option Value → Pt → Prop} {PostX : Pt → Array Value → Addr → Pt → Prop} (hK : vx_Back l R p e below s args y 3 W9 Pre Post PostX)
    {b : Addr} {cellB : Cell} (hcell : T.heap[b]? = some cellB) (hobj : cellB.vm.isStatics = false) (hcls : s.vm.findClass C = some cellB.cls)
    {g : JFrame} (hg : g.method = m) (hsize : g.locals.size = c.maxLocals) {argsL rest : List Value} (hlen : ∀ sig, parseMethodDescriptor y.desc = some sig → argsL.length = sig.parameters.length)
    (hstack : g.stack = argsL.reverse ++ .ref b :: rest) (hW : 2 * g.monitorRoom + (rest.map fun v => v.category).sum ≤ W9) (hdg : decode c.code g.pc = .ok (.invokevirtual index, 3))
    (hpre : ∀ vm₁, s.WarmedH vm₁ → Pre ⟨T.setVm vm₁, locs, cells, slots⟩ (Value.ref b :: argsL).toArray) :
    (∃ (v : Option Value) (vm₁ : Vm) (B : Pt), s.WarmedH vm₁ ∧ Stand p l e R s m args below meth c B.U B.locs B.cells B.slots ∧ Post ⟨T.setVm vm₁, locs, cells, slots⟩ (Value.ref b :: argsL).toArray v B ∧
      ∀ target, Steps p.tables e below (B.U.setTop { g with pc := g.pc + 3, stack := v.toList ++ rest }) target → Steps p.tables e below (T.setTop g) target) ∨
    (∃ (q : Addr) (vm₁ : Vm) (B : Pt), s.WarmedH vm₁ ∧ Stand p l e R s m args below meth c B.U B.locs B.cells B.slots ∧ PostX ⟨T.setVm vm₁, locs, cells, slots⟩ (Value.ref b :: argsL).toArray q B ∧
      Steps p.tables e below (T.setTop g) ((B.U.setTop { g with stack := rest }).pushFrame (.throwing q))) := by
  obtain ⟨mk, methM, hnamed, hmethM, hstM, habM⟩ := Cond.instanceMethod_spec hinst
  obtain ⟨m8, methM', cM, hn8, hmethM', -, -, -, -, -, -, hsigM⟩ := Cond.codeWith_spec hcode
  cases Option.some.inj (hn8.symm.trans hnamed)
  cases hmethM.symm.trans hmethM'
  obtain ⟨c2, r2, m2, q1, q2, q3, q4, kP, hkP, hkPi⟩ := Cond.selects_spec hsel
  cases hcls.symm.trans q1
  cases (State.methodFound?_of_named hnamed hy).symm.trans q2
  cases hnamed.symm.trans q3
  have hselP : selectMethod e.platform s.vm cellB.cls mk = .method mk := by rw [Launch.admits_selectMethod X.admits]; exact q4
  obtain ⟨vm₁, X₁, hstep₁⟩ := X.invokevirtual hexec hown hlink hnamed hmethM hstM hkP hkPi hy (a := b) (cell := cellB) hcell
    (fun z h => by rw [h] at hobj; cases hobj) hselP hmethM habM hkP hkPi (g := g) hg (argsL := argsL) (rest := rest) (hlen _ hsigM) hstack hdg
  rcases hK m meth c ⟨T.setVm vm₁, locs, cells, slots⟩ { g with stack := rest } (.invokevirtual index) mk (Value.ref b :: argsL).toArray X₁ hg hsize hdg hW (X₁.named hnamed) (hpre vm₁ X₁.warmed) with ⟨v, B, X', hpost, hsteps⟩ | ⟨q, B, X', hpost, hsteps⟩
  · exact Or.inl ⟨v, vm₁, B, X₁.warmed, X', hpost, fun target h => hstep₁ _ fun acts => by rw [doInvoke_state]; exact hsteps.trans h⟩
  · exact Or.inr ⟨q, vm₁, B, X₁.warmed, X', hpost, hstep₁ _ fun acts => by rw [doInvoke_state]; exact hsteps⟩
theorem vx_callSX (X : Stand p l e R s m args below meth c T locs cells slots) (hexec : p.tables.exec = Jvm.exec) {own : String} {index : Nat} {y : MethodName} {bytes : ByteArray} {maxL : Nat} {ret : Option FieldType} {hh : List (Nat × Nat × Nat × Nat)}
    (hown : s.vm.findClass own = some m.cls) (hlink : (Cond.methodLink own index y).before args s = true) (hstat : (Cond.static y).before args s = true) (hinit : (Cond.initialized y.cls).before args s = true)
    (hcode : (Cond.codeWith y bytes maxL ret hh).before args s = true) (hy : y.cls ≠ "java/lang/invoke/MethodHandle" ∧ y.cls ≠ "java/lang/invoke/VarHandle")
    {W9 : Nat} {Pre : Pt → Array Value → Prop} {Post : Pt → Array Value → Option Value → Pt → Prop} {PostX : Pt → Array Value → Addr → Pt → Prop} (hK : vx_Back l R p e below s args y 3 W9 Pre Post PostX)
    {g : JFrame} (hg : g.method = m) (hsize : g.locals.size = c.maxLocals) {argsL rest : List Value} (hlen : ∀ sig, parseMethodDescriptor y.desc = some sig → argsL.length = sig.parameters.length)
    (hstack : g.stack = argsL.reverse ++ rest) (hW : 2 * g.monitorRoom + (rest.map fun v => v.category).sum ≤ W9) (hdg : decode c.code g.pc = .ok (.invokestatic index, 3))
    (hpre : ∀ vm₁, s.WarmedH vm₁ → Pre ⟨T.setVm vm₁, locs, cells, slots⟩ argsL.toArray) :
    (∃ (v : Option Value) (vm₁ : Vm) (B : Pt), s.WarmedH vm₁ ∧ Stand p l e R s m args below meth c B.U B.locs B.cells B.slots ∧ Post ⟨T.setVm vm₁, locs, cells, slots⟩ argsL.toArray v B ∧
      ∀ target, Steps p.tables e below (B.U.setTop { g with pc := g.pc + 3, stack := v.toList ++ rest }) target → Steps p.tables e below (T.setTop g) target) ∨
    (∃ (q : Addr) (vm₁ : Vm) (B : Pt), s.WarmedH vm₁ ∧ Stand p l e R s m args below meth c B.U B.locs B.cells B.slots ∧ PostX ⟨T.setVm vm₁, locs, cells, slots⟩ argsL.toArray q B ∧
      Steps p.tables e below (T.setTop g) ((B.U.setTop { g with stack := rest }).pushFrame (.throwing q))) := by
  obtain ⟨mk, methM, cM, hnamed, hmethM, -, -, -, -, -, -, hsigM⟩ := Cond.codeWith_spec hcode
  have hstatic : methM.isStatic = true := Cond.static_spec hnamed hmethM hstat
  obtain ⟨kP, hkP, -⟩ := className_of_methodNamed hnamed
  have hinitP : kP.init = .initialized := Cond.initialized_spec (findClass_of_methodNamed hnamed) hkP hinit
  obtain ⟨vm₁, X₁, hstep₁⟩ := X.invokestatic hexec hown hlink hnamed hmethM hstatic hkP hinitP hy (g := g) hg (argsL := argsL) (rest := rest) (hlen _ hsigM) hstack hdg
  rcases hK m meth c ⟨T.setVm vm₁, locs, cells, slots⟩ { g with stack := rest } (.invokestatic index) mk argsL.toArray X₁ hg hsize hdg hW (X₁.named hnamed) (hpre vm₁ X₁.warmed) with ⟨v, B, X', hpost, hsteps⟩ | ⟨q, B, X', hpost, hsteps⟩
  · exact Or.inl ⟨v, vm₁, B, X₁.warmed, X', hpost, fun target h => hstep₁ _ fun acts => by rw [doInvoke_state]; exact hsteps.trans h⟩
  · exact Or.inr ⟨q, vm₁, B, X₁.warmed, X', hpost, hstep₁ _ fun acts => by rw [doInvoke_state]; exact hsteps⟩
theorem vx_callVW (X : Stand p l e R s m args below meth c T locs cells slots) (hexec : p.tables.exec = Jvm.exec) {own C : String} {index : Nat} {y : MethodName} {bytes : ByteArray} {maxL : Nat} {ret : Option FieldType} {hh : List (Nat × Nat × Nat × Nat)}
    (hown : s.vm.findClass own = some m.cls) (hlink : (Cond.methodLink own index y).before args s = true) (hinst : (Cond.instanceMethod y).before args s = true) (hsel : (Cond.selects C y y).before args s = true)
    (hcode : (Cond.codeWith y bytes maxL ret hh).before args s = true) (hy : y.cls ≠ "java/lang/invoke/MethodHandle" ∧ y.cls ≠ "java/lang/invoke/VarHandle")
    {W9 : Nat} {Pre : Pt → Array Value → Prop} {Post : Pt → Array Value → Option Value → Pt → Prop} (hK : Back l R p e below s args y 3 W9 Pre Post)
    {b : Addr} {cellB : Cell} (hcell : T.heap[b]? = some cellB) (hobj : cellB.vm.isStatics = false) (hcls : s.vm.findClass C = some cellB.cls)
    {g : JFrame} (hg : g.method = m) (hsize : g.locals.size = c.maxLocals) {argsL rest : List Value} (hlen : ∀ sig, parseMethodDescriptor y.desc = some sig → argsL.length = sig.parameters.length)
    (hstack : g.stack = argsL.reverse ++ .ref b :: rest) (hW : 2 * g.monitorRoom + (rest.map fun v => v.category).sum ≤ W9) (hdg : decode c.code g.pc = .ok (.invokevirtual index, 3))
    (hpre : ∀ vm₁, s.WarmedH vm₁ → Pre ⟨T.setVm vm₁, locs, cells, slots⟩ (Value.ref b :: argsL).toArray) :
    ∃ (v : Option Value) (vm₁ : Vm) (B : Pt), s.WarmedH vm₁ ∧ Stand p l e R s m args below meth c B.U B.locs B.cells B.slots ∧ Post ⟨T.setVm vm₁, locs, cells, slots⟩ (Value.ref b :: argsL).toArray v B ∧
      ∀ target, Steps p.tables e below (B.U.setTop { g with pc := g.pc + 3, stack := v.toList ++ rest }) target → Steps p.tables e below (T.setTop g) target := by
  obtain ⟨mk, methM, hnamed, hmethM, hstM, habM⟩ := Cond.instanceMethod_spec hinst
  obtain ⟨m8, methM', cM, hn8, hmethM', -, -, -, -, -, -, hsigM⟩ := Cond.codeWith_spec hcode
  cases Option.some.inj (hn8.symm.trans hnamed)
  cases hmethM.symm.trans hmethM'
  obtain ⟨c2, r2, m2, q1, q2, q3, q4, kP, hkP, hkPi⟩ := Cond.selects_spec hsel
  cases hcls.symm.trans q1
  cases (State.methodFound?_of_named hnamed hy).symm.trans q2
  cases hnamed.symm.trans q3
  have hselP : selectMethod e.platform s.vm cellB.cls mk = .method mk := by rw [Launch.admits_selectMethod X.admits]; exact q4
  obtain ⟨vm₁, X₁, hstep₁⟩ := X.invokevirtual hexec hown hlink hnamed hmethM hstM hkP hkPi hy (a := b) (cell := cellB) hcell
    (fun z h => by rw [h] at hobj; cases hobj) hselP hmethM habM hkP hkPi (g := g) hg (argsL := argsL) (rest := rest) (hlen _ hsigM) hstack hdg
  obtain ⟨v, B, X', hpost, hsteps⟩ := hK m meth c ⟨T.setVm vm₁, locs, cells, slots⟩ { g with stack := rest } (.invokevirtual index) mk (Value.ref b :: argsL).toArray X₁ hg hsize hdg hW (X₁.named hnamed) (hpre vm₁ X₁.warmed)
  exact ⟨v, vm₁, B, X₁.warmed, X', hpost, fun target h => hstep₁ _ fun acts => by rw [doInvoke_state]; exact hsteps.trans h⟩
abbrev vx_CVW (R : Room) (s : State) (args : Array Value) (own C : String) (index : Nat) (y : MethodName) (bytes : ByteArray) (maxL : Nat) (ret : Option FieldType) (hh : List (Nat × Nat × Nat × Nat)) (ws : List Cond) (rm : Room) (mc ms n : Nat) : Prop :=
  (rm.cells = mc ∧ rm.slots = ms ∧ rm.frames + 1 ≤ R.frames ∧ 8 + (maxL + 11) + rm.locals ≤ R.locals ∧ (∀ w ∈ ws, ∀ (a' : Array Value) (U : State), s.WarmedH U.vm → w.before a' U = true) ∧ Cond.codeWith y bytes maxL ret hh ∈ ws) ∧
  (Cond.codeWith y bytes maxL ret hh).before args s = true ∧ (Cond.initialized y.cls).before args s = true ∧ (y.cls ≠ "java/lang/invoke/MethodHandle" ∧ y.cls ≠ "java/lang/invoke/VarHandle") ∧
  (∀ sig, parseMethodDescriptor y.desc = some sig → n = sig.parameters.length) ∧ (Cond.methodLink own index y).before args s = true ∧ (Cond.instanceMethod y).before args s = true ∧ (Cond.selects C y y).before args s = true
theorem vx_cwVW {own C : String} {index maxL mc ms : Nat} {y : MethodName} {bytes : ByteArray} {ret : Option FieldType} {hh : List (Nat × Nat × Nat × Nat)} {Ts ws ws' : List Cond} {rm : Room} (n : Nat) (ht : ∀ w ∈ Ts, w.before args s = true) (hT : GoodIn Ts (wsV own index C y ws)) (hw : ws = Cond.codeWith y bytes maxL ret hh :: ws') (hrc : rm.cells = mc) (hrs : rm.slots = ms)
    (hd : y.cls = C ∧ y.cls ≠ "java/lang/invoke/MethodHandle" ∧ y.cls ≠ "java/lang/invoke/VarHandle" ∧ (parseMethodDescriptor y.desc).map (fun d => d.parameters.length) = some n) (hR : rm.frames + 1 ≤ R.frames ∧ 8 + (maxL + 11) + rm.locals ≤ R.locals) :
    vx_CVW R s args own C index y bytes maxL ret hh ws rm mc ms n := by
  obtain ⟨hC, hd⟩ := hd
  subst hC
  have ok : ∀ w ∈ wsV own index y.cls y ws, w.before args s = true := fun w h => ht w (hT w h).1
  have hG : GoodIn Ts ws := fun w h => hT w (by unfold wsV; exact List.mem_append_right _ h)
  have hc : Cond.codeWith y bytes maxL ret hh ∈ ws := by rw [hw]; exact List.mem_cons_self
  refine ⟨⟨hrc, hrs, hR.1, hR.2, pay_in ht hG, hc⟩, ht _ (hG _ hc).1, ok _ (by simp [wsV]), ⟨hd.1, hd.2.1⟩, fun sig h => ?_, ok _ (by simp [wsV]), ok _ (by simp [wsV]), ok _ (by simp [wsV])⟩
  have h2 := hd.2.2
  rw [h] at h2
  exact (Option.some.inj h2).symm
theorem vx_runVW {y : MethodName} {bytes cc : ByteArray} {maxL nL mc ms n index : Nat} {ret : Option FieldType} {hh : List (Nat × Nat × Nat × Nat)} {ws : List Cond} {rm : Room} {Pc : Array Value → State → Prop} {Qc : Array Value → State → Outcome → State → Prop} {free : Addr → Prop} {Ts : List Cond} {own C : String} {b : Addr} {As rest : List Value} {g : JFrame}
    (S : CallFix p m c cc nL s args Ts own) (hM : Met l y ws rm Pc Qc mc ms free) (cw : vx_CVW R s args own C index y bytes maxL ret hh ws rm mc ms n) (hp : PreV s H C b Pc As)
    (hg : g.method = m) (hn : As.length = n) (hsize : g.locals.size = nL) (hstack : g.stack = As.reverse ++ .ref b :: rest) (hW : 2 * g.monitorRoom + (rest.map fun v => v.category).sum ≤ 8) (hdg : decode cc g.pc = .ok (.invokevirtual index, 3)) (hf : cells + mc ≤ R.cells ∧ slots + ms ≤ R.slots) :
    va_Run p l e R s m args below meth c H locs cells slots mc ms g rest (Qc (Value.ref b :: As).toArray) free := by
  obtain ⟨⟨hrc, hrs, hfr, hlo, hws, hcw⟩, hcode, hini, hy, hlen, hl, hin, hse⟩ := cw
  have hK : Back l R p e below s args y 3 8 (PreOf R mc ms Pc) (PostOf Qc mc ms free) := va_backW (hh := hh) (bytes := bytes) (maxL := maxL) (ret := ret) hM hp.1 hrc hrs hfr hlo hws hcw (fun a' U hW => word_at hW (Or.inl (by first | rfl | simp [Cond.onTables, Cond.keeps, Cond.steady])) hini)
  obtain ⟨hx, hb, hml, ho, -⟩ := S
  obtain ⟨-, ⟨cellB, hcB, hoB, hclB⟩, hPc⟩ := hp
  intro T hT X
  obtain ⟨v, vm₁, ⟨U', l2, c2, s2⟩, hW₁, X', ⟨g', mk, t, L, e1, e2, hq, h1, hL, h2, h3⟩, st⟩ := vx_callVW X hx (C := C) (hh := hh) (bytes := bytes) (maxL := maxL) (ret := ret) ho hl hin hse hcode hy hK (by rw [hT]; exact hcB) hoB hclB hg (hsize.trans hml.symm) (argsL := As) (rest := rest) (fun sig h => hn.trans (hlen sig h)) hstack hW (by rw [hb]; exact hdg)
    (fun vm₁ hW₁ => ⟨hf.1, hf.2, hPc (T.setVm vm₁) hT hW₁⟩)
  dsimp only [Pt.U, Pt.locs, Pt.cells, Pt.slots] at X' e1 e2 h1 h2 h3 st
  subst h1; subst h2; subst h3
  exact ⟨v, (T.setVm vm₁).calling g' mk (Value.ref b :: As).toArray, t, U', L, hT, X', hL, e1, e2, hq, st⟩
section
variable {y : MethodName} {bytes cc : ByteArray} {maxL nL mc ms n index : Nat} {ret : Option FieldType} {ws : List Cond} {rm : Room} {Pc : Array Value → State → Prop} {Qc : Array Value → State → Outcome → State → Prop} {XC : String → State → State → Prop} {free : Addr → Prop} {Ts : List Cond} {own C : String} {b : Addr} {As rest : List Value} {g : JFrame}
theorem vx_runVX {hh : List (Nat × Nat × Nat × Nat)} (S : CallFix p m c cc nL s args Ts own) (hM : vx_Met l y ws rm Pc Qc XC mc ms free) (cw : vx_CVW R s args own C index y bytes maxL ret hh ws rm mc ms n) (hp : PreV s H C b Pc As)
    (hg : g.method = m) (hn : As.length = n) (hsize : g.locals.size = nL) (hstack : g.stack = As.reverse ++ .ref b :: rest) (hW : 2 * g.monitorRoom + (rest.map fun v => v.category).sum ≤ 8) (hdg : decode cc g.pc = .ok (.invokevirtual index, 3)) (hf : cells + mc ≤ R.cells ∧ slots + ms ≤ R.slots) :
    vx_Run p l e R s m args below meth c H locs cells slots mc ms g rest (Qc (Value.ref b :: As).toArray) XC free := by
  obtain ⟨⟨hrc, hrs, hfr, hlo, hws, hcw⟩, hcode, hini, hy, hlen, hl, hin, hse⟩ := cw
  have hK : vx_Back l R p e below s args y 3 8 (PreOf R mc ms Pc) (PostOf Qc mc ms free) (vx_Post XC mc ms free) := vx_backW (hh := hh) (bytes := bytes) (maxL := maxL) (ret := ret) hM hp.1 hrc hrs hfr hlo hws hcw (fun a' U hW => word_at hW (Or.inl (by first | rfl | simp [Cond.onTables, Cond.keeps, Cond.steady])) hini)
  obtain ⟨hx, hb, hml, ho, -⟩ := S
  obtain ⟨-, ⟨cellB, hcB, hoB, hclB⟩, hPc⟩ := hp
  intro T hT X
  rcases vx_callVX X hx (C := C) (hh := hh) (bytes := bytes) (maxL := maxL) (ret := ret) ho hl hin hse hcode hy hK (by rw [hT]; exact hcB) hoB hclB hg (hsize.trans hml.symm) (argsL := As) (rest := rest) (fun sig h => hn.trans (hlen sig h)) hstack hW (by rw [hb]; exact hdg)
    (fun vm₁ hW₁ => ⟨hf.1, hf.2, hPc (T.setVm vm₁) hT hW₁⟩) with ⟨v, vm₁, ⟨U', l2, c2, s2⟩, hW₁, X', ⟨g', mk, t, L, e1, e2, hq, h1, hL, h2, h3⟩, st⟩ | ⟨q, vm₁, ⟨U', l2, c2, s2⟩, hW₁, X', ⟨g', mk, t, L, E, ce, e1, e2, hq, hce, hcv, hcl, h1, hL, h2, h3⟩, st⟩
  · dsimp only [Pt.U, Pt.locs, Pt.cells, Pt.slots] at X' e1 e2 h1 h2 h3 st
    subst h1; subst h2; subst h3
    exact Or.inl ⟨v, (T.setVm vm₁).calling g' mk (Value.ref b :: As).toArray, t, U', L, hT, X', hL, e1, e2, hq, st⟩
  · dsimp only [Pt.U, Pt.locs, Pt.cells, Pt.slots] at X' e1 e2 h1 h2 h3 st hcl
    subst h1; subst h2; subst h3
    exact Or.inr ⟨q, (T.setVm vm₁).calling g' mk (Value.ref b :: As).toArray, t, U', L, E, ce, hT, X', hL, e1, e2, hq, hce, hcv, vx_cls hW₁ hcl, st⟩
theorem vx_runSX {hh : List (Nat × Nat × Nat × Nat)} (S : CallFix p m c cc nL s args Ts own) (hM : vx_Met l y ws rm Pc Qc XC mc ms free) (cw : vx_CSW R s args own index y bytes maxL ret hh ws rm mc ms n) (hp : PreS s H Pc As)
    (hg : g.method = m) (hn : As.length = n) (hsize : g.locals.size = nL) (hstack : g.stack = As.reverse ++ rest) (hW : 2 * g.monitorRoom + (rest.map fun v => v.category).sum ≤ 8) (hdg : decode cc g.pc = .ok (.invokestatic index, 3)) (hf : cells + mc ≤ R.cells ∧ slots + ms ≤ R.slots) :
    vx_Run p l e R s m args below meth c H locs cells slots mc ms g rest (Qc As.toArray) XC free := by
  obtain ⟨⟨hrc, hrs, hfr, hlo, hws, hcw⟩, hcode, hini, hy, hlen, hl, hstt⟩ := cw
  have hK : vx_Back l R p e below s args y 3 8 (PreOf R mc ms Pc) (PostOf Qc mc ms free) (vx_Post XC mc ms free) := vx_backW (hh := hh) (bytes := bytes) (maxL := maxL) (ret := ret) hM hp.1 hrc hrs hfr hlo hws hcw (fun a' U hW => word_at hW (Or.inl (by first | rfl | simp [Cond.onTables, Cond.keeps, Cond.steady])) hini)
  obtain ⟨hx, hb, hml, ho, -⟩ := S
  intro T hT X
  rcases vx_callSX X hx (hh := hh) (bytes := bytes) (maxL := maxL) (ret := ret) ho hl hstt hini hcode hy hK hg (hsize.trans hml.symm) (argsL := As) (rest := rest) (fun sig h => hn.trans (hlen sig h)) hstack hW (by rw [hb]; exact hdg)
    (fun vm₁ hW₁ => ⟨hf.1, hf.2, hp.2 (T.setVm vm₁) hT hW₁⟩) with ⟨v, vm₁, ⟨U', l2, c2, s2⟩, hW₁, X', ⟨g', mk, t, L, e1, e2, hq, h1, hL, h2, h3⟩, st⟩ | ⟨q, vm₁, ⟨U', l2, c2, s2⟩, hW₁, X', ⟨g', mk, t, L, E, ce, e1, e2, hq, hce, hcv, hcl, h1, hL, h2, h3⟩, st⟩
  · dsimp only [Pt.U, Pt.locs, Pt.cells, Pt.slots] at X' e1 e2 h1 h2 h3 st
    subst h1; subst h2; subst h3
    exact Or.inl ⟨v, (T.setVm vm₁).calling g' mk As.toArray, t, U', L, hT, X', hL, e1, e2, hq, st⟩
  · dsimp only [Pt.U, Pt.locs, Pt.cells, Pt.slots] at X' e1 e2 h1 h2 h3 st hcl
    subst h1; subst h2; subst h3
    exact Or.inr ⟨q, (T.setVm vm₁).calling g' mk As.toArray, t, U', L, E, ce, hT, X', hL, e1, e2, hq, hce, hcv, vx_cls hW₁ hcl, st⟩
end
end VXH
theorem vx_ofWH {l : Launch} {y : MethodName} {ws ws' : List Cond} {rm : Room} {Pc : Array Value → State → Prop} {Qc : Array Value → State → Outcome → State → Prop} {XC : String → State → State → Prop} {mc ms : Nat} {free : Addr → Prop} {cc : ByteArray} {maxL : Nat} {ret : Option FieldType} {hh : List (Nat × Nat × Nat × Nat)}
    (hy : plainName y.cls = true) (hw : ws = Cond.codeWith y cc maxL ret hh :: ws')
    (body : ∀ p e s m args below meth c s₁, BodyLoose p l y (headSpec ws rm) cc maxL ret e s m args below meth c s₁ → c.maxLocals = maxL → Pc args s →
      W p l e (headSpec ws rm).room s m args below meth c s.heap [] 0 0 (vx_MQ below Qc XC args s mc ms free) (entryFrame m args maxL)) : vx_Met l y ws rm Pc Qc XC mc ms free := by
  refine MetFree.of_bodyS (code := cc) (maxLocals := maxL) (ret := ret) hy ?_ ?_
  · intro args s m h hn
    obtain ⟨m9, meth, c, hn9, h1, h2, h3, h4, -, h5, h6, -⟩ := Cond.codeWith_spec (atoms_spec (ws := ws) h _ (by rw [hw]; exact List.mem_cons_self))
    cases hn.symm.trans hn9
    exact ⟨meth, c, h1, h2, h3, h4, h5, h6⟩
  · intro p e s m args below meth c s₁ B hml hP _
    have hh0 : s₁.heap = s.heap := by rw [B.state]; rfl
    obtain ⟨t, a1, o, b1, b2, b3⟩ := body p e s m args below meth c s₁ B hml hP s₁ hh0 (Stand.of_body B)
    exact ⟨t, o, a1, b1, b2, b3⟩
/-! ===== END ===== -/

/-! ===== BEGIN printed: names, fields, word lists, decode rows ===== -/
def RX0 : String := "AssignmentHouse"
def TX0 : u_T := fun k => match k with
  | 0 => ("AssignmentHouse", "plainRate", "[I", true)
  | 1 => ("AssignmentHouse", "equalRate", "[I", true)
  | 2 => ("AssignmentHouse", "highMargin", "[I", true)
  | 3 => ("AssignmentHouse", "lowMargin", "[I", true)
  | 4 => ("AssignmentHouse", "lowVolume", "[I", true)
  | 5 => ("AssignmentHouse", "equalSpan", "I", false)
  | 6 => ("AssignmentHouse", "equalGap", "I", false)
  | 7 => ("AssignmentHouse", "shiftCount", "I", false)
  | 8 => ("AssignmentHouse", "workerOf", "[I", true)
  | 9 => ("AssignmentHouse", "siteOf", "[I", true)
  | 10 => ("AssignmentHouse", "dayOf", "[I", true)
  | 11 => ("AssignmentHouse", "hoursOf", "[I", true)
  | 12 => ("AssignmentHouse", "paidFor", "[I", true)
  | 13 => ("AssignmentHouse", "billedFor", "[I", true)
  | 14 => ("AssignmentHouse", "minutesTaken", "[I", true)
  | _ => ("AssignmentHouse", "aheadOnDay", "[I", true)
def tyX0 : Nat → FieldType := fun k => match k with
  | 0 => .array .int
  | 1 => .array .int
  | 2 => .array .int
  | 3 => .array .int
  | 4 => .array .int
  | 5 => .int
  | 6 => .int
  | 7 => .int
  | 8 => .array .int
  | 9 => .array .int
  | 10 => .array .int
  | 11 => .array .int
  | 12 => .array .int
  | 13 => .array .int
  | 14 => .array .int
  | _ => .array .int
abbrev wsX00 : List Cond := u_ws RX0 TX0 16
theorem nmX0 : ∀ a, a < 16 → ∀ b, b < 16 → a ≠ b → (TX0 a).2.1 ≠ (TX0 b).2.1 := by decide +kernel
theorem tyX0_ok : ∀ k, k < 16 → parseFieldDescriptor (TX0 k).2.2.1 = some (tyX0 k) := by decide +kernel
abbrev cX0_init : ByteArray := prog_1_method_1_code
def yX0_init : MethodName := ⟨RX0, "<init>", "()V"⟩
abbrev cX0_setRates : ByteArray := prog_1_method_2_code
def yX0_setRates : MethodName := ⟨RX0, "setRates", "(III)V"⟩
abbrev cX0_setMargins : ByteArray := prog_1_method_3_code
def yX0_setMargins : MethodName := ⟨RX0, "setMargins", "(IIII)V"⟩
abbrev cX0_setEqual : ByteArray := prog_1_method_4_code
def yX0_setEqual : MethodName := ⟨RX0, "setEqual", "(II)V"⟩
abbrev cX0_shift : ByteArray := prog_1_method_5_code
def yX0_shift : MethodName := ⟨RX0, "shift", "(IIII)I"⟩
abbrev cX0_correct : ByteArray := prog_1_method_6_code
def yX0_correct : MethodName := ⟨RX0, "correct", "(II)I"⟩
abbrev cX0_shifts : ByteArray := prog_1_method_7_code
def yX0_shifts : MethodName := ⟨RX0, "shifts", "()I"⟩
abbrev cX0_hours : ByteArray := prog_1_method_8_code
def yX0_hours : MethodName := ⟨RX0, "hours", "(II)I"⟩
abbrev cX0_overtime : ByteArray := prog_1_method_9_code
def yX0_overtime : MethodName := ⟨RX0, "overtime", "(I)I"⟩
abbrev cX0_hasEqual : ByteArray := prog_1_method_10_code
def yX0_hasEqual : MethodName := ⟨RX0, "hasEqual", "(III)Z"⟩
abbrev cX0_payOf : ByteArray := prog_1_method_11_code
def yX0_payOf : MethodName := ⟨RX0, "payOf", "(I)I"⟩
abbrev cX0_chargeOf : ByteArray := prog_1_method_12_code
def yX0_chargeOf : MethodName := ⟨RX0, "chargeOf", "(I)I"⟩
abbrev cX0_pay : ByteArray := prog_1_method_13_code
def yX0_pay : MethodName := ⟨RX0, "pay", "(II)I"⟩
abbrev cX0_payByHours : ByteArray := prog_1_method_14_code
def yX0_payByHours : MethodName := ⟨RX0, "payByHours", "(II)I"⟩
abbrev cX0_run : ByteArray := prog_1_method_15_code
def yX0_run : MethodName := ⟨RX0, "run", "(I)I"⟩
abbrev cX0_paid : ByteArray := prog_1_method_16_code
def yX0_paid : MethodName := ⟨RX0, "paid", "(II)I"⟩
abbrev cX0_billed : ByteArray := prog_1_method_17_code
def yX0_billed : MethodName := ⟨RX0, "billed", "(II)I"⟩
abbrev cX0_owing : ByteArray := prog_1_method_18_code
def yX0_owing : MethodName := ⟨RX0, "owing", "(II)I"⟩
abbrev cX0_toBill : ByteArray := prog_1_method_19_code
def yX0_toBill : MethodName := ⟨RX0, "toBill", "(II)I"⟩
abbrev cX0_takeHoliday : ByteArray := prog_1_method_20_code
def yX0_takeHoliday : MethodName := ⟨RX0, "takeHoliday", "(II)I"⟩
abbrev cX0_holiday : ByteArray := prog_1_method_21_code
def yX0_holiday : MethodName := ⟨RX0, "holiday", "(I)I"⟩
abbrev cX0_weekOf : ByteArray := prog_1_method_22_code
def yX0_weekOf : MethodName := ⟨RX0, "weekOf", "(I)I"⟩
abbrev cX0_isOfWorker : ByteArray := prog_1_method_23_code
def yX0_isOfWorker : MethodName := ⟨RX0, "isOfWorker", "(III)Z"⟩
abbrev cX0_isAtSite : ByteArray := prog_1_method_24_code
def yX0_isAtSite : MethodName := ⟨RX0, "isAtSite", "(III)Z"⟩
abbrev cX0_hoursOnDay : ByteArray := prog_1_method_25_code
def yX0_hoursOnDay : MethodName := ⟨RX0, "hoursOnDay", "(II)I"⟩
abbrev cX0_hoursAtSite : ByteArray := prog_1_method_26_code
def yX0_hoursAtSite : MethodName := ⟨RX0, "hoursAtSite", "(II)I"⟩
abbrev cX0_minutesLeft : ByteArray := prog_1_method_27_code
def yX0_minutesLeft : MethodName := ⟨RX0, "minutesLeft", "(I)I"⟩
abbrev cX0_overtimeHours : ByteArray := prog_1_method_28_code
def yX0_overtimeHours : MethodName := ⟨RX0, "overtimeHours", "(I)I"⟩
abbrev cX0_fillAheadOnDay : ByteArray := prog_1_method_29_code
def yX0_fillAheadOnDay : MethodName := ⟨RX0, "fillAheadOnDay", "(I)V"⟩
abbrev cX0_plainByDayAhead : ByteArray := prog_1_method_30_code
def yX0_plainByDayAhead : MethodName := ⟨RX0, "plainByDayAhead", "()I"⟩
abbrev cX0_plainOfDay : ByteArray := prog_1_method_31_code
def yX0_plainOfDay : MethodName := ⟨RX0, "plainOfDay", "(I)I"⟩
abbrev cX0_isEqual : ByteArray := prog_1_method_32_code
def yX0_isEqual : MethodName := ⟨RX0, "isEqual", "(III)Z"⟩
abbrev cX0_weeksWorked : ByteArray := prog_1_method_33_code
def yX0_weeksWorked : MethodName := ⟨RX0, "weeksWorked", "(II)I"⟩
abbrev cX0_rateThere : ByteArray := prog_1_method_34_code
def yX0_rateThere : MethodName := ⟨RX0, "rateThere", "(III)I"⟩
abbrev cX0_shiftPay : ByteArray := prog_1_method_35_code
def yX0_shiftPay : MethodName := ⟨RX0, "shiftPay", "(I)I"⟩
abbrev cX0_weekPay : ByteArray := prog_1_method_36_code
def yX0_weekPay : MethodName := ⟨RX0, "weekPay", "(II)I"⟩
abbrev cX0_marginAt : ByteArray := prog_1_method_37_code
def yX0_marginAt : MethodName := ⟨RX0, "marginAt", "(II)I"⟩
abbrev cX0_chargeFor : ByteArray := prog_1_method_38_code
def yX0_chargeFor : MethodName := ⟨RX0, "chargeFor", "(II)I"⟩
abbrev cX0_weekCharge : ByteArray := prog_1_method_39_code
def yX0_weekCharge : MethodName := ⟨RX0, "weekCharge", "(II)I"⟩
abbrev cX0_needOneOf : ByteArray := prog_1_method_40_code
def yX0_needOneOf : MethodName := ⟨RX0, "needOneOf", "(II)V"⟩
abbrev cX0_needRange : ByteArray := prog_1_method_41_code
def yX0_needRange : MethodName := ⟨RX0, "needRange", "(III)V"⟩
abbrev cX0_needState : ByteArray := prog_1_method_42_code
def yX0_needState : MethodName := ⟨RX0, "needState", "(Z)V"⟩
abbrev cX0_at : ByteArray := prog_1_method_43_code
def yX0_at : MethodName := ⟨RX0, "at", "([II)I"⟩
abbrev cX0_put : ByteArray := prog_1_method_44_code
def yX0_put : MethodName := ⟨RX0, "put", "([III)V"⟩
def RX1 : String := "AssignmentHouseModel"
def TX1 : u_T := fun k => match k with
  | _ => ("", "", "", false)
def tyX1 : Nat → FieldType := fun k => match k with
  | _ => .int
abbrev wsX10 : List Cond := u_ws RX1 TX1 0
theorem nmX1 : ∀ a, a < 0 → ∀ b, b < 0 → a ≠ b → (TX1 a).2.1 ≠ (TX1 b).2.1 := by decide +kernel
theorem tyX1_ok : ∀ k, k < 0 → parseFieldDescriptor (TX1 k).2.2.1 = some (tyX1 k) := by decide +kernel
def RJ9 : String := "java/lang/Math"
def TJ9 : u_T := fun k => match k with
  | _ => ("", "", "", false)
def tyJ9 : Nat → FieldType := fun k => match k with
  | _ => .int
abbrev wsJ90 : List Cond := u_ws RJ9 TJ9 0
theorem nmJ9 : ∀ a, a < 0 → ∀ b, b < 0 → a ≠ b → (TJ9 a).2.1 ≠ (TJ9 b).2.1 := by decide +kernel
theorem tyJ9_ok : ∀ k, k < 0 → parseFieldDescriptor (TJ9 k).2.2.1 = some (tyJ9 k) := by decide +kernel
abbrev cJ9_max_7cf53 : ByteArray := prog_8_method_65_code
def yJ9_max_7cf53 : MethodName := ⟨RJ9, "max", "(II)I"⟩
abbrev cJ9_min_7cf53 : ByteArray := prog_8_method_69_code
def yJ9_min_7cf53 : MethodName := ⟨RJ9, "min", "(II)I"⟩
def RJ0 : String := "java/lang/String"
def TJ0 : u_T := fun k => match k with
  | _ => ("", "", "", false)
def tyJ0 : Nat → FieldType := fun k => match k with
  | _ => .int
abbrev wsJ00 : List Cond := u_ws RJ0 TJ0 0
theorem nmJ0 : ∀ a, a < 0 → ∀ b, b < 0 → a ≠ b → (TJ0 a).2.1 ≠ (TJ0 b).2.1 := by decide +kernel
theorem tyJ0_ok : ∀ k, k < 0 → parseFieldDescriptor (TJ0 k).2.2.1 = some (tyJ0 k) := by decide +kernel
def RL : String := "AssignmentHouseLaw"
abbrev cL_dice : ByteArray := method_2_code
def yL_dice : MethodName := ⟨RL, "dice", "([II)I"⟩
abbrev cL_setRates : ByteArray := method_3_code
def yL_setRates : MethodName := ⟨RL, "setRates", "(LAssignmentHouse;III)I"⟩
abbrev cL_setMargins : ByteArray := method_4_code
def yL_setMargins : MethodName := ⟨RL, "setMargins", "(LAssignmentHouse;IIII)I"⟩
abbrev cL_setEqual : ByteArray := method_5_code
def yL_setEqual : MethodName := ⟨RL, "setEqual", "(LAssignmentHouse;II)I"⟩
abbrev cL_act : ByteArray := method_6_code
def yL_act : MethodName := ⟨RL, "act", "(LAssignmentHouse;IIIII)I"⟩
abbrev cL_of : ByteArray := method_7_code
def yL_of : MethodName := ⟨RL, "of", "(LAssignmentHouse;IIII)I"⟩
abbrev cL_hours : ByteArray := method_8_code
def yL_hours : MethodName := ⟨RL, "hours", "([II)I"⟩
abbrev cL_day : ByteArray := method_9_code
def yL_day : MethodName := ⟨RL, "day", "([II)I"⟩
abbrev cL_all : ByteArray := method_10_code
def yL_all : MethodName := ⟨RL, "all", "(LAssignmentHouse;[I)J"⟩
abbrev cL_isOvertime : ByteArray := method_11_code
def yL_isOvertime : MethodName := ⟨RL, "isOvertime", "(LAssignmentHouse;[I[III)Z"⟩
abbrev cL_isEqual : ByteArray := method_12_code
def yL_isEqual : MethodName := ⟨RL, "isEqual", "(LAssignmentHouse;[I[I[IIII)Z"⟩
abbrev cL_areShifts : ByteArray := method_13_code
def yL_areShifts : MethodName := ⟨RL, "areShifts", "(LAssignmentHouse;[I[I[I)Z"⟩
abbrev cL_areSums : ByteArray := method_14_code
def yL_areSums : MethodName := ⟨RL, "areSums", "(LAssignmentHouse;[I[II)Z"⟩
abbrev cL_isRefused : ByteArray := method_15_code
def yL_isRefused : MethodName := ⟨RL, "isRefused", "(LAssignmentHouse;[I[II)Z"⟩
abbrev cL_onDay : ByteArray := method_16_code
def yL_onDay : MethodName := ⟨RL, "onDay", "([I[III)I"⟩
abbrev cL_isTold : ByteArray := method_17_code
def yL_isTold : MethodName := ⟨RL, "isTold", "(LAssignmentHouse;[I[IIIII)Z"⟩
abbrev cL_isCorrected : ByteArray := method_18_code
def yL_isCorrected : MethodName := ⟨RL, "isCorrected", "(LAssignmentHouse;[I[III)Z"⟩
abbrev cL_isRun : ByteArray := method_19_code
def yL_isRun : MethodName := ⟨RL, "isRun", "(LAssignmentHouse;I)Z"⟩
abbrev cL_law : ByteArray := code
def yL_law : MethodName := ⟨RL, "law", "([I)Z"⟩
def wsX0_put : List Cond := .code yX0_put cX0_put 3 none :: ([])
def wsX0_init : List Cond := .code yX0_init cX0_init 2 none :: ([.methodLink RX0 3 objectInit, .instanceMethod objectInit, .code objectInit ⟨#[0xb1]⟩ 1 none, .arrayClass .int, .fieldLink RX0 9 "AssignmentHouse" "plainRate" "[I", .fieldLink RX0 13 "AssignmentHouse" "equalRate" "[I", .fieldLink RX0 16 "AssignmentHouse" "highMargin" "[I", .fieldLink RX0 19 "AssignmentHouse" "lowMargin" "[I", .fieldLink RX0 22 "AssignmentHouse" "lowVolume" "[I", .fieldLink RX0 25 "AssignmentHouse" "equalSpan" "I", .fieldLink RX0 29 "AssignmentHouse" "equalGap" "I", .fieldLink RX0 32 "AssignmentHouse" "shiftCount" "I", .fieldLink RX0 35 "AssignmentHouse" "workerOf" "[I", .fieldLink RX0 38 "AssignmentHouse" "siteOf" "[I", .fieldLink RX0 41 "AssignmentHouse" "dayOf" "[I", .fieldLink RX0 44 "AssignmentHouse" "hoursOf" "[I", .fieldLink RX0 47 "AssignmentHouse" "paidFor" "[I", .fieldLink RX0 50 "AssignmentHouse" "billedFor" "[I", .fieldLink RX0 53 "AssignmentHouse" "minutesTaken" "[I", .fieldLink RX0 56 "AssignmentHouse" "aheadOnDay" "[I", .methodLink RX0 59 yX0_put, .static yX0_put, .initialized RX0, .code yX0_put cX0_put 3 none] ++ wsX00)
def wsX0_needOneOf : List Cond := .code yX0_needOneOf cX0_needOneOf 2 none :: ([.classLink RX0 147 "java/lang/IndexOutOfBoundsException", .initialized "java/lang/IndexOutOfBoundsException"] ++ (vx_atS RX0 151 "java/lang/IndexOutOfBoundsException" ["java/lang/RuntimeException", "java/lang/Exception"]).filter goodWord)
def wsX0_needRange : List Cond := .code yX0_needRange cX0_needRange 3 none :: ([.classLink RX0 154 "java/lang/IllegalArgumentException", .initialized "java/lang/IllegalArgumentException"] ++ (vx_atS RX0 158 "java/lang/IllegalArgumentException" ["java/lang/RuntimeException", "java/lang/Exception"]).filter goodWord)
def wsX0_setRates : List Cond := .code yX0_setRates cX0_setRates 4 none :: ([.fieldLink RX0 9 "AssignmentHouse" "plainRate" "[I", .fieldLink RX0 13 "AssignmentHouse" "equalRate" "[I", .methodLink RX0 63 yX0_needOneOf, .static yX0_needOneOf, .initialized RX0, .code yX0_needOneOf cX0_needOneOf 2 none, .classLink RX0 147 "java/lang/IndexOutOfBoundsException", .initialized "java/lang/IndexOutOfBoundsException", .methodLink RX0 67 yX0_needRange, .static yX0_needRange, .code yX0_needRange cX0_needRange 3 none, .classLink RX0 154 "java/lang/IllegalArgumentException", .initialized "java/lang/IllegalArgumentException", .methodLink RX0 59 yX0_put, .static yX0_put, .code yX0_put cX0_put 3 none] ++ wsX00 ++ (vx_atS RX0 151 "java/lang/IndexOutOfBoundsException" ["java/lang/RuntimeException", "java/lang/Exception"]).filter goodWord ++ (vx_atS RX0 158 "java/lang/IllegalArgumentException" ["java/lang/RuntimeException", "java/lang/Exception"]).filter goodWord)
def wsX0_setMargins : List Cond := .code yX0_setMargins cX0_setMargins 5 none :: ([.fieldLink RX0 16 "AssignmentHouse" "highMargin" "[I", .fieldLink RX0 19 "AssignmentHouse" "lowMargin" "[I", .fieldLink RX0 22 "AssignmentHouse" "lowVolume" "[I", .methodLink RX0 63 yX0_needOneOf, .static yX0_needOneOf, .initialized RX0, .code yX0_needOneOf cX0_needOneOf 2 none, .classLink RX0 147 "java/lang/IndexOutOfBoundsException", .initialized "java/lang/IndexOutOfBoundsException", .methodLink RX0 67 yX0_needRange, .static yX0_needRange, .code yX0_needRange cX0_needRange 3 none, .classLink RX0 154 "java/lang/IllegalArgumentException", .initialized "java/lang/IllegalArgumentException", .methodLink RX0 59 yX0_put, .static yX0_put, .code yX0_put cX0_put 3 none] ++ wsX00 ++ (vx_atS RX0 151 "java/lang/IndexOutOfBoundsException" ["java/lang/RuntimeException", "java/lang/Exception"]).filter goodWord ++ (vx_atS RX0 158 "java/lang/IllegalArgumentException" ["java/lang/RuntimeException", "java/lang/Exception"]).filter goodWord)
def wsX0_setEqual : List Cond := .code yX0_setEqual cX0_setEqual 3 none :: ([.fieldLink RX0 25 "AssignmentHouse" "equalSpan" "I", .fieldLink RX0 29 "AssignmentHouse" "equalGap" "I", .methodLink RX0 67 yX0_needRange, .static yX0_needRange, .initialized RX0, .code yX0_needRange cX0_needRange 3 none, .classLink RX0 154 "java/lang/IllegalArgumentException", .initialized "java/lang/IllegalArgumentException"] ++ wsX00 ++ (vx_atS RX0 158 "java/lang/IllegalArgumentException" ["java/lang/RuntimeException", "java/lang/Exception"]).filter goodWord)
def wsX0_needState : List Cond := .code yX0_needState cX0_needState 1 none :: ([.classLink RX0 159 "java/lang/IllegalStateException", .initialized "java/lang/IllegalStateException"] ++ (vx_atS RX0 163 "java/lang/IllegalStateException" ["java/lang/RuntimeException", "java/lang/Exception"]).filter goodWord)
def wsX0_at : List Cond := .code yX0_at cX0_at 2 (some .int) :: ([])
def wsX0_hoursOnDay : List Cond := .code yX0_hoursOnDay cX0_hoursOnDay 5 (some .int) :: ([.fieldLink RX0 32 "AssignmentHouse" "shiftCount" "I", .fieldLink RX0 35 "AssignmentHouse" "workerOf" "[I", .fieldLink RX0 41 "AssignmentHouse" "dayOf" "[I", .fieldLink RX0 44 "AssignmentHouse" "hoursOf" "[I", .methodLink RX0 79 yX0_at, .static yX0_at, .initialized RX0, .code yX0_at cX0_at 2 (some .int)] ++ wsX00)
def wsX0_shift_r1 : List Cond := [Cond.fieldLink RX0 32 "AssignmentHouse" "shiftCount" "I", Cond.fieldLink RX0 35 "AssignmentHouse" "workerOf" "[I", Cond.fieldLink RX0 38 "AssignmentHouse" "siteOf" "[I", Cond.fieldLink RX0 41 "AssignmentHouse" "dayOf" "[I", Cond.fieldLink RX0 44 "AssignmentHouse" "hoursOf" "[I", Cond.methodLink RX0 63 yX0_needOneOf, Cond.static yX0_needOneOf, Cond.initialized RX0, Cond.code yX0_needOneOf cX0_needOneOf 2 none, Cond.classLink RX0 147 "java/lang/IndexOutOfBoundsException", Cond.initialized "java/lang/IndexOutOfBoundsException", Cond.methodLink RX0 67 yX0_needRange, Cond.static yX0_needRange, Cond.code yX0_needRange cX0_needRange 3 none, Cond.classLink RX0 154 "java/lang/IllegalArgumentException", Cond.initialized "java/lang/IllegalArgumentException", Cond.methodLink RX0 71 yX0_needState, Cond.static yX0_needState, Cond.code yX0_needState cX0_needState 1 none, Cond.classLink RX0 159 "java/lang/IllegalStateException", Cond.initialized "java/lang/IllegalStateException", Cond.methodLink RX0 75 yX0_hoursOnDay, Cond.instanceMethod yX0_hoursOnDay, Cond.selects RX0 yX0_hoursOnDay yX0_hoursOnDay]
def wsX0_shift_r2 : List Cond := [Cond.code yX0_hoursOnDay cX0_hoursOnDay 5 (some .int), Cond.methodLink RX0 79 yX0_at, Cond.static yX0_at, Cond.code yX0_at cX0_at 2 (some .int), Cond.methodLink RX0 59 yX0_put, Cond.static yX0_put, Cond.code yX0_put cX0_put 3 none]
def wsX0_shift : List Cond := .code yX0_shift cX0_shift 6 (some .int) :: ((wsX0_shift_r1 ++ wsX0_shift_r2) ++ wsX00 ++ (vx_atS RX0 151 "java/lang/IndexOutOfBoundsException" ["java/lang/RuntimeException", "java/lang/Exception"]).filter goodWord ++ (vx_atS RX0 158 "java/lang/IllegalArgumentException" ["java/lang/RuntimeException", "java/lang/Exception"]).filter goodWord ++ (vx_atS RX0 163 "java/lang/IllegalStateException" ["java/lang/RuntimeException", "java/lang/Exception"]).filter goodWord)
def wsX0_minutesLeft : List Cond := .code yX0_minutesLeft cX0_minutesLeft 4 (some .int) :: ([.fieldLink RX0 32 "AssignmentHouse" "shiftCount" "I", .fieldLink RX0 35 "AssignmentHouse" "workerOf" "[I", .fieldLink RX0 44 "AssignmentHouse" "hoursOf" "[I", .fieldLink RX0 53 "AssignmentHouse" "minutesTaken" "[I", .methodLink RX0 79 yX0_at, .static yX0_at, .initialized RX0, .code yX0_at cX0_at 2 (some .int)] ++ wsX00)
def wsX0_correct_r1 : List Cond := [Cond.fieldLink RX0 32 "AssignmentHouse" "shiftCount" "I", Cond.fieldLink RX0 35 "AssignmentHouse" "workerOf" "[I", Cond.fieldLink RX0 44 "AssignmentHouse" "hoursOf" "[I", Cond.fieldLink RX0 41 "AssignmentHouse" "dayOf" "[I", Cond.methodLink RX0 63 yX0_needOneOf, Cond.static yX0_needOneOf, Cond.initialized RX0, Cond.code yX0_needOneOf cX0_needOneOf 2 none, Cond.classLink RX0 147 "java/lang/IndexOutOfBoundsException", Cond.initialized "java/lang/IndexOutOfBoundsException", Cond.methodLink RX0 67 yX0_needRange, Cond.static yX0_needRange, Cond.code yX0_needRange cX0_needRange 3 none, Cond.classLink RX0 154 "java/lang/IllegalArgumentException", Cond.initialized "java/lang/IllegalArgumentException", Cond.methodLink RX0 79 yX0_at, Cond.static yX0_at, Cond.code yX0_at cX0_at 2 (some .int), Cond.methodLink RX0 75 yX0_hoursOnDay, Cond.instanceMethod yX0_hoursOnDay, Cond.selects RX0 yX0_hoursOnDay yX0_hoursOnDay, Cond.code yX0_hoursOnDay cX0_hoursOnDay 5 (some .int), Cond.methodLink RX0 71 yX0_needState, Cond.static yX0_needState]
def wsX0_correct_r2 : List Cond := [Cond.code yX0_needState cX0_needState 1 none, Cond.classLink RX0 159 "java/lang/IllegalStateException", Cond.initialized "java/lang/IllegalStateException", Cond.methodLink RX0 83 yX0_minutesLeft, Cond.instanceMethod yX0_minutesLeft, Cond.selects RX0 yX0_minutesLeft yX0_minutesLeft, Cond.code yX0_minutesLeft cX0_minutesLeft 4 (some .int), Cond.fieldLink RX0 53 "AssignmentHouse" "minutesTaken" "[I", Cond.methodLink RX0 59 yX0_put, Cond.static yX0_put, Cond.code yX0_put cX0_put 3 none]
def wsX0_correct : List Cond := .code yX0_correct cX0_correct 6 (some .int) :: ((wsX0_correct_r1 ++ wsX0_correct_r2) ++ wsX00 ++ (vx_atS RX0 151 "java/lang/IndexOutOfBoundsException" ["java/lang/RuntimeException", "java/lang/Exception"]).filter goodWord ++ (vx_atS RX0 158 "java/lang/IllegalArgumentException" ["java/lang/RuntimeException", "java/lang/Exception"]).filter goodWord ++ (vx_atS RX0 163 "java/lang/IllegalStateException" ["java/lang/RuntimeException", "java/lang/Exception"]).filter goodWord)
def wsX0_shifts : List Cond := .code yX0_shifts cX0_shifts 1 (some .int) :: ([.fieldLink RX0 32 "AssignmentHouse" "shiftCount" "I"] ++ wsX00)
def wsX0_weekOf : List Cond := .code yX0_weekOf cX0_weekOf 1 (some .int) :: ([])
def wsX0_isOfWorker : List Cond := .code yX0_isOfWorker cX0_isOfWorker 4 (some .boolean) :: ([.fieldLink RX0 35 "AssignmentHouse" "workerOf" "[I", .fieldLink RX0 41 "AssignmentHouse" "dayOf" "[I", .methodLink RX0 79 yX0_at, .static yX0_at, .initialized RX0, .code yX0_at cX0_at 2 (some .int), .methodLink RX0 100 yX0_weekOf, .static yX0_weekOf, .code yX0_weekOf cX0_weekOf 1 (some .int)] ++ wsX00)
def wsX0_hours : List Cond := .code yX0_hours cX0_hours 5 (some .int) :: ([.fieldLink RX0 32 "AssignmentHouse" "shiftCount" "I", .fieldLink RX0 44 "AssignmentHouse" "hoursOf" "[I", .methodLink RX0 63 yX0_needOneOf, .static yX0_needOneOf, .initialized RX0, .code yX0_needOneOf cX0_needOneOf 2 none, .classLink RX0 147 "java/lang/IndexOutOfBoundsException", .initialized "java/lang/IndexOutOfBoundsException", .methodLink RX0 87 yX0_isOfWorker, .instanceMethod yX0_isOfWorker, .selects RX0 yX0_isOfWorker yX0_isOfWorker, .code yX0_isOfWorker cX0_isOfWorker 4 (some .boolean), .fieldLink RX0 35 "AssignmentHouse" "workerOf" "[I", .fieldLink RX0 41 "AssignmentHouse" "dayOf" "[I", .methodLink RX0 79 yX0_at, .static yX0_at, .code yX0_at cX0_at 2 (some .int), .methodLink RX0 100 yX0_weekOf, .static yX0_weekOf, .code yX0_weekOf cX0_weekOf 1 (some .int)] ++ wsX00 ++ (vx_atS RX0 151 "java/lang/IndexOutOfBoundsException" ["java/lang/RuntimeException", "java/lang/Exception"]).filter goodWord)
def wsX0_fillAheadOnDay : List Cond := .code yX0_fillAheadOnDay cX0_fillAheadOnDay 9 none :: ([.fieldLink RX0 35 "AssignmentHouse" "workerOf" "[I", .fieldLink RX0 41 "AssignmentHouse" "dayOf" "[I", .fieldLink RX0 56 "AssignmentHouse" "aheadOnDay" "[I", .fieldLink RX0 32 "AssignmentHouse" "shiftCount" "I", .fieldLink RX0 44 "AssignmentHouse" "hoursOf" "[I", .methodLink RX0 79 yX0_at, .static yX0_at, .initialized RX0, .code yX0_at cX0_at 2 (some .int), .methodLink RX0 100 yX0_weekOf, .static yX0_weekOf, .code yX0_weekOf cX0_weekOf 1 (some .int), .methodLink RX0 59 yX0_put, .static yX0_put, .code yX0_put cX0_put 3 none, .methodLink RX0 87 yX0_isOfWorker, .instanceMethod yX0_isOfWorker, .selects RX0 yX0_isOfWorker yX0_isOfWorker, .code yX0_isOfWorker cX0_isOfWorker 4 (some .boolean)] ++ wsX00)
def wsX0_plainOfDay : List Cond := .code yX0_plainOfDay cX0_plainOfDay 1 (some .int) :: ([.methodLink RX0 138 Lib.Math.min.name, .static Lib.Math.min.name, .initialized "java/lang/Math", .code Lib.Math.min.name Lib.Math.min.code 2 (some .int)])
def wsX0_plainByDayAhead : List Cond := .code yX0_plainByDayAhead cX0_plainByDayAhead 3 (some .int) :: ([.fieldLink RX0 56 "AssignmentHouse" "aheadOnDay" "[I", .methodLink RX0 79 yX0_at, .static yX0_at, .initialized RX0, .code yX0_at cX0_at 2 (some .int), .methodLink RX0 126 yX0_plainOfDay, .static yX0_plainOfDay, .code yX0_plainOfDay cX0_plainOfDay 1 (some .int), .methodLink RX0 138 Lib.Math.min.name, .static Lib.Math.min.name, .initialized "java/lang/Math", .code Lib.Math.min.name Lib.Math.min.code 2 (some .int)] ++ wsX00)
def wsX0_overtimeHours_r1 : List Cond := [Cond.fieldLink RX0 44 "AssignmentHouse" "hoursOf" "[I", Cond.fieldLink RX0 56 "AssignmentHouse" "aheadOnDay" "[I", Cond.fieldLink RX0 41 "AssignmentHouse" "dayOf" "[I", Cond.methodLink RX0 133 Lib.Math.max.name, Cond.static Lib.Math.max.name, Cond.initialized "java/lang/Math", Cond.code Lib.Math.max.name Lib.Math.max.code 2 (some .int), Cond.methodLink RX0 138 Lib.Math.min.name, Cond.static Lib.Math.min.name, Cond.code Lib.Math.min.name Lib.Math.min.code 2 (some .int), Cond.methodLink RX0 122 yX0_fillAheadOnDay, Cond.instanceMethod yX0_fillAheadOnDay, Cond.selects RX0 yX0_fillAheadOnDay yX0_fillAheadOnDay, Cond.initialized RX0, Cond.code yX0_fillAheadOnDay cX0_fillAheadOnDay 9 none, Cond.fieldLink RX0 35 "AssignmentHouse" "workerOf" "[I", Cond.fieldLink RX0 32 "AssignmentHouse" "shiftCount" "I", Cond.methodLink RX0 79 yX0_at, Cond.static yX0_at, Cond.code yX0_at cX0_at 2 (some .int), Cond.methodLink RX0 100 yX0_weekOf, Cond.static yX0_weekOf, Cond.code yX0_weekOf cX0_weekOf 1 (some .int), Cond.methodLink RX0 59 yX0_put]
def wsX0_overtimeHours_r2 : List Cond := [Cond.static yX0_put, Cond.code yX0_put cX0_put 3 none, Cond.methodLink RX0 87 yX0_isOfWorker, Cond.instanceMethod yX0_isOfWorker, Cond.selects RX0 yX0_isOfWorker yX0_isOfWorker, Cond.code yX0_isOfWorker cX0_isOfWorker 4 (some .boolean), Cond.methodLink RX0 126 yX0_plainOfDay, Cond.static yX0_plainOfDay, Cond.code yX0_plainOfDay cX0_plainOfDay 1 (some .int), Cond.methodLink RX0 129 yX0_plainByDayAhead, Cond.instanceMethod yX0_plainByDayAhead, Cond.selects RX0 yX0_plainByDayAhead yX0_plainByDayAhead, Cond.code yX0_plainByDayAhead cX0_plainByDayAhead 3 (some .int)]
def wsX0_overtimeHours : List Cond := .code yX0_overtimeHours cX0_overtimeHours 6 (some .int) :: ((wsX0_overtimeHours_r1 ++ wsX0_overtimeHours_r2) ++ wsX00)
def wsX0_overtime_r1 : List Cond := [Cond.fieldLink RX0 32 "AssignmentHouse" "shiftCount" "I", Cond.methodLink RX0 63 yX0_needOneOf, Cond.static yX0_needOneOf, Cond.initialized RX0, Cond.code yX0_needOneOf cX0_needOneOf 2 none, Cond.classLink RX0 147 "java/lang/IndexOutOfBoundsException", Cond.initialized "java/lang/IndexOutOfBoundsException", Cond.methodLink RX0 91 yX0_overtimeHours, Cond.instanceMethod yX0_overtimeHours, Cond.selects RX0 yX0_overtimeHours yX0_overtimeHours, Cond.code yX0_overtimeHours cX0_overtimeHours 6 (some .int), Cond.fieldLink RX0 44 "AssignmentHouse" "hoursOf" "[I", Cond.fieldLink RX0 56 "AssignmentHouse" "aheadOnDay" "[I", Cond.fieldLink RX0 41 "AssignmentHouse" "dayOf" "[I", Cond.methodLink RX0 133 Lib.Math.max.name, Cond.static Lib.Math.max.name, Cond.initialized "java/lang/Math", Cond.code Lib.Math.max.name Lib.Math.max.code 2 (some .int), Cond.methodLink RX0 138 Lib.Math.min.name, Cond.static Lib.Math.min.name, Cond.code Lib.Math.min.name Lib.Math.min.code 2 (some .int), Cond.methodLink RX0 122 yX0_fillAheadOnDay, Cond.instanceMethod yX0_fillAheadOnDay, Cond.selects RX0 yX0_fillAheadOnDay yX0_fillAheadOnDay]
def wsX0_overtime_r2 : List Cond := [Cond.code yX0_fillAheadOnDay cX0_fillAheadOnDay 9 none, Cond.fieldLink RX0 35 "AssignmentHouse" "workerOf" "[I", Cond.methodLink RX0 79 yX0_at, Cond.static yX0_at, Cond.code yX0_at cX0_at 2 (some .int), Cond.methodLink RX0 100 yX0_weekOf, Cond.static yX0_weekOf, Cond.code yX0_weekOf cX0_weekOf 1 (some .int), Cond.methodLink RX0 59 yX0_put, Cond.static yX0_put, Cond.code yX0_put cX0_put 3 none, Cond.methodLink RX0 87 yX0_isOfWorker, Cond.instanceMethod yX0_isOfWorker, Cond.selects RX0 yX0_isOfWorker yX0_isOfWorker, Cond.code yX0_isOfWorker cX0_isOfWorker 4 (some .boolean), Cond.methodLink RX0 126 yX0_plainOfDay, Cond.static yX0_plainOfDay, Cond.code yX0_plainOfDay cX0_plainOfDay 1 (some .int), Cond.methodLink RX0 129 yX0_plainByDayAhead, Cond.instanceMethod yX0_plainByDayAhead, Cond.selects RX0 yX0_plainByDayAhead yX0_plainByDayAhead, Cond.code yX0_plainByDayAhead cX0_plainByDayAhead 3 (some .int)]
def wsX0_overtime : List Cond := .code yX0_overtime cX0_overtime 2 (some .int) :: ((wsX0_overtime_r1 ++ wsX0_overtime_r2) ++ wsX00 ++ (vx_atS RX0 151 "java/lang/IndexOutOfBoundsException" ["java/lang/RuntimeException", "java/lang/Exception"]).filter goodWord)
def wsX0_weeksWorked : List Cond := .code yX0_weeksWorked cX0_weeksWorked 5 (some .int) :: ([.fieldLink RX0 32 "AssignmentHouse" "shiftCount" "I", .fieldLink RX0 35 "AssignmentHouse" "workerOf" "[I", .fieldLink RX0 38 "AssignmentHouse" "siteOf" "[I", .fieldLink RX0 44 "AssignmentHouse" "hoursOf" "[I", .fieldLink RX0 41 "AssignmentHouse" "dayOf" "[I", .methodLink RX0 79 yX0_at, .static yX0_at, .initialized RX0, .code yX0_at cX0_at 2 (some .int), .methodLink RX0 100 yX0_weekOf, .static yX0_weekOf, .code yX0_weekOf cX0_weekOf 1 (some .int)] ++ wsX00)
def wsX0_isEqual : List Cond := .code yX0_isEqual cX0_isEqual 8 (some .boolean) :: ([.fieldLink RX0 29 "AssignmentHouse" "equalGap" "I", .fieldLink RX0 25 "AssignmentHouse" "equalSpan" "I", .methodLink RX0 141 yX0_weeksWorked, .instanceMethod yX0_weeksWorked, .selects RX0 yX0_weeksWorked yX0_weeksWorked, .initialized RX0, .code yX0_weeksWorked cX0_weeksWorked 5 (some .int), .fieldLink RX0 32 "AssignmentHouse" "shiftCount" "I", .fieldLink RX0 35 "AssignmentHouse" "workerOf" "[I", .fieldLink RX0 38 "AssignmentHouse" "siteOf" "[I", .fieldLink RX0 44 "AssignmentHouse" "hoursOf" "[I", .fieldLink RX0 41 "AssignmentHouse" "dayOf" "[I", .methodLink RX0 79 yX0_at, .static yX0_at, .code yX0_at cX0_at 2 (some .int), .methodLink RX0 100 yX0_weekOf, .static yX0_weekOf, .code yX0_weekOf cX0_weekOf 1 (some .int)] ++ wsX00)
def wsX0_hasEqual_r1 : List Cond := [Cond.methodLink RX0 63 yX0_needOneOf, Cond.static yX0_needOneOf, Cond.initialized RX0, Cond.code yX0_needOneOf cX0_needOneOf 2 none, Cond.classLink RX0 147 "java/lang/IndexOutOfBoundsException", Cond.initialized "java/lang/IndexOutOfBoundsException", Cond.methodLink RX0 94 yX0_isEqual, Cond.instanceMethod yX0_isEqual, Cond.selects RX0 yX0_isEqual yX0_isEqual, Cond.code yX0_isEqual cX0_isEqual 8 (some .boolean), Cond.fieldLink RX0 29 "AssignmentHouse" "equalGap" "I", Cond.fieldLink RX0 25 "AssignmentHouse" "equalSpan" "I", Cond.methodLink RX0 141 yX0_weeksWorked, Cond.instanceMethod yX0_weeksWorked, Cond.selects RX0 yX0_weeksWorked yX0_weeksWorked, Cond.code yX0_weeksWorked cX0_weeksWorked 5 (some .int), Cond.fieldLink RX0 32 "AssignmentHouse" "shiftCount" "I", Cond.fieldLink RX0 35 "AssignmentHouse" "workerOf" "[I", Cond.fieldLink RX0 38 "AssignmentHouse" "siteOf" "[I", Cond.fieldLink RX0 44 "AssignmentHouse" "hoursOf" "[I", Cond.fieldLink RX0 41 "AssignmentHouse" "dayOf" "[I", Cond.methodLink RX0 79 yX0_at, Cond.static yX0_at, Cond.code yX0_at cX0_at 2 (some .int)]
def wsX0_hasEqual_r2 : List Cond := [Cond.methodLink RX0 100 yX0_weekOf, Cond.static yX0_weekOf, Cond.code yX0_weekOf cX0_weekOf 1 (some .int)]
def wsX0_hasEqual : List Cond := .code yX0_hasEqual cX0_hasEqual 4 (some .boolean) :: ((wsX0_hasEqual_r1 ++ wsX0_hasEqual_r2) ++ wsX00 ++ (vx_atS RX0 151 "java/lang/IndexOutOfBoundsException" ["java/lang/RuntimeException", "java/lang/Exception"]).filter goodWord)
def wsX0_rateThere : List Cond := .code yX0_rateThere cX0_rateThere 4 (some .int) :: ([.fieldLink RX0 13 "AssignmentHouse" "equalRate" "[I", .fieldLink RX0 9 "AssignmentHouse" "plainRate" "[I", .methodLink RX0 94 yX0_isEqual, .instanceMethod yX0_isEqual, .selects RX0 yX0_isEqual yX0_isEqual, .initialized RX0, .code yX0_isEqual cX0_isEqual 8 (some .boolean), .fieldLink RX0 29 "AssignmentHouse" "equalGap" "I", .fieldLink RX0 25 "AssignmentHouse" "equalSpan" "I", .methodLink RX0 141 yX0_weeksWorked, .instanceMethod yX0_weeksWorked, .selects RX0 yX0_weeksWorked yX0_weeksWorked, .code yX0_weeksWorked cX0_weeksWorked 5 (some .int), .fieldLink RX0 32 "AssignmentHouse" "shiftCount" "I", .fieldLink RX0 35 "AssignmentHouse" "workerOf" "[I", .fieldLink RX0 38 "AssignmentHouse" "siteOf" "[I", .fieldLink RX0 44 "AssignmentHouse" "hoursOf" "[I", .fieldLink RX0 41 "AssignmentHouse" "dayOf" "[I", .methodLink RX0 79 yX0_at, .static yX0_at, .code yX0_at cX0_at 2 (some .int), .methodLink RX0 100 yX0_weekOf, .static yX0_weekOf, .code yX0_weekOf cX0_weekOf 1 (some .int)] ++ wsX00)
def wsX0_shiftPay_r1 : List Cond := [Cond.fieldLink RX0 44 "AssignmentHouse" "hoursOf" "[I", Cond.fieldLink RX0 35 "AssignmentHouse" "workerOf" "[I", Cond.fieldLink RX0 38 "AssignmentHouse" "siteOf" "[I", Cond.fieldLink RX0 41 "AssignmentHouse" "dayOf" "[I", Cond.methodLink RX0 91 yX0_overtimeHours, Cond.instanceMethod yX0_overtimeHours, Cond.selects RX0 yX0_overtimeHours yX0_overtimeHours, Cond.initialized RX0, Cond.code yX0_overtimeHours cX0_overtimeHours 6 (some .int), Cond.fieldLink RX0 56 "AssignmentHouse" "aheadOnDay" "[I", Cond.methodLink RX0 133 Lib.Math.max.name, Cond.static Lib.Math.max.name, Cond.initialized "java/lang/Math", Cond.code Lib.Math.max.name Lib.Math.max.code 2 (some .int), Cond.methodLink RX0 138 Lib.Math.min.name, Cond.static Lib.Math.min.name, Cond.code Lib.Math.min.name Lib.Math.min.code 2 (some .int), Cond.methodLink RX0 122 yX0_fillAheadOnDay, Cond.instanceMethod yX0_fillAheadOnDay, Cond.selects RX0 yX0_fillAheadOnDay yX0_fillAheadOnDay, Cond.code yX0_fillAheadOnDay cX0_fillAheadOnDay 9 none, Cond.fieldLink RX0 32 "AssignmentHouse" "shiftCount" "I", Cond.methodLink RX0 79 yX0_at, Cond.static yX0_at]
def wsX0_shiftPay_r2 : List Cond := [Cond.code yX0_at cX0_at 2 (some .int), Cond.methodLink RX0 100 yX0_weekOf, Cond.static yX0_weekOf, Cond.code yX0_weekOf cX0_weekOf 1 (some .int), Cond.methodLink RX0 59 yX0_put, Cond.static yX0_put, Cond.code yX0_put cX0_put 3 none, Cond.methodLink RX0 87 yX0_isOfWorker, Cond.instanceMethod yX0_isOfWorker, Cond.selects RX0 yX0_isOfWorker yX0_isOfWorker, Cond.code yX0_isOfWorker cX0_isOfWorker 4 (some .boolean), Cond.methodLink RX0 126 yX0_plainOfDay, Cond.static yX0_plainOfDay, Cond.code yX0_plainOfDay cX0_plainOfDay 1 (some .int), Cond.methodLink RX0 129 yX0_plainByDayAhead, Cond.instanceMethod yX0_plainByDayAhead, Cond.selects RX0 yX0_plainByDayAhead yX0_plainByDayAhead, Cond.code yX0_plainByDayAhead cX0_plainByDayAhead 3 (some .int), Cond.methodLink RX0 112 yX0_rateThere, Cond.instanceMethod yX0_rateThere, Cond.selects RX0 yX0_rateThere yX0_rateThere, Cond.code yX0_rateThere cX0_rateThere 4 (some .int), Cond.fieldLink RX0 13 "AssignmentHouse" "equalRate" "[I", Cond.fieldLink RX0 9 "AssignmentHouse" "plainRate" "[I"]
def wsX0_shiftPay_r3 : List Cond := [Cond.methodLink RX0 94 yX0_isEqual, Cond.instanceMethod yX0_isEqual, Cond.selects RX0 yX0_isEqual yX0_isEqual, Cond.code yX0_isEqual cX0_isEqual 8 (some .boolean), Cond.fieldLink RX0 29 "AssignmentHouse" "equalGap" "I", Cond.fieldLink RX0 25 "AssignmentHouse" "equalSpan" "I", Cond.methodLink RX0 141 yX0_weeksWorked, Cond.instanceMethod yX0_weeksWorked, Cond.selects RX0 yX0_weeksWorked yX0_weeksWorked, Cond.code yX0_weeksWorked cX0_weeksWorked 5 (some .int)]
def wsX0_shiftPay : List Cond := .code yX0_shiftPay cX0_shiftPay 5 (some .int) :: ((wsX0_shiftPay_r1 ++ (wsX0_shiftPay_r2 ++ wsX0_shiftPay_r3)) ++ wsX00)
def wsX0_payOf_r1 : List Cond := [Cond.fieldLink RX0 32 "AssignmentHouse" "shiftCount" "I", Cond.methodLink RX0 63 yX0_needOneOf, Cond.static yX0_needOneOf, Cond.initialized RX0, Cond.code yX0_needOneOf cX0_needOneOf 2 none, Cond.classLink RX0 147 "java/lang/IndexOutOfBoundsException", Cond.initialized "java/lang/IndexOutOfBoundsException", Cond.methodLink RX0 97 yX0_shiftPay, Cond.instanceMethod yX0_shiftPay, Cond.selects RX0 yX0_shiftPay yX0_shiftPay, Cond.code yX0_shiftPay cX0_shiftPay 5 (some .int), Cond.fieldLink RX0 44 "AssignmentHouse" "hoursOf" "[I", Cond.fieldLink RX0 35 "AssignmentHouse" "workerOf" "[I", Cond.fieldLink RX0 38 "AssignmentHouse" "siteOf" "[I", Cond.fieldLink RX0 41 "AssignmentHouse" "dayOf" "[I", Cond.methodLink RX0 91 yX0_overtimeHours, Cond.instanceMethod yX0_overtimeHours, Cond.selects RX0 yX0_overtimeHours yX0_overtimeHours, Cond.code yX0_overtimeHours cX0_overtimeHours 6 (some .int), Cond.fieldLink RX0 56 "AssignmentHouse" "aheadOnDay" "[I", Cond.methodLink RX0 133 Lib.Math.max.name, Cond.static Lib.Math.max.name, Cond.initialized "java/lang/Math", Cond.code Lib.Math.max.name Lib.Math.max.code 2 (some .int)]
def wsX0_payOf_r2 : List Cond := [Cond.methodLink RX0 138 Lib.Math.min.name, Cond.static Lib.Math.min.name, Cond.code Lib.Math.min.name Lib.Math.min.code 2 (some .int), Cond.methodLink RX0 122 yX0_fillAheadOnDay, Cond.instanceMethod yX0_fillAheadOnDay, Cond.selects RX0 yX0_fillAheadOnDay yX0_fillAheadOnDay, Cond.code yX0_fillAheadOnDay cX0_fillAheadOnDay 9 none, Cond.methodLink RX0 79 yX0_at, Cond.static yX0_at, Cond.code yX0_at cX0_at 2 (some .int), Cond.methodLink RX0 100 yX0_weekOf, Cond.static yX0_weekOf, Cond.code yX0_weekOf cX0_weekOf 1 (some .int), Cond.methodLink RX0 59 yX0_put, Cond.static yX0_put, Cond.code yX0_put cX0_put 3 none, Cond.methodLink RX0 87 yX0_isOfWorker, Cond.instanceMethod yX0_isOfWorker, Cond.selects RX0 yX0_isOfWorker yX0_isOfWorker, Cond.code yX0_isOfWorker cX0_isOfWorker 4 (some .boolean), Cond.methodLink RX0 126 yX0_plainOfDay, Cond.static yX0_plainOfDay, Cond.code yX0_plainOfDay cX0_plainOfDay 1 (some .int), Cond.methodLink RX0 129 yX0_plainByDayAhead]
def wsX0_payOf_r3 : List Cond := [Cond.instanceMethod yX0_plainByDayAhead, Cond.selects RX0 yX0_plainByDayAhead yX0_plainByDayAhead, Cond.code yX0_plainByDayAhead cX0_plainByDayAhead 3 (some .int), Cond.methodLink RX0 112 yX0_rateThere, Cond.instanceMethod yX0_rateThere, Cond.selects RX0 yX0_rateThere yX0_rateThere, Cond.code yX0_rateThere cX0_rateThere 4 (some .int), Cond.fieldLink RX0 13 "AssignmentHouse" "equalRate" "[I", Cond.fieldLink RX0 9 "AssignmentHouse" "plainRate" "[I", Cond.methodLink RX0 94 yX0_isEqual, Cond.instanceMethod yX0_isEqual, Cond.selects RX0 yX0_isEqual yX0_isEqual, Cond.code yX0_isEqual cX0_isEqual 8 (some .boolean), Cond.fieldLink RX0 29 "AssignmentHouse" "equalGap" "I", Cond.fieldLink RX0 25 "AssignmentHouse" "equalSpan" "I", Cond.methodLink RX0 141 yX0_weeksWorked, Cond.instanceMethod yX0_weeksWorked, Cond.selects RX0 yX0_weeksWorked yX0_weeksWorked, Cond.code yX0_weeksWorked cX0_weeksWorked 5 (some .int)]
def wsX0_payOf : List Cond := .code yX0_payOf cX0_payOf 2 (some .int) :: ((wsX0_payOf_r1 ++ (wsX0_payOf_r2 ++ wsX0_payOf_r3)) ++ wsX00 ++ (vx_atS RX0 151 "java/lang/IndexOutOfBoundsException" ["java/lang/RuntimeException", "java/lang/Exception"]).filter goodWord)
def wsX0_isAtSite : List Cond := .code yX0_isAtSite cX0_isAtSite 4 (some .boolean) :: ([.fieldLink RX0 38 "AssignmentHouse" "siteOf" "[I", .fieldLink RX0 41 "AssignmentHouse" "dayOf" "[I", .methodLink RX0 79 yX0_at, .static yX0_at, .initialized RX0, .code yX0_at cX0_at 2 (some .int), .methodLink RX0 100 yX0_weekOf, .static yX0_weekOf, .code yX0_weekOf cX0_weekOf 1 (some .int)] ++ wsX00)
def wsX0_hoursAtSite : List Cond := .code yX0_hoursAtSite cX0_hoursAtSite 5 (some .int) :: ([.fieldLink RX0 32 "AssignmentHouse" "shiftCount" "I", .fieldLink RX0 44 "AssignmentHouse" "hoursOf" "[I", .methodLink RX0 119 yX0_isAtSite, .instanceMethod yX0_isAtSite, .selects RX0 yX0_isAtSite yX0_isAtSite, .initialized RX0, .code yX0_isAtSite cX0_isAtSite 4 (some .boolean), .fieldLink RX0 38 "AssignmentHouse" "siteOf" "[I", .fieldLink RX0 41 "AssignmentHouse" "dayOf" "[I", .methodLink RX0 79 yX0_at, .static yX0_at, .code yX0_at cX0_at 2 (some .int), .methodLink RX0 100 yX0_weekOf, .static yX0_weekOf, .code yX0_weekOf cX0_weekOf 1 (some .int)] ++ wsX00)
def wsX0_marginAt : List Cond := .code yX0_marginAt cX0_marginAt 4 (some .int) :: ([.fieldLink RX0 22 "AssignmentHouse" "lowVolume" "[I", .fieldLink RX0 19 "AssignmentHouse" "lowMargin" "[I", .fieldLink RX0 16 "AssignmentHouse" "highMargin" "[I", .methodLink RX0 144 yX0_hoursAtSite, .instanceMethod yX0_hoursAtSite, .selects RX0 yX0_hoursAtSite yX0_hoursAtSite, .initialized RX0, .code yX0_hoursAtSite cX0_hoursAtSite 5 (some .int), .fieldLink RX0 32 "AssignmentHouse" "shiftCount" "I", .fieldLink RX0 44 "AssignmentHouse" "hoursOf" "[I", .methodLink RX0 119 yX0_isAtSite, .instanceMethod yX0_isAtSite, .selects RX0 yX0_isAtSite yX0_isAtSite, .code yX0_isAtSite cX0_isAtSite 4 (some .boolean), .fieldLink RX0 38 "AssignmentHouse" "siteOf" "[I", .fieldLink RX0 41 "AssignmentHouse" "dayOf" "[I", .methodLink RX0 79 yX0_at, .static yX0_at, .code yX0_at cX0_at 2 (some .int), .methodLink RX0 100 yX0_weekOf, .static yX0_weekOf, .code yX0_weekOf cX0_weekOf 1 (some .int)] ++ wsX00)
def wsX0_chargeFor : List Cond := .code yX0_chargeFor cX0_chargeFor 2 (some .int) :: ([])
def wsX0_chargeOf_r1 : List Cond := [Cond.fieldLink RX0 32 "AssignmentHouse" "shiftCount" "I", Cond.fieldLink RX0 38 "AssignmentHouse" "siteOf" "[I", Cond.fieldLink RX0 41 "AssignmentHouse" "dayOf" "[I", Cond.methodLink RX0 63 yX0_needOneOf, Cond.static yX0_needOneOf, Cond.initialized RX0, Cond.code yX0_needOneOf cX0_needOneOf 2 none, Cond.classLink RX0 147 "java/lang/IndexOutOfBoundsException", Cond.initialized "java/lang/IndexOutOfBoundsException", Cond.methodLink RX0 79 yX0_at, Cond.static yX0_at, Cond.code yX0_at cX0_at 2 (some .int), Cond.methodLink RX0 100 yX0_weekOf, Cond.static yX0_weekOf, Cond.code yX0_weekOf cX0_weekOf 1 (some .int), Cond.methodLink RX0 103 yX0_marginAt, Cond.instanceMethod yX0_marginAt, Cond.selects RX0 yX0_marginAt yX0_marginAt, Cond.code yX0_marginAt cX0_marginAt 4 (some .int), Cond.fieldLink RX0 22 "AssignmentHouse" "lowVolume" "[I", Cond.fieldLink RX0 19 "AssignmentHouse" "lowMargin" "[I", Cond.fieldLink RX0 16 "AssignmentHouse" "highMargin" "[I", Cond.methodLink RX0 144 yX0_hoursAtSite, Cond.instanceMethod yX0_hoursAtSite]
def wsX0_chargeOf_r2 : List Cond := [Cond.selects RX0 yX0_hoursAtSite yX0_hoursAtSite, Cond.code yX0_hoursAtSite cX0_hoursAtSite 5 (some .int), Cond.fieldLink RX0 44 "AssignmentHouse" "hoursOf" "[I", Cond.methodLink RX0 119 yX0_isAtSite, Cond.instanceMethod yX0_isAtSite, Cond.selects RX0 yX0_isAtSite yX0_isAtSite, Cond.code yX0_isAtSite cX0_isAtSite 4 (some .boolean), Cond.methodLink RX0 97 yX0_shiftPay, Cond.instanceMethod yX0_shiftPay, Cond.selects RX0 yX0_shiftPay yX0_shiftPay, Cond.code yX0_shiftPay cX0_shiftPay 5 (some .int), Cond.fieldLink RX0 35 "AssignmentHouse" "workerOf" "[I", Cond.methodLink RX0 91 yX0_overtimeHours, Cond.instanceMethod yX0_overtimeHours, Cond.selects RX0 yX0_overtimeHours yX0_overtimeHours, Cond.code yX0_overtimeHours cX0_overtimeHours 6 (some .int), Cond.fieldLink RX0 56 "AssignmentHouse" "aheadOnDay" "[I", Cond.methodLink RX0 133 Lib.Math.max.name, Cond.static Lib.Math.max.name, Cond.initialized "java/lang/Math", Cond.code Lib.Math.max.name Lib.Math.max.code 2 (some .int), Cond.methodLink RX0 138 Lib.Math.min.name, Cond.static Lib.Math.min.name, Cond.code Lib.Math.min.name Lib.Math.min.code 2 (some .int)]
def wsX0_chargeOf_r3 : List Cond := [Cond.methodLink RX0 122 yX0_fillAheadOnDay, Cond.instanceMethod yX0_fillAheadOnDay, Cond.selects RX0 yX0_fillAheadOnDay yX0_fillAheadOnDay, Cond.code yX0_fillAheadOnDay cX0_fillAheadOnDay 9 none, Cond.methodLink RX0 59 yX0_put, Cond.static yX0_put, Cond.code yX0_put cX0_put 3 none, Cond.methodLink RX0 87 yX0_isOfWorker, Cond.instanceMethod yX0_isOfWorker, Cond.selects RX0 yX0_isOfWorker yX0_isOfWorker, Cond.code yX0_isOfWorker cX0_isOfWorker 4 (some .boolean), Cond.methodLink RX0 126 yX0_plainOfDay, Cond.static yX0_plainOfDay, Cond.code yX0_plainOfDay cX0_plainOfDay 1 (some .int), Cond.methodLink RX0 129 yX0_plainByDayAhead, Cond.instanceMethod yX0_plainByDayAhead, Cond.selects RX0 yX0_plainByDayAhead yX0_plainByDayAhead, Cond.code yX0_plainByDayAhead cX0_plainByDayAhead 3 (some .int), Cond.methodLink RX0 112 yX0_rateThere, Cond.instanceMethod yX0_rateThere, Cond.selects RX0 yX0_rateThere yX0_rateThere, Cond.code yX0_rateThere cX0_rateThere 4 (some .int), Cond.fieldLink RX0 13 "AssignmentHouse" "equalRate" "[I", Cond.fieldLink RX0 9 "AssignmentHouse" "plainRate" "[I"]
def wsX0_chargeOf_r4 : List Cond := [Cond.methodLink RX0 94 yX0_isEqual, Cond.instanceMethod yX0_isEqual, Cond.selects RX0 yX0_isEqual yX0_isEqual, Cond.code yX0_isEqual cX0_isEqual 8 (some .boolean), Cond.fieldLink RX0 29 "AssignmentHouse" "equalGap" "I", Cond.fieldLink RX0 25 "AssignmentHouse" "equalSpan" "I", Cond.methodLink RX0 141 yX0_weeksWorked, Cond.instanceMethod yX0_weeksWorked, Cond.selects RX0 yX0_weeksWorked yX0_weeksWorked, Cond.code yX0_weeksWorked cX0_weeksWorked 5 (some .int), Cond.methodLink RX0 106 yX0_chargeFor, Cond.static yX0_chargeFor, Cond.code yX0_chargeFor cX0_chargeFor 2 (some .int)]
def wsX0_chargeOf : List Cond := .code yX0_chargeOf cX0_chargeOf 3 (some .int) :: ((wsX0_chargeOf_r1 ++ (wsX0_chargeOf_r2 ++ (wsX0_chargeOf_r3 ++ wsX0_chargeOf_r4))) ++ wsX00 ++ (vx_atS RX0 151 "java/lang/IndexOutOfBoundsException" ["java/lang/RuntimeException", "java/lang/Exception"]).filter goodWord)
def wsX0_weekPay_r1 : List Cond := [Cond.fieldLink RX0 32 "AssignmentHouse" "shiftCount" "I", Cond.methodLink RX0 87 yX0_isOfWorker, Cond.instanceMethod yX0_isOfWorker, Cond.selects RX0 yX0_isOfWorker yX0_isOfWorker, Cond.initialized RX0, Cond.code yX0_isOfWorker cX0_isOfWorker 4 (some .boolean), Cond.fieldLink RX0 35 "AssignmentHouse" "workerOf" "[I", Cond.fieldLink RX0 41 "AssignmentHouse" "dayOf" "[I", Cond.methodLink RX0 79 yX0_at, Cond.static yX0_at, Cond.code yX0_at cX0_at 2 (some .int), Cond.methodLink RX0 100 yX0_weekOf, Cond.static yX0_weekOf, Cond.code yX0_weekOf cX0_weekOf 1 (some .int), Cond.methodLink RX0 97 yX0_shiftPay, Cond.instanceMethod yX0_shiftPay, Cond.selects RX0 yX0_shiftPay yX0_shiftPay, Cond.code yX0_shiftPay cX0_shiftPay 5 (some .int), Cond.fieldLink RX0 44 "AssignmentHouse" "hoursOf" "[I", Cond.fieldLink RX0 38 "AssignmentHouse" "siteOf" "[I", Cond.methodLink RX0 91 yX0_overtimeHours, Cond.instanceMethod yX0_overtimeHours, Cond.selects RX0 yX0_overtimeHours yX0_overtimeHours, Cond.code yX0_overtimeHours cX0_overtimeHours 6 (some .int)]
def wsX0_weekPay_r2 : List Cond := [Cond.fieldLink RX0 56 "AssignmentHouse" "aheadOnDay" "[I", Cond.methodLink RX0 133 Lib.Math.max.name, Cond.static Lib.Math.max.name, Cond.initialized "java/lang/Math", Cond.code Lib.Math.max.name Lib.Math.max.code 2 (some .int), Cond.methodLink RX0 138 Lib.Math.min.name, Cond.static Lib.Math.min.name, Cond.code Lib.Math.min.name Lib.Math.min.code 2 (some .int), Cond.methodLink RX0 122 yX0_fillAheadOnDay, Cond.instanceMethod yX0_fillAheadOnDay, Cond.selects RX0 yX0_fillAheadOnDay yX0_fillAheadOnDay, Cond.code yX0_fillAheadOnDay cX0_fillAheadOnDay 9 none, Cond.methodLink RX0 59 yX0_put, Cond.static yX0_put, Cond.code yX0_put cX0_put 3 none, Cond.methodLink RX0 126 yX0_plainOfDay, Cond.static yX0_plainOfDay, Cond.code yX0_plainOfDay cX0_plainOfDay 1 (some .int), Cond.methodLink RX0 129 yX0_plainByDayAhead, Cond.instanceMethod yX0_plainByDayAhead, Cond.selects RX0 yX0_plainByDayAhead yX0_plainByDayAhead, Cond.code yX0_plainByDayAhead cX0_plainByDayAhead 3 (some .int), Cond.methodLink RX0 112 yX0_rateThere, Cond.instanceMethod yX0_rateThere]
def wsX0_weekPay_r3 : List Cond := [Cond.selects RX0 yX0_rateThere yX0_rateThere, Cond.code yX0_rateThere cX0_rateThere 4 (some .int), Cond.fieldLink RX0 13 "AssignmentHouse" "equalRate" "[I", Cond.fieldLink RX0 9 "AssignmentHouse" "plainRate" "[I", Cond.methodLink RX0 94 yX0_isEqual, Cond.instanceMethod yX0_isEqual, Cond.selects RX0 yX0_isEqual yX0_isEqual, Cond.code yX0_isEqual cX0_isEqual 8 (some .boolean), Cond.fieldLink RX0 29 "AssignmentHouse" "equalGap" "I", Cond.fieldLink RX0 25 "AssignmentHouse" "equalSpan" "I", Cond.methodLink RX0 141 yX0_weeksWorked, Cond.instanceMethod yX0_weeksWorked, Cond.selects RX0 yX0_weeksWorked yX0_weeksWorked, Cond.code yX0_weeksWorked cX0_weeksWorked 5 (some .int)]
def wsX0_weekPay : List Cond := .code yX0_weekPay cX0_weekPay 5 (some .int) :: ((wsX0_weekPay_r1 ++ (wsX0_weekPay_r2 ++ wsX0_weekPay_r3)) ++ wsX00)
def wsX0_pay_r1 : List Cond := [Cond.methodLink RX0 63 yX0_needOneOf, Cond.static yX0_needOneOf, Cond.initialized RX0, Cond.code yX0_needOneOf cX0_needOneOf 2 none, Cond.classLink RX0 147 "java/lang/IndexOutOfBoundsException", Cond.initialized "java/lang/IndexOutOfBoundsException", Cond.methodLink RX0 109 yX0_weekPay, Cond.instanceMethod yX0_weekPay, Cond.selects RX0 yX0_weekPay yX0_weekPay, Cond.code yX0_weekPay cX0_weekPay 5 (some .int), Cond.fieldLink RX0 32 "AssignmentHouse" "shiftCount" "I", Cond.methodLink RX0 87 yX0_isOfWorker, Cond.instanceMethod yX0_isOfWorker, Cond.selects RX0 yX0_isOfWorker yX0_isOfWorker, Cond.code yX0_isOfWorker cX0_isOfWorker 4 (some .boolean), Cond.fieldLink RX0 35 "AssignmentHouse" "workerOf" "[I", Cond.fieldLink RX0 41 "AssignmentHouse" "dayOf" "[I", Cond.methodLink RX0 79 yX0_at, Cond.static yX0_at, Cond.code yX0_at cX0_at 2 (some .int), Cond.methodLink RX0 100 yX0_weekOf, Cond.static yX0_weekOf, Cond.code yX0_weekOf cX0_weekOf 1 (some .int), Cond.methodLink RX0 97 yX0_shiftPay]
def wsX0_pay_r2 : List Cond := [Cond.instanceMethod yX0_shiftPay, Cond.selects RX0 yX0_shiftPay yX0_shiftPay, Cond.code yX0_shiftPay cX0_shiftPay 5 (some .int), Cond.fieldLink RX0 44 "AssignmentHouse" "hoursOf" "[I", Cond.fieldLink RX0 38 "AssignmentHouse" "siteOf" "[I", Cond.methodLink RX0 91 yX0_overtimeHours, Cond.instanceMethod yX0_overtimeHours, Cond.selects RX0 yX0_overtimeHours yX0_overtimeHours, Cond.code yX0_overtimeHours cX0_overtimeHours 6 (some .int), Cond.fieldLink RX0 56 "AssignmentHouse" "aheadOnDay" "[I", Cond.methodLink RX0 133 Lib.Math.max.name, Cond.static Lib.Math.max.name, Cond.initialized "java/lang/Math", Cond.code Lib.Math.max.name Lib.Math.max.code 2 (some .int), Cond.methodLink RX0 138 Lib.Math.min.name, Cond.static Lib.Math.min.name, Cond.code Lib.Math.min.name Lib.Math.min.code 2 (some .int), Cond.methodLink RX0 122 yX0_fillAheadOnDay, Cond.instanceMethod yX0_fillAheadOnDay, Cond.selects RX0 yX0_fillAheadOnDay yX0_fillAheadOnDay, Cond.code yX0_fillAheadOnDay cX0_fillAheadOnDay 9 none, Cond.methodLink RX0 59 yX0_put, Cond.static yX0_put, Cond.code yX0_put cX0_put 3 none]
def wsX0_pay_r3 : List Cond := [Cond.methodLink RX0 126 yX0_plainOfDay, Cond.static yX0_plainOfDay, Cond.code yX0_plainOfDay cX0_plainOfDay 1 (some .int), Cond.methodLink RX0 129 yX0_plainByDayAhead, Cond.instanceMethod yX0_plainByDayAhead, Cond.selects RX0 yX0_plainByDayAhead yX0_plainByDayAhead, Cond.code yX0_plainByDayAhead cX0_plainByDayAhead 3 (some .int), Cond.methodLink RX0 112 yX0_rateThere, Cond.instanceMethod yX0_rateThere, Cond.selects RX0 yX0_rateThere yX0_rateThere, Cond.code yX0_rateThere cX0_rateThere 4 (some .int), Cond.fieldLink RX0 13 "AssignmentHouse" "equalRate" "[I", Cond.fieldLink RX0 9 "AssignmentHouse" "plainRate" "[I", Cond.methodLink RX0 94 yX0_isEqual, Cond.instanceMethod yX0_isEqual, Cond.selects RX0 yX0_isEqual yX0_isEqual, Cond.code yX0_isEqual cX0_isEqual 8 (some .boolean), Cond.fieldLink RX0 29 "AssignmentHouse" "equalGap" "I", Cond.fieldLink RX0 25 "AssignmentHouse" "equalSpan" "I", Cond.methodLink RX0 141 yX0_weeksWorked, Cond.instanceMethod yX0_weeksWorked, Cond.selects RX0 yX0_weeksWorked yX0_weeksWorked, Cond.code yX0_weeksWorked cX0_weeksWorked 5 (some .int)]
def wsX0_pay : List Cond := .code yX0_pay cX0_pay 3 (some .int) :: ((wsX0_pay_r1 ++ (wsX0_pay_r2 ++ wsX0_pay_r3)) ++ wsX00 ++ (vx_atS RX0 151 "java/lang/IndexOutOfBoundsException" ["java/lang/RuntimeException", "java/lang/Exception"]).filter goodWord)
def wsX0_payByHours_r1 : List Cond := [Cond.fieldLink RX0 32 "AssignmentHouse" "shiftCount" "I", Cond.fieldLink RX0 35 "AssignmentHouse" "workerOf" "[I", Cond.fieldLink RX0 41 "AssignmentHouse" "dayOf" "[I", Cond.fieldLink RX0 38 "AssignmentHouse" "siteOf" "[I", Cond.fieldLink RX0 44 "AssignmentHouse" "hoursOf" "[I", Cond.methodLink RX0 63 yX0_needOneOf, Cond.static yX0_needOneOf, Cond.initialized RX0, Cond.code yX0_needOneOf cX0_needOneOf 2 none, Cond.classLink RX0 147 "java/lang/IndexOutOfBoundsException", Cond.initialized "java/lang/IndexOutOfBoundsException", Cond.methodLink RX0 79 yX0_at, Cond.static yX0_at, Cond.code yX0_at cX0_at 2 (some .int), Cond.methodLink RX0 112 yX0_rateThere, Cond.instanceMethod yX0_rateThere, Cond.selects RX0 yX0_rateThere yX0_rateThere, Cond.code yX0_rateThere cX0_rateThere 4 (some .int), Cond.fieldLink RX0 13 "AssignmentHouse" "equalRate" "[I", Cond.fieldLink RX0 9 "AssignmentHouse" "plainRate" "[I", Cond.methodLink RX0 94 yX0_isEqual, Cond.instanceMethod yX0_isEqual, Cond.selects RX0 yX0_isEqual yX0_isEqual, Cond.code yX0_isEqual cX0_isEqual 8 (some .boolean)]
def wsX0_payByHours_r2 : List Cond := [Cond.fieldLink RX0 29 "AssignmentHouse" "equalGap" "I", Cond.fieldLink RX0 25 "AssignmentHouse" "equalSpan" "I", Cond.methodLink RX0 141 yX0_weeksWorked, Cond.instanceMethod yX0_weeksWorked, Cond.selects RX0 yX0_weeksWorked yX0_weeksWorked, Cond.code yX0_weeksWorked cX0_weeksWorked 5 (some .int), Cond.methodLink RX0 100 yX0_weekOf, Cond.static yX0_weekOf, Cond.code yX0_weekOf cX0_weekOf 1 (some .int)]
def wsX0_payByHours : List Cond := .code yX0_payByHours cX0_payByHours 13 (some .int) :: ((wsX0_payByHours_r1 ++ wsX0_payByHours_r2) ++ wsX00 ++ (vx_atS RX0 151 "java/lang/IndexOutOfBoundsException" ["java/lang/RuntimeException", "java/lang/Exception"]).filter goodWord)
def wsX0_weekCharge_r1 : List Cond := [Cond.fieldLink RX0 32 "AssignmentHouse" "shiftCount" "I", Cond.methodLink RX0 103 yX0_marginAt, Cond.instanceMethod yX0_marginAt, Cond.selects RX0 yX0_marginAt yX0_marginAt, Cond.initialized RX0, Cond.code yX0_marginAt cX0_marginAt 4 (some .int), Cond.fieldLink RX0 22 "AssignmentHouse" "lowVolume" "[I", Cond.fieldLink RX0 19 "AssignmentHouse" "lowMargin" "[I", Cond.fieldLink RX0 16 "AssignmentHouse" "highMargin" "[I", Cond.methodLink RX0 144 yX0_hoursAtSite, Cond.instanceMethod yX0_hoursAtSite, Cond.selects RX0 yX0_hoursAtSite yX0_hoursAtSite, Cond.code yX0_hoursAtSite cX0_hoursAtSite 5 (some .int), Cond.fieldLink RX0 44 "AssignmentHouse" "hoursOf" "[I", Cond.methodLink RX0 119 yX0_isAtSite, Cond.instanceMethod yX0_isAtSite, Cond.selects RX0 yX0_isAtSite yX0_isAtSite, Cond.code yX0_isAtSite cX0_isAtSite 4 (some .boolean), Cond.fieldLink RX0 38 "AssignmentHouse" "siteOf" "[I", Cond.fieldLink RX0 41 "AssignmentHouse" "dayOf" "[I", Cond.methodLink RX0 79 yX0_at, Cond.static yX0_at, Cond.code yX0_at cX0_at 2 (some .int), Cond.methodLink RX0 100 yX0_weekOf]
def wsX0_weekCharge_r2 : List Cond := [Cond.static yX0_weekOf, Cond.code yX0_weekOf cX0_weekOf 1 (some .int), Cond.methodLink RX0 97 yX0_shiftPay, Cond.instanceMethod yX0_shiftPay, Cond.selects RX0 yX0_shiftPay yX0_shiftPay, Cond.code yX0_shiftPay cX0_shiftPay 5 (some .int), Cond.fieldLink RX0 35 "AssignmentHouse" "workerOf" "[I", Cond.methodLink RX0 91 yX0_overtimeHours, Cond.instanceMethod yX0_overtimeHours, Cond.selects RX0 yX0_overtimeHours yX0_overtimeHours, Cond.code yX0_overtimeHours cX0_overtimeHours 6 (some .int), Cond.fieldLink RX0 56 "AssignmentHouse" "aheadOnDay" "[I", Cond.methodLink RX0 133 Lib.Math.max.name, Cond.static Lib.Math.max.name, Cond.initialized "java/lang/Math", Cond.code Lib.Math.max.name Lib.Math.max.code 2 (some .int), Cond.methodLink RX0 138 Lib.Math.min.name, Cond.static Lib.Math.min.name, Cond.code Lib.Math.min.name Lib.Math.min.code 2 (some .int), Cond.methodLink RX0 122 yX0_fillAheadOnDay, Cond.instanceMethod yX0_fillAheadOnDay, Cond.selects RX0 yX0_fillAheadOnDay yX0_fillAheadOnDay, Cond.code yX0_fillAheadOnDay cX0_fillAheadOnDay 9 none, Cond.methodLink RX0 59 yX0_put]
def wsX0_weekCharge_r3 : List Cond := [Cond.static yX0_put, Cond.code yX0_put cX0_put 3 none, Cond.methodLink RX0 87 yX0_isOfWorker, Cond.instanceMethod yX0_isOfWorker, Cond.selects RX0 yX0_isOfWorker yX0_isOfWorker, Cond.code yX0_isOfWorker cX0_isOfWorker 4 (some .boolean), Cond.methodLink RX0 126 yX0_plainOfDay, Cond.static yX0_plainOfDay, Cond.code yX0_plainOfDay cX0_plainOfDay 1 (some .int), Cond.methodLink RX0 129 yX0_plainByDayAhead, Cond.instanceMethod yX0_plainByDayAhead, Cond.selects RX0 yX0_plainByDayAhead yX0_plainByDayAhead, Cond.code yX0_plainByDayAhead cX0_plainByDayAhead 3 (some .int), Cond.methodLink RX0 112 yX0_rateThere, Cond.instanceMethod yX0_rateThere, Cond.selects RX0 yX0_rateThere yX0_rateThere, Cond.code yX0_rateThere cX0_rateThere 4 (some .int), Cond.fieldLink RX0 13 "AssignmentHouse" "equalRate" "[I", Cond.fieldLink RX0 9 "AssignmentHouse" "plainRate" "[I", Cond.methodLink RX0 94 yX0_isEqual, Cond.instanceMethod yX0_isEqual, Cond.selects RX0 yX0_isEqual yX0_isEqual, Cond.code yX0_isEqual cX0_isEqual 8 (some .boolean), Cond.fieldLink RX0 29 "AssignmentHouse" "equalGap" "I"]
def wsX0_weekCharge_r4 : List Cond := [Cond.fieldLink RX0 25 "AssignmentHouse" "equalSpan" "I", Cond.methodLink RX0 141 yX0_weeksWorked, Cond.instanceMethod yX0_weeksWorked, Cond.selects RX0 yX0_weeksWorked yX0_weeksWorked, Cond.code yX0_weeksWorked cX0_weeksWorked 5 (some .int), Cond.methodLink RX0 106 yX0_chargeFor, Cond.static yX0_chargeFor, Cond.code yX0_chargeFor cX0_chargeFor 2 (some .int)]
def wsX0_weekCharge : List Cond := .code yX0_weekCharge cX0_weekCharge 6 (some .int) :: ((wsX0_weekCharge_r1 ++ (wsX0_weekCharge_r2 ++ (wsX0_weekCharge_r3 ++ wsX0_weekCharge_r4))) ++ wsX00)
def wsX0_run_r1 : List Cond := [Cond.fieldLink RX0 47 "AssignmentHouse" "paidFor" "[I", Cond.fieldLink RX0 50 "AssignmentHouse" "billedFor" "[I", Cond.methodLink RX0 63 yX0_needOneOf, Cond.static yX0_needOneOf, Cond.initialized RX0, Cond.code yX0_needOneOf cX0_needOneOf 2 none, Cond.classLink RX0 147 "java/lang/IndexOutOfBoundsException", Cond.initialized "java/lang/IndexOutOfBoundsException", Cond.methodLink RX0 109 yX0_weekPay, Cond.instanceMethod yX0_weekPay, Cond.selects RX0 yX0_weekPay yX0_weekPay, Cond.code yX0_weekPay cX0_weekPay 5 (some .int), Cond.fieldLink RX0 32 "AssignmentHouse" "shiftCount" "I", Cond.methodLink RX0 87 yX0_isOfWorker, Cond.instanceMethod yX0_isOfWorker, Cond.selects RX0 yX0_isOfWorker yX0_isOfWorker, Cond.code yX0_isOfWorker cX0_isOfWorker 4 (some .boolean), Cond.fieldLink RX0 35 "AssignmentHouse" "workerOf" "[I", Cond.fieldLink RX0 41 "AssignmentHouse" "dayOf" "[I", Cond.methodLink RX0 79 yX0_at, Cond.static yX0_at, Cond.code yX0_at cX0_at 2 (some .int), Cond.methodLink RX0 100 yX0_weekOf, Cond.static yX0_weekOf]
def wsX0_run_r2 : List Cond := [Cond.code yX0_weekOf cX0_weekOf 1 (some .int), Cond.methodLink RX0 97 yX0_shiftPay, Cond.instanceMethod yX0_shiftPay, Cond.selects RX0 yX0_shiftPay yX0_shiftPay, Cond.code yX0_shiftPay cX0_shiftPay 5 (some .int), Cond.fieldLink RX0 44 "AssignmentHouse" "hoursOf" "[I", Cond.fieldLink RX0 38 "AssignmentHouse" "siteOf" "[I", Cond.methodLink RX0 91 yX0_overtimeHours, Cond.instanceMethod yX0_overtimeHours, Cond.selects RX0 yX0_overtimeHours yX0_overtimeHours, Cond.code yX0_overtimeHours cX0_overtimeHours 6 (some .int), Cond.fieldLink RX0 56 "AssignmentHouse" "aheadOnDay" "[I", Cond.methodLink RX0 133 Lib.Math.max.name, Cond.static Lib.Math.max.name, Cond.initialized "java/lang/Math", Cond.code Lib.Math.max.name Lib.Math.max.code 2 (some .int), Cond.methodLink RX0 138 Lib.Math.min.name, Cond.static Lib.Math.min.name, Cond.code Lib.Math.min.name Lib.Math.min.code 2 (some .int), Cond.methodLink RX0 122 yX0_fillAheadOnDay, Cond.instanceMethod yX0_fillAheadOnDay, Cond.selects RX0 yX0_fillAheadOnDay yX0_fillAheadOnDay, Cond.code yX0_fillAheadOnDay cX0_fillAheadOnDay 9 none, Cond.methodLink RX0 59 yX0_put]
def wsX0_run_r3 : List Cond := [Cond.static yX0_put, Cond.code yX0_put cX0_put 3 none, Cond.methodLink RX0 126 yX0_plainOfDay, Cond.static yX0_plainOfDay, Cond.code yX0_plainOfDay cX0_plainOfDay 1 (some .int), Cond.methodLink RX0 129 yX0_plainByDayAhead, Cond.instanceMethod yX0_plainByDayAhead, Cond.selects RX0 yX0_plainByDayAhead yX0_plainByDayAhead, Cond.code yX0_plainByDayAhead cX0_plainByDayAhead 3 (some .int), Cond.methodLink RX0 112 yX0_rateThere, Cond.instanceMethod yX0_rateThere, Cond.selects RX0 yX0_rateThere yX0_rateThere, Cond.code yX0_rateThere cX0_rateThere 4 (some .int), Cond.fieldLink RX0 13 "AssignmentHouse" "equalRate" "[I", Cond.fieldLink RX0 9 "AssignmentHouse" "plainRate" "[I", Cond.methodLink RX0 94 yX0_isEqual, Cond.instanceMethod yX0_isEqual, Cond.selects RX0 yX0_isEqual yX0_isEqual, Cond.code yX0_isEqual cX0_isEqual 8 (some .boolean), Cond.fieldLink RX0 29 "AssignmentHouse" "equalGap" "I", Cond.fieldLink RX0 25 "AssignmentHouse" "equalSpan" "I", Cond.methodLink RX0 141 yX0_weeksWorked, Cond.instanceMethod yX0_weeksWorked, Cond.selects RX0 yX0_weeksWorked yX0_weeksWorked]
def wsX0_run_r4 : List Cond := [Cond.code yX0_weeksWorked cX0_weeksWorked 5 (some .int), Cond.methodLink RX0 116 yX0_weekCharge, Cond.instanceMethod yX0_weekCharge, Cond.selects RX0 yX0_weekCharge yX0_weekCharge, Cond.code yX0_weekCharge cX0_weekCharge 6 (some .int), Cond.methodLink RX0 103 yX0_marginAt, Cond.instanceMethod yX0_marginAt, Cond.selects RX0 yX0_marginAt yX0_marginAt, Cond.code yX0_marginAt cX0_marginAt 4 (some .int), Cond.fieldLink RX0 22 "AssignmentHouse" "lowVolume" "[I", Cond.fieldLink RX0 19 "AssignmentHouse" "lowMargin" "[I", Cond.fieldLink RX0 16 "AssignmentHouse" "highMargin" "[I", Cond.methodLink RX0 144 yX0_hoursAtSite, Cond.instanceMethod yX0_hoursAtSite, Cond.selects RX0 yX0_hoursAtSite yX0_hoursAtSite, Cond.code yX0_hoursAtSite cX0_hoursAtSite 5 (some .int), Cond.methodLink RX0 119 yX0_isAtSite, Cond.instanceMethod yX0_isAtSite, Cond.selects RX0 yX0_isAtSite yX0_isAtSite, Cond.code yX0_isAtSite cX0_isAtSite 4 (some .boolean), Cond.methodLink RX0 106 yX0_chargeFor, Cond.static yX0_chargeFor, Cond.code yX0_chargeFor cX0_chargeFor 2 (some .int)]
def wsX0_run : List Cond := .code yX0_run cX0_run 6 (some .int) :: ((wsX0_run_r1 ++ (wsX0_run_r2 ++ (wsX0_run_r3 ++ wsX0_run_r4))) ++ wsX00 ++ (vx_atS RX0 151 "java/lang/IndexOutOfBoundsException" ["java/lang/RuntimeException", "java/lang/Exception"]).filter goodWord)
def wsX0_paid : List Cond := .code yX0_paid cX0_paid 3 (some .int) :: ([.fieldLink RX0 47 "AssignmentHouse" "paidFor" "[I", .methodLink RX0 63 yX0_needOneOf, .static yX0_needOneOf, .initialized RX0, .code yX0_needOneOf cX0_needOneOf 2 none, .classLink RX0 147 "java/lang/IndexOutOfBoundsException", .initialized "java/lang/IndexOutOfBoundsException", .methodLink RX0 79 yX0_at, .static yX0_at, .code yX0_at cX0_at 2 (some .int)] ++ wsX00 ++ (vx_atS RX0 151 "java/lang/IndexOutOfBoundsException" ["java/lang/RuntimeException", "java/lang/Exception"]).filter goodWord)
def wsX0_billed : List Cond := .code yX0_billed cX0_billed 3 (some .int) :: ([.fieldLink RX0 50 "AssignmentHouse" "billedFor" "[I", .methodLink RX0 63 yX0_needOneOf, .static yX0_needOneOf, .initialized RX0, .code yX0_needOneOf cX0_needOneOf 2 none, .classLink RX0 147 "java/lang/IndexOutOfBoundsException", .initialized "java/lang/IndexOutOfBoundsException", .methodLink RX0 79 yX0_at, .static yX0_at, .code yX0_at cX0_at 2 (some .int)] ++ wsX00 ++ (vx_atS RX0 151 "java/lang/IndexOutOfBoundsException" ["java/lang/RuntimeException", "java/lang/Exception"]).filter goodWord)
def wsX0_owing_r1 : List Cond := [Cond.fieldLink RX0 47 "AssignmentHouse" "paidFor" "[I", Cond.methodLink RX0 63 yX0_needOneOf, Cond.static yX0_needOneOf, Cond.initialized RX0, Cond.code yX0_needOneOf cX0_needOneOf 2 none, Cond.classLink RX0 147 "java/lang/IndexOutOfBoundsException", Cond.initialized "java/lang/IndexOutOfBoundsException", Cond.methodLink RX0 109 yX0_weekPay, Cond.instanceMethod yX0_weekPay, Cond.selects RX0 yX0_weekPay yX0_weekPay, Cond.code yX0_weekPay cX0_weekPay 5 (some .int), Cond.fieldLink RX0 32 "AssignmentHouse" "shiftCount" "I", Cond.methodLink RX0 87 yX0_isOfWorker, Cond.instanceMethod yX0_isOfWorker, Cond.selects RX0 yX0_isOfWorker yX0_isOfWorker, Cond.code yX0_isOfWorker cX0_isOfWorker 4 (some .boolean), Cond.fieldLink RX0 35 "AssignmentHouse" "workerOf" "[I", Cond.fieldLink RX0 41 "AssignmentHouse" "dayOf" "[I", Cond.methodLink RX0 79 yX0_at, Cond.static yX0_at, Cond.code yX0_at cX0_at 2 (some .int), Cond.methodLink RX0 100 yX0_weekOf, Cond.static yX0_weekOf, Cond.code yX0_weekOf cX0_weekOf 1 (some .int)]
def wsX0_owing_r2 : List Cond := [Cond.methodLink RX0 97 yX0_shiftPay, Cond.instanceMethod yX0_shiftPay, Cond.selects RX0 yX0_shiftPay yX0_shiftPay, Cond.code yX0_shiftPay cX0_shiftPay 5 (some .int), Cond.fieldLink RX0 44 "AssignmentHouse" "hoursOf" "[I", Cond.fieldLink RX0 38 "AssignmentHouse" "siteOf" "[I", Cond.methodLink RX0 91 yX0_overtimeHours, Cond.instanceMethod yX0_overtimeHours, Cond.selects RX0 yX0_overtimeHours yX0_overtimeHours, Cond.code yX0_overtimeHours cX0_overtimeHours 6 (some .int), Cond.fieldLink RX0 56 "AssignmentHouse" "aheadOnDay" "[I", Cond.methodLink RX0 133 Lib.Math.max.name, Cond.static Lib.Math.max.name, Cond.initialized "java/lang/Math", Cond.code Lib.Math.max.name Lib.Math.max.code 2 (some .int), Cond.methodLink RX0 138 Lib.Math.min.name, Cond.static Lib.Math.min.name, Cond.code Lib.Math.min.name Lib.Math.min.code 2 (some .int), Cond.methodLink RX0 122 yX0_fillAheadOnDay, Cond.instanceMethod yX0_fillAheadOnDay, Cond.selects RX0 yX0_fillAheadOnDay yX0_fillAheadOnDay, Cond.code yX0_fillAheadOnDay cX0_fillAheadOnDay 9 none, Cond.methodLink RX0 59 yX0_put, Cond.static yX0_put]
def wsX0_owing_r3 : List Cond := [Cond.code yX0_put cX0_put 3 none, Cond.methodLink RX0 126 yX0_plainOfDay, Cond.static yX0_plainOfDay, Cond.code yX0_plainOfDay cX0_plainOfDay 1 (some .int), Cond.methodLink RX0 129 yX0_plainByDayAhead, Cond.instanceMethod yX0_plainByDayAhead, Cond.selects RX0 yX0_plainByDayAhead yX0_plainByDayAhead, Cond.code yX0_plainByDayAhead cX0_plainByDayAhead 3 (some .int), Cond.methodLink RX0 112 yX0_rateThere, Cond.instanceMethod yX0_rateThere, Cond.selects RX0 yX0_rateThere yX0_rateThere, Cond.code yX0_rateThere cX0_rateThere 4 (some .int), Cond.fieldLink RX0 13 "AssignmentHouse" "equalRate" "[I", Cond.fieldLink RX0 9 "AssignmentHouse" "plainRate" "[I", Cond.methodLink RX0 94 yX0_isEqual, Cond.instanceMethod yX0_isEqual, Cond.selects RX0 yX0_isEqual yX0_isEqual, Cond.code yX0_isEqual cX0_isEqual 8 (some .boolean), Cond.fieldLink RX0 29 "AssignmentHouse" "equalGap" "I", Cond.fieldLink RX0 25 "AssignmentHouse" "equalSpan" "I", Cond.methodLink RX0 141 yX0_weeksWorked, Cond.instanceMethod yX0_weeksWorked, Cond.selects RX0 yX0_weeksWorked yX0_weeksWorked, Cond.code yX0_weeksWorked cX0_weeksWorked 5 (some .int)]
def wsX0_owing : List Cond := .code yX0_owing cX0_owing 3 (some .int) :: ((wsX0_owing_r1 ++ (wsX0_owing_r2 ++ wsX0_owing_r3)) ++ wsX00 ++ (vx_atS RX0 151 "java/lang/IndexOutOfBoundsException" ["java/lang/RuntimeException", "java/lang/Exception"]).filter goodWord)
def wsX0_toBill_r1 : List Cond := [Cond.fieldLink RX0 50 "AssignmentHouse" "billedFor" "[I", Cond.methodLink RX0 63 yX0_needOneOf, Cond.static yX0_needOneOf, Cond.initialized RX0, Cond.code yX0_needOneOf cX0_needOneOf 2 none, Cond.classLink RX0 147 "java/lang/IndexOutOfBoundsException", Cond.initialized "java/lang/IndexOutOfBoundsException", Cond.methodLink RX0 116 yX0_weekCharge, Cond.instanceMethod yX0_weekCharge, Cond.selects RX0 yX0_weekCharge yX0_weekCharge, Cond.code yX0_weekCharge cX0_weekCharge 6 (some .int), Cond.fieldLink RX0 32 "AssignmentHouse" "shiftCount" "I", Cond.methodLink RX0 103 yX0_marginAt, Cond.instanceMethod yX0_marginAt, Cond.selects RX0 yX0_marginAt yX0_marginAt, Cond.code yX0_marginAt cX0_marginAt 4 (some .int), Cond.fieldLink RX0 22 "AssignmentHouse" "lowVolume" "[I", Cond.fieldLink RX0 19 "AssignmentHouse" "lowMargin" "[I", Cond.fieldLink RX0 16 "AssignmentHouse" "highMargin" "[I", Cond.methodLink RX0 144 yX0_hoursAtSite, Cond.instanceMethod yX0_hoursAtSite, Cond.selects RX0 yX0_hoursAtSite yX0_hoursAtSite, Cond.code yX0_hoursAtSite cX0_hoursAtSite 5 (some .int), Cond.fieldLink RX0 44 "AssignmentHouse" "hoursOf" "[I"]
def wsX0_toBill_r2 : List Cond := [Cond.methodLink RX0 119 yX0_isAtSite, Cond.instanceMethod yX0_isAtSite, Cond.selects RX0 yX0_isAtSite yX0_isAtSite, Cond.code yX0_isAtSite cX0_isAtSite 4 (some .boolean), Cond.fieldLink RX0 38 "AssignmentHouse" "siteOf" "[I", Cond.fieldLink RX0 41 "AssignmentHouse" "dayOf" "[I", Cond.methodLink RX0 79 yX0_at, Cond.static yX0_at, Cond.code yX0_at cX0_at 2 (some .int), Cond.methodLink RX0 100 yX0_weekOf, Cond.static yX0_weekOf, Cond.code yX0_weekOf cX0_weekOf 1 (some .int), Cond.methodLink RX0 97 yX0_shiftPay, Cond.instanceMethod yX0_shiftPay, Cond.selects RX0 yX0_shiftPay yX0_shiftPay, Cond.code yX0_shiftPay cX0_shiftPay 5 (some .int), Cond.fieldLink RX0 35 "AssignmentHouse" "workerOf" "[I", Cond.methodLink RX0 91 yX0_overtimeHours, Cond.instanceMethod yX0_overtimeHours, Cond.selects RX0 yX0_overtimeHours yX0_overtimeHours, Cond.code yX0_overtimeHours cX0_overtimeHours 6 (some .int), Cond.fieldLink RX0 56 "AssignmentHouse" "aheadOnDay" "[I", Cond.methodLink RX0 133 Lib.Math.max.name, Cond.static Lib.Math.max.name]
def wsX0_toBill_r3 : List Cond := [Cond.initialized "java/lang/Math", Cond.code Lib.Math.max.name Lib.Math.max.code 2 (some .int), Cond.methodLink RX0 138 Lib.Math.min.name, Cond.static Lib.Math.min.name, Cond.code Lib.Math.min.name Lib.Math.min.code 2 (some .int), Cond.methodLink RX0 122 yX0_fillAheadOnDay, Cond.instanceMethod yX0_fillAheadOnDay, Cond.selects RX0 yX0_fillAheadOnDay yX0_fillAheadOnDay, Cond.code yX0_fillAheadOnDay cX0_fillAheadOnDay 9 none, Cond.methodLink RX0 59 yX0_put, Cond.static yX0_put, Cond.code yX0_put cX0_put 3 none, Cond.methodLink RX0 87 yX0_isOfWorker, Cond.instanceMethod yX0_isOfWorker, Cond.selects RX0 yX0_isOfWorker yX0_isOfWorker, Cond.code yX0_isOfWorker cX0_isOfWorker 4 (some .boolean), Cond.methodLink RX0 126 yX0_plainOfDay, Cond.static yX0_plainOfDay, Cond.code yX0_plainOfDay cX0_plainOfDay 1 (some .int), Cond.methodLink RX0 129 yX0_plainByDayAhead, Cond.instanceMethod yX0_plainByDayAhead, Cond.selects RX0 yX0_plainByDayAhead yX0_plainByDayAhead, Cond.code yX0_plainByDayAhead cX0_plainByDayAhead 3 (some .int), Cond.methodLink RX0 112 yX0_rateThere]
def wsX0_toBill_r4 : List Cond := [Cond.instanceMethod yX0_rateThere, Cond.selects RX0 yX0_rateThere yX0_rateThere, Cond.code yX0_rateThere cX0_rateThere 4 (some .int), Cond.fieldLink RX0 13 "AssignmentHouse" "equalRate" "[I", Cond.fieldLink RX0 9 "AssignmentHouse" "plainRate" "[I", Cond.methodLink RX0 94 yX0_isEqual, Cond.instanceMethod yX0_isEqual, Cond.selects RX0 yX0_isEqual yX0_isEqual, Cond.code yX0_isEqual cX0_isEqual 8 (some .boolean), Cond.fieldLink RX0 29 "AssignmentHouse" "equalGap" "I", Cond.fieldLink RX0 25 "AssignmentHouse" "equalSpan" "I", Cond.methodLink RX0 141 yX0_weeksWorked, Cond.instanceMethod yX0_weeksWorked, Cond.selects RX0 yX0_weeksWorked yX0_weeksWorked, Cond.code yX0_weeksWorked cX0_weeksWorked 5 (some .int), Cond.methodLink RX0 106 yX0_chargeFor, Cond.static yX0_chargeFor, Cond.code yX0_chargeFor cX0_chargeFor 2 (some .int)]
def wsX0_toBill : List Cond := .code yX0_toBill cX0_toBill 3 (some .int) :: ((wsX0_toBill_r1 ++ (wsX0_toBill_r2 ++ (wsX0_toBill_r3 ++ wsX0_toBill_r4))) ++ wsX00 ++ (vx_atS RX0 151 "java/lang/IndexOutOfBoundsException" ["java/lang/RuntimeException", "java/lang/Exception"]).filter goodWord)
def wsX0_takeHoliday_r1 : List Cond := [Cond.fieldLink RX0 53 "AssignmentHouse" "minutesTaken" "[I", Cond.methodLink RX0 63 yX0_needOneOf, Cond.static yX0_needOneOf, Cond.initialized RX0, Cond.code yX0_needOneOf cX0_needOneOf 2 none, Cond.classLink RX0 147 "java/lang/IndexOutOfBoundsException", Cond.initialized "java/lang/IndexOutOfBoundsException", Cond.methodLink RX0 67 yX0_needRange, Cond.static yX0_needRange, Cond.code yX0_needRange cX0_needRange 3 none, Cond.classLink RX0 154 "java/lang/IllegalArgumentException", Cond.initialized "java/lang/IllegalArgumentException", Cond.methodLink RX0 83 yX0_minutesLeft, Cond.instanceMethod yX0_minutesLeft, Cond.selects RX0 yX0_minutesLeft yX0_minutesLeft, Cond.code yX0_minutesLeft cX0_minutesLeft 4 (some .int), Cond.fieldLink RX0 32 "AssignmentHouse" "shiftCount" "I", Cond.fieldLink RX0 35 "AssignmentHouse" "workerOf" "[I", Cond.fieldLink RX0 44 "AssignmentHouse" "hoursOf" "[I", Cond.methodLink RX0 79 yX0_at, Cond.static yX0_at, Cond.code yX0_at cX0_at 2 (some .int), Cond.methodLink RX0 71 yX0_needState, Cond.static yX0_needState]
def wsX0_takeHoliday_r2 : List Cond := [Cond.code yX0_needState cX0_needState 1 none, Cond.classLink RX0 159 "java/lang/IllegalStateException", Cond.initialized "java/lang/IllegalStateException", Cond.methodLink RX0 59 yX0_put, Cond.static yX0_put, Cond.code yX0_put cX0_put 3 none]
def wsX0_takeHoliday : List Cond := .code yX0_takeHoliday cX0_takeHoliday 4 (some .int) :: ((wsX0_takeHoliday_r1 ++ wsX0_takeHoliday_r2) ++ wsX00 ++ (vx_atS RX0 151 "java/lang/IndexOutOfBoundsException" ["java/lang/RuntimeException", "java/lang/Exception"]).filter goodWord ++ (vx_atS RX0 158 "java/lang/IllegalArgumentException" ["java/lang/RuntimeException", "java/lang/Exception"]).filter goodWord ++ (vx_atS RX0 163 "java/lang/IllegalStateException" ["java/lang/RuntimeException", "java/lang/Exception"]).filter goodWord)
def wsX0_holiday : List Cond := .code yX0_holiday cX0_holiday 2 (some .int) :: ([.methodLink RX0 63 yX0_needOneOf, .static yX0_needOneOf, .initialized RX0, .code yX0_needOneOf cX0_needOneOf 2 none, .classLink RX0 147 "java/lang/IndexOutOfBoundsException", .initialized "java/lang/IndexOutOfBoundsException", .methodLink RX0 83 yX0_minutesLeft, .instanceMethod yX0_minutesLeft, .selects RX0 yX0_minutesLeft yX0_minutesLeft, .code yX0_minutesLeft cX0_minutesLeft 4 (some .int), .fieldLink RX0 32 "AssignmentHouse" "shiftCount" "I", .fieldLink RX0 35 "AssignmentHouse" "workerOf" "[I", .fieldLink RX0 44 "AssignmentHouse" "hoursOf" "[I", .fieldLink RX0 53 "AssignmentHouse" "minutesTaken" "[I", .methodLink RX0 79 yX0_at, .static yX0_at, .code yX0_at cX0_at 2 (some .int)] ++ wsX00 ++ (vx_atS RX0 151 "java/lang/IndexOutOfBoundsException" ["java/lang/RuntimeException", "java/lang/Exception"]).filter goodWord)
def wsJ9_max_7cf53 : List Cond := .code yJ9_max_7cf53 cJ9_max_7cf53 2 (some .int) :: ([])
def wsJ9_min_7cf53 : List Cond := .code yJ9_min_7cf53 cJ9_min_7cf53 2 (some .int) :: ([])
def wsL_dice : List Cond := .code yL_dice cL_dice 2 (some .int) :: ([.constant RL 7 (2024104815), .constant RL 8 (2147483647)])
def wsL_setRates : List Cond := .codeWith yL_setRates cL_setRates 5 (some .int) [(0, 8, 9, 15), (0, 8, 14, 18)] :: ([.classLink RL 15 "java/lang/IndexOutOfBoundsException", .classLink RL 18 "java/lang/IllegalArgumentException", .constant RL 17 (-1100000001), .constant RL 20 (-1100000002), .methodLink RL 9 yX0_setRates, .instanceMethod yX0_setRates, .selects RX0 yX0_setRates yX0_setRates, .initialized RX0, .code yX0_setRates cX0_setRates 4 none, .fieldLink RX0 9 "AssignmentHouse" "plainRate" "[I", .fieldLink RX0 13 "AssignmentHouse" "equalRate" "[I", .methodLink RX0 63 yX0_needOneOf, .static yX0_needOneOf, .code yX0_needOneOf cX0_needOneOf 2 none, .classLink RX0 147 "java/lang/IndexOutOfBoundsException", .initialized "java/lang/IndexOutOfBoundsException", .methodLink RX0 67 yX0_needRange, .static yX0_needRange, .code yX0_needRange cX0_needRange 3 none, .classLink RX0 154 "java/lang/IllegalArgumentException", .initialized "java/lang/IllegalArgumentException", .methodLink RX0 59 yX0_put, .static yX0_put, .code yX0_put cX0_put 3 none] ++ wsX00 ++ (vx_atS RX0 151 "java/lang/IndexOutOfBoundsException" ["java/lang/RuntimeException", "java/lang/Exception"]).filter goodWord ++ (vx_atS RX0 158 "java/lang/IllegalArgumentException" ["java/lang/RuntimeException", "java/lang/Exception"]).filter goodWord)
def wsL_setMargins_r1 : List Cond := [Cond.classLink RL 15 "java/lang/IndexOutOfBoundsException", Cond.classLink RL 18 "java/lang/IllegalArgumentException", Cond.constant RL 17 (-1100000001), Cond.constant RL 20 (-1100000002), Cond.methodLink RL 21 yX0_setMargins, Cond.instanceMethod yX0_setMargins, Cond.selects RX0 yX0_setMargins yX0_setMargins, Cond.initialized RX0, Cond.code yX0_setMargins cX0_setMargins 5 none, Cond.fieldLink RX0 16 "AssignmentHouse" "highMargin" "[I", Cond.fieldLink RX0 19 "AssignmentHouse" "lowMargin" "[I", Cond.fieldLink RX0 22 "AssignmentHouse" "lowVolume" "[I", Cond.methodLink RX0 63 yX0_needOneOf, Cond.static yX0_needOneOf, Cond.code yX0_needOneOf cX0_needOneOf 2 none, Cond.classLink RX0 147 "java/lang/IndexOutOfBoundsException", Cond.initialized "java/lang/IndexOutOfBoundsException", Cond.methodLink RX0 67 yX0_needRange, Cond.static yX0_needRange, Cond.code yX0_needRange cX0_needRange 3 none, Cond.classLink RX0 154 "java/lang/IllegalArgumentException", Cond.initialized "java/lang/IllegalArgumentException", Cond.methodLink RX0 59 yX0_put, Cond.static yX0_put]
def wsL_setMargins_r2 : List Cond := [Cond.code yX0_put cX0_put 3 none]
def wsL_setMargins : List Cond := .codeWith yL_setMargins cL_setMargins 6 (some .int) [(0, 10, 11, 15), (0, 10, 16, 18)] :: ((wsL_setMargins_r1 ++ wsL_setMargins_r2) ++ wsX00 ++ (vx_atS RX0 151 "java/lang/IndexOutOfBoundsException" ["java/lang/RuntimeException", "java/lang/Exception"]).filter goodWord ++ (vx_atS RX0 158 "java/lang/IllegalArgumentException" ["java/lang/RuntimeException", "java/lang/Exception"]).filter goodWord)
def wsL_setEqual : List Cond := .codeWith yL_setEqual cL_setEqual 4 (some .int) [(0, 7, 8, 18)] :: ([.classLink RL 18 "java/lang/IllegalArgumentException", .constant RL 20 (-1100000002), .methodLink RL 25 yX0_setEqual, .instanceMethod yX0_setEqual, .selects RX0 yX0_setEqual yX0_setEqual, .initialized RX0, .code yX0_setEqual cX0_setEqual 3 none, .fieldLink RX0 25 "AssignmentHouse" "equalSpan" "I", .fieldLink RX0 29 "AssignmentHouse" "equalGap" "I", .methodLink RX0 67 yX0_needRange, .static yX0_needRange, .code yX0_needRange cX0_needRange 3 none, .classLink RX0 154 "java/lang/IllegalArgumentException", .initialized "java/lang/IllegalArgumentException"] ++ wsX00 ++ (vx_atS RX0 158 "java/lang/IllegalArgumentException" ["java/lang/RuntimeException", "java/lang/Exception"]).filter goodWord)
def wsL_act_r1 : List Cond := [Cond.classLink RL 15 "java/lang/IndexOutOfBoundsException", Cond.classLink RL 18 "java/lang/IllegalArgumentException", Cond.classLink RL 44 "java/lang/IllegalStateException", Cond.constant RL 17 (-1100000001), Cond.constant RL 20 (-1100000002), Cond.constant RL 46 (-1100000003), Cond.methodLink RL 29 yX0_shift, Cond.instanceMethod yX0_shift, Cond.selects RX0 yX0_shift yX0_shift, Cond.initialized RX0, Cond.code yX0_shift cX0_shift 6 (some .int), Cond.fieldLink RX0 32 "AssignmentHouse" "shiftCount" "I", Cond.fieldLink RX0 35 "AssignmentHouse" "workerOf" "[I", Cond.fieldLink RX0 38 "AssignmentHouse" "siteOf" "[I", Cond.fieldLink RX0 41 "AssignmentHouse" "dayOf" "[I", Cond.fieldLink RX0 44 "AssignmentHouse" "hoursOf" "[I", Cond.methodLink RX0 63 yX0_needOneOf, Cond.static yX0_needOneOf, Cond.code yX0_needOneOf cX0_needOneOf 2 none, Cond.classLink RX0 147 "java/lang/IndexOutOfBoundsException", Cond.initialized "java/lang/IndexOutOfBoundsException", Cond.methodLink RX0 67 yX0_needRange, Cond.static yX0_needRange, Cond.code yX0_needRange cX0_needRange 3 none]
def wsL_act_r2 : List Cond := [Cond.classLink RX0 154 "java/lang/IllegalArgumentException", Cond.initialized "java/lang/IllegalArgumentException", Cond.methodLink RX0 71 yX0_needState, Cond.static yX0_needState, Cond.code yX0_needState cX0_needState 1 none, Cond.classLink RX0 159 "java/lang/IllegalStateException", Cond.initialized "java/lang/IllegalStateException", Cond.methodLink RX0 75 yX0_hoursOnDay, Cond.instanceMethod yX0_hoursOnDay, Cond.selects RX0 yX0_hoursOnDay yX0_hoursOnDay, Cond.code yX0_hoursOnDay cX0_hoursOnDay 5 (some .int), Cond.methodLink RX0 79 yX0_at, Cond.static yX0_at, Cond.code yX0_at cX0_at 2 (some .int), Cond.methodLink RX0 59 yX0_put, Cond.static yX0_put, Cond.code yX0_put cX0_put 3 none, Cond.methodLink RL 33 yX0_correct, Cond.instanceMethod yX0_correct, Cond.selects RX0 yX0_correct yX0_correct, Cond.code yX0_correct cX0_correct 6 (some .int), Cond.methodLink RX0 83 yX0_minutesLeft, Cond.instanceMethod yX0_minutesLeft, Cond.selects RX0 yX0_minutesLeft yX0_minutesLeft]
def wsL_act_r3 : List Cond := [Cond.code yX0_minutesLeft cX0_minutesLeft 4 (some .int), Cond.fieldLink RX0 53 "AssignmentHouse" "minutesTaken" "[I", Cond.methodLink RL 37 yX0_run, Cond.instanceMethod yX0_run, Cond.selects RX0 yX0_run yX0_run, Cond.code yX0_run cX0_run 6 (some .int), Cond.fieldLink RX0 47 "AssignmentHouse" "paidFor" "[I", Cond.fieldLink RX0 50 "AssignmentHouse" "billedFor" "[I", Cond.methodLink RX0 109 yX0_weekPay, Cond.instanceMethod yX0_weekPay, Cond.selects RX0 yX0_weekPay yX0_weekPay, Cond.code yX0_weekPay cX0_weekPay 5 (some .int), Cond.methodLink RX0 87 yX0_isOfWorker, Cond.instanceMethod yX0_isOfWorker, Cond.selects RX0 yX0_isOfWorker yX0_isOfWorker, Cond.code yX0_isOfWorker cX0_isOfWorker 4 (some .boolean), Cond.methodLink RX0 100 yX0_weekOf, Cond.static yX0_weekOf, Cond.code yX0_weekOf cX0_weekOf 1 (some .int), Cond.methodLink RX0 97 yX0_shiftPay, Cond.instanceMethod yX0_shiftPay, Cond.selects RX0 yX0_shiftPay yX0_shiftPay, Cond.code yX0_shiftPay cX0_shiftPay 5 (some .int), Cond.methodLink RX0 91 yX0_overtimeHours]
def wsL_act_r4 : List Cond := [Cond.instanceMethod yX0_overtimeHours, Cond.selects RX0 yX0_overtimeHours yX0_overtimeHours, Cond.code yX0_overtimeHours cX0_overtimeHours 6 (some .int), Cond.fieldLink RX0 56 "AssignmentHouse" "aheadOnDay" "[I", Cond.methodLink RX0 133 Lib.Math.max.name, Cond.static Lib.Math.max.name, Cond.initialized "java/lang/Math", Cond.code Lib.Math.max.name Lib.Math.max.code 2 (some .int), Cond.methodLink RX0 138 Lib.Math.min.name, Cond.static Lib.Math.min.name, Cond.code Lib.Math.min.name Lib.Math.min.code 2 (some .int), Cond.methodLink RX0 122 yX0_fillAheadOnDay, Cond.instanceMethod yX0_fillAheadOnDay, Cond.selects RX0 yX0_fillAheadOnDay yX0_fillAheadOnDay, Cond.code yX0_fillAheadOnDay cX0_fillAheadOnDay 9 none, Cond.methodLink RX0 126 yX0_plainOfDay, Cond.static yX0_plainOfDay, Cond.code yX0_plainOfDay cX0_plainOfDay 1 (some .int), Cond.methodLink RX0 129 yX0_plainByDayAhead, Cond.instanceMethod yX0_plainByDayAhead, Cond.selects RX0 yX0_plainByDayAhead yX0_plainByDayAhead, Cond.code yX0_plainByDayAhead cX0_plainByDayAhead 3 (some .int), Cond.methodLink RX0 112 yX0_rateThere, Cond.instanceMethod yX0_rateThere]
def wsL_act_r5 : List Cond := [Cond.selects RX0 yX0_rateThere yX0_rateThere, Cond.code yX0_rateThere cX0_rateThere 4 (some .int), Cond.fieldLink RX0 13 "AssignmentHouse" "equalRate" "[I", Cond.fieldLink RX0 9 "AssignmentHouse" "plainRate" "[I", Cond.methodLink RX0 94 yX0_isEqual, Cond.instanceMethod yX0_isEqual, Cond.selects RX0 yX0_isEqual yX0_isEqual, Cond.code yX0_isEqual cX0_isEqual 8 (some .boolean), Cond.fieldLink RX0 29 "AssignmentHouse" "equalGap" "I", Cond.fieldLink RX0 25 "AssignmentHouse" "equalSpan" "I", Cond.methodLink RX0 141 yX0_weeksWorked, Cond.instanceMethod yX0_weeksWorked, Cond.selects RX0 yX0_weeksWorked yX0_weeksWorked, Cond.code yX0_weeksWorked cX0_weeksWorked 5 (some .int), Cond.methodLink RX0 116 yX0_weekCharge, Cond.instanceMethod yX0_weekCharge, Cond.selects RX0 yX0_weekCharge yX0_weekCharge, Cond.code yX0_weekCharge cX0_weekCharge 6 (some .int), Cond.methodLink RX0 103 yX0_marginAt, Cond.instanceMethod yX0_marginAt, Cond.selects RX0 yX0_marginAt yX0_marginAt, Cond.code yX0_marginAt cX0_marginAt 4 (some .int), Cond.fieldLink RX0 22 "AssignmentHouse" "lowVolume" "[I", Cond.fieldLink RX0 19 "AssignmentHouse" "lowMargin" "[I"]
def wsL_act_r6 : List Cond := [Cond.fieldLink RX0 16 "AssignmentHouse" "highMargin" "[I", Cond.methodLink RX0 144 yX0_hoursAtSite, Cond.instanceMethod yX0_hoursAtSite, Cond.selects RX0 yX0_hoursAtSite yX0_hoursAtSite, Cond.code yX0_hoursAtSite cX0_hoursAtSite 5 (some .int), Cond.methodLink RX0 119 yX0_isAtSite, Cond.instanceMethod yX0_isAtSite, Cond.selects RX0 yX0_isAtSite yX0_isAtSite, Cond.code yX0_isAtSite cX0_isAtSite 4 (some .boolean), Cond.methodLink RX0 106 yX0_chargeFor, Cond.static yX0_chargeFor, Cond.code yX0_chargeFor cX0_chargeFor 2 (some .int), Cond.methodLink RL 41 yX0_takeHoliday, Cond.instanceMethod yX0_takeHoliday, Cond.selects RX0 yX0_takeHoliday yX0_takeHoliday, Cond.code yX0_takeHoliday cX0_takeHoliday 4 (some .int)]
def wsL_act : List Cond := .codeWith yL_act cL_act 7 (some .int) [(0, 50, 51, 15), (0, 50, 56, 18), (0, 50, 61, 44)] :: ((wsL_act_r1 ++ (wsL_act_r2 ++ (wsL_act_r3 ++ (wsL_act_r4 ++ (wsL_act_r5 ++ wsL_act_r6))))) ++ wsX00 ++ (vx_atS RX0 151 "java/lang/IndexOutOfBoundsException" ["java/lang/RuntimeException", "java/lang/Exception"]).filter goodWord ++ (vx_atS RX0 158 "java/lang/IllegalArgumentException" ["java/lang/RuntimeException", "java/lang/Exception"]).filter goodWord ++ (vx_atS RX0 163 "java/lang/IllegalStateException" ["java/lang/RuntimeException", "java/lang/Exception"]).filter goodWord)
def wsL_of_r1 : List Cond := [Cond.classLink RL 15 "java/lang/IndexOutOfBoundsException", Cond.constant RL 17 (-1100000001), Cond.methodLink RL 47 yX0_hours, Cond.instanceMethod yX0_hours, Cond.selects RX0 yX0_hours yX0_hours, Cond.initialized RX0, Cond.code yX0_hours cX0_hours 5 (some .int), Cond.fieldLink RX0 32 "AssignmentHouse" "shiftCount" "I", Cond.fieldLink RX0 44 "AssignmentHouse" "hoursOf" "[I", Cond.methodLink RX0 63 yX0_needOneOf, Cond.static yX0_needOneOf, Cond.code yX0_needOneOf cX0_needOneOf 2 none, Cond.classLink RX0 147 "java/lang/IndexOutOfBoundsException", Cond.initialized "java/lang/IndexOutOfBoundsException", Cond.methodLink RX0 87 yX0_isOfWorker, Cond.instanceMethod yX0_isOfWorker, Cond.selects RX0 yX0_isOfWorker yX0_isOfWorker, Cond.code yX0_isOfWorker cX0_isOfWorker 4 (some .boolean), Cond.fieldLink RX0 35 "AssignmentHouse" "workerOf" "[I", Cond.fieldLink RX0 41 "AssignmentHouse" "dayOf" "[I", Cond.methodLink RX0 79 yX0_at, Cond.static yX0_at, Cond.code yX0_at cX0_at 2 (some .int), Cond.methodLink RX0 100 yX0_weekOf]
def wsL_of_r2 : List Cond := [Cond.static yX0_weekOf, Cond.code yX0_weekOf cX0_weekOf 1 (some .int), Cond.methodLink RL 50 yX0_overtime, Cond.instanceMethod yX0_overtime, Cond.selects RX0 yX0_overtime yX0_overtime, Cond.code yX0_overtime cX0_overtime 2 (some .int), Cond.methodLink RX0 91 yX0_overtimeHours, Cond.instanceMethod yX0_overtimeHours, Cond.selects RX0 yX0_overtimeHours yX0_overtimeHours, Cond.code yX0_overtimeHours cX0_overtimeHours 6 (some .int), Cond.fieldLink RX0 56 "AssignmentHouse" "aheadOnDay" "[I", Cond.methodLink RX0 133 Lib.Math.max.name, Cond.static Lib.Math.max.name, Cond.initialized "java/lang/Math", Cond.code Lib.Math.max.name Lib.Math.max.code 2 (some .int), Cond.methodLink RX0 138 Lib.Math.min.name, Cond.static Lib.Math.min.name, Cond.code Lib.Math.min.name Lib.Math.min.code 2 (some .int), Cond.methodLink RX0 122 yX0_fillAheadOnDay, Cond.instanceMethod yX0_fillAheadOnDay, Cond.selects RX0 yX0_fillAheadOnDay yX0_fillAheadOnDay, Cond.code yX0_fillAheadOnDay cX0_fillAheadOnDay 9 none, Cond.methodLink RX0 59 yX0_put, Cond.static yX0_put]
def wsL_of_r3 : List Cond := [Cond.code yX0_put cX0_put 3 none, Cond.methodLink RX0 126 yX0_plainOfDay, Cond.static yX0_plainOfDay, Cond.code yX0_plainOfDay cX0_plainOfDay 1 (some .int), Cond.methodLink RX0 129 yX0_plainByDayAhead, Cond.instanceMethod yX0_plainByDayAhead, Cond.selects RX0 yX0_plainByDayAhead yX0_plainByDayAhead, Cond.code yX0_plainByDayAhead cX0_plainByDayAhead 3 (some .int), Cond.methodLink RL 53 yX0_hasEqual, Cond.instanceMethod yX0_hasEqual, Cond.selects RX0 yX0_hasEqual yX0_hasEqual, Cond.code yX0_hasEqual cX0_hasEqual 4 (some .boolean), Cond.methodLink RX0 94 yX0_isEqual, Cond.instanceMethod yX0_isEqual, Cond.selects RX0 yX0_isEqual yX0_isEqual, Cond.code yX0_isEqual cX0_isEqual 8 (some .boolean), Cond.fieldLink RX0 29 "AssignmentHouse" "equalGap" "I", Cond.fieldLink RX0 25 "AssignmentHouse" "equalSpan" "I", Cond.methodLink RX0 141 yX0_weeksWorked, Cond.instanceMethod yX0_weeksWorked, Cond.selects RX0 yX0_weeksWorked yX0_weeksWorked, Cond.code yX0_weeksWorked cX0_weeksWorked 5 (some .int), Cond.fieldLink RX0 38 "AssignmentHouse" "siteOf" "[I", Cond.methodLink RL 57 yX0_payOf]
def wsL_of_r4 : List Cond := [Cond.instanceMethod yX0_payOf, Cond.selects RX0 yX0_payOf yX0_payOf, Cond.code yX0_payOf cX0_payOf 2 (some .int), Cond.methodLink RX0 97 yX0_shiftPay, Cond.instanceMethod yX0_shiftPay, Cond.selects RX0 yX0_shiftPay yX0_shiftPay, Cond.code yX0_shiftPay cX0_shiftPay 5 (some .int), Cond.methodLink RX0 112 yX0_rateThere, Cond.instanceMethod yX0_rateThere, Cond.selects RX0 yX0_rateThere yX0_rateThere, Cond.code yX0_rateThere cX0_rateThere 4 (some .int), Cond.fieldLink RX0 13 "AssignmentHouse" "equalRate" "[I", Cond.fieldLink RX0 9 "AssignmentHouse" "plainRate" "[I", Cond.methodLink RL 60 yX0_chargeOf, Cond.instanceMethod yX0_chargeOf, Cond.selects RX0 yX0_chargeOf yX0_chargeOf, Cond.code yX0_chargeOf cX0_chargeOf 3 (some .int), Cond.methodLink RX0 103 yX0_marginAt, Cond.instanceMethod yX0_marginAt, Cond.selects RX0 yX0_marginAt yX0_marginAt, Cond.code yX0_marginAt cX0_marginAt 4 (some .int), Cond.fieldLink RX0 22 "AssignmentHouse" "lowVolume" "[I", Cond.fieldLink RX0 19 "AssignmentHouse" "lowMargin" "[I", Cond.fieldLink RX0 16 "AssignmentHouse" "highMargin" "[I"]
def wsL_of_r5 : List Cond := [Cond.methodLink RX0 144 yX0_hoursAtSite, Cond.instanceMethod yX0_hoursAtSite, Cond.selects RX0 yX0_hoursAtSite yX0_hoursAtSite, Cond.code yX0_hoursAtSite cX0_hoursAtSite 5 (some .int), Cond.methodLink RX0 119 yX0_isAtSite, Cond.instanceMethod yX0_isAtSite, Cond.selects RX0 yX0_isAtSite yX0_isAtSite, Cond.code yX0_isAtSite cX0_isAtSite 4 (some .boolean), Cond.methodLink RX0 106 yX0_chargeFor, Cond.static yX0_chargeFor, Cond.code yX0_chargeFor cX0_chargeFor 2 (some .int), Cond.methodLink RL 63 yX0_pay, Cond.instanceMethod yX0_pay, Cond.selects RX0 yX0_pay yX0_pay, Cond.code yX0_pay cX0_pay 3 (some .int), Cond.methodLink RX0 109 yX0_weekPay, Cond.instanceMethod yX0_weekPay, Cond.selects RX0 yX0_weekPay yX0_weekPay, Cond.code yX0_weekPay cX0_weekPay 5 (some .int), Cond.methodLink RL 66 yX0_payByHours, Cond.instanceMethod yX0_payByHours, Cond.selects RX0 yX0_payByHours yX0_payByHours, Cond.code yX0_payByHours cX0_payByHours 13 (some .int), Cond.methodLink RL 69 yX0_paid]
def wsL_of_r6 : List Cond := [Cond.instanceMethod yX0_paid, Cond.selects RX0 yX0_paid yX0_paid, Cond.code yX0_paid cX0_paid 3 (some .int), Cond.fieldLink RX0 47 "AssignmentHouse" "paidFor" "[I", Cond.methodLink RL 72 yX0_billed, Cond.instanceMethod yX0_billed, Cond.selects RX0 yX0_billed yX0_billed, Cond.code yX0_billed cX0_billed 3 (some .int), Cond.fieldLink RX0 50 "AssignmentHouse" "billedFor" "[I", Cond.methodLink RL 75 yX0_owing, Cond.instanceMethod yX0_owing, Cond.selects RX0 yX0_owing yX0_owing, Cond.code yX0_owing cX0_owing 3 (some .int), Cond.methodLink RL 78 yX0_toBill, Cond.instanceMethod yX0_toBill, Cond.selects RX0 yX0_toBill yX0_toBill, Cond.code yX0_toBill cX0_toBill 3 (some .int), Cond.methodLink RX0 116 yX0_weekCharge, Cond.instanceMethod yX0_weekCharge, Cond.selects RX0 yX0_weekCharge yX0_weekCharge, Cond.code yX0_weekCharge cX0_weekCharge 6 (some .int), Cond.methodLink RL 81 yX0_holiday, Cond.instanceMethod yX0_holiday, Cond.selects RX0 yX0_holiday yX0_holiday]
def wsL_of_r7 : List Cond := [Cond.code yX0_holiday cX0_holiday 2 (some .int), Cond.methodLink RX0 83 yX0_minutesLeft, Cond.instanceMethod yX0_minutesLeft, Cond.selects RX0 yX0_minutesLeft yX0_minutesLeft, Cond.code yX0_minutesLeft cX0_minutesLeft 4 (some .int), Cond.fieldLink RX0 53 "AssignmentHouse" "minutesTaken" "[I"]
def wsL_of : List Cond := .codeWith yL_of cL_of 6 (some .int) [(0, 170, 171, 15)] :: ((wsL_of_r1 ++ (wsL_of_r2 ++ (wsL_of_r3 ++ (wsL_of_r4 ++ (wsL_of_r5 ++ (wsL_of_r6 ++ wsL_of_r7)))))) ++ wsX00 ++ (vx_atS RX0 151 "java/lang/IndexOutOfBoundsException" ["java/lang/RuntimeException", "java/lang/Exception"]).filter goodWord)
def wsL_hours : List Cond := .code yL_hours cL_hours 2 (some .int) :: ([])
def wsL_day : List Cond := .code yL_day cL_day 2 (some .int) :: ([])
def wsL_all_r1 : List Cond := [Cond.constantLong RL 88 (1000003), Cond.constantLong RL 90 (31), Cond.constantLong RL 92 (257), Cond.constantLong RL 94 (65537), Cond.methodLink RL 84 yX0_shifts, Cond.instanceMethod yX0_shifts, Cond.selects RX0 yX0_shifts yX0_shifts, Cond.initialized RX0, Cond.code yX0_shifts cX0_shifts 1 (some .int), Cond.fieldLink RX0 32 "AssignmentHouse" "shiftCount" "I", Cond.methodLink RL 57 yX0_payOf, Cond.instanceMethod yX0_payOf, Cond.selects RX0 yX0_payOf yX0_payOf, Cond.code yX0_payOf cX0_payOf 2 (some .int), Cond.methodLink RX0 63 yX0_needOneOf, Cond.static yX0_needOneOf, Cond.code yX0_needOneOf cX0_needOneOf 2 none, Cond.classLink RX0 147 "java/lang/IndexOutOfBoundsException", Cond.initialized "java/lang/IndexOutOfBoundsException", Cond.methodLink RX0 97 yX0_shiftPay, Cond.instanceMethod yX0_shiftPay, Cond.selects RX0 yX0_shiftPay yX0_shiftPay, Cond.code yX0_shiftPay cX0_shiftPay 5 (some .int), Cond.fieldLink RX0 44 "AssignmentHouse" "hoursOf" "[I"]
def wsL_all_r2 : List Cond := [Cond.fieldLink RX0 35 "AssignmentHouse" "workerOf" "[I", Cond.fieldLink RX0 38 "AssignmentHouse" "siteOf" "[I", Cond.fieldLink RX0 41 "AssignmentHouse" "dayOf" "[I", Cond.methodLink RX0 91 yX0_overtimeHours, Cond.instanceMethod yX0_overtimeHours, Cond.selects RX0 yX0_overtimeHours yX0_overtimeHours, Cond.code yX0_overtimeHours cX0_overtimeHours 6 (some .int), Cond.fieldLink RX0 56 "AssignmentHouse" "aheadOnDay" "[I", Cond.methodLink RX0 133 Lib.Math.max.name, Cond.static Lib.Math.max.name, Cond.initialized "java/lang/Math", Cond.code Lib.Math.max.name Lib.Math.max.code 2 (some .int), Cond.methodLink RX0 138 Lib.Math.min.name, Cond.static Lib.Math.min.name, Cond.code Lib.Math.min.name Lib.Math.min.code 2 (some .int), Cond.methodLink RX0 122 yX0_fillAheadOnDay, Cond.instanceMethod yX0_fillAheadOnDay, Cond.selects RX0 yX0_fillAheadOnDay yX0_fillAheadOnDay, Cond.code yX0_fillAheadOnDay cX0_fillAheadOnDay 9 none, Cond.methodLink RX0 79 yX0_at, Cond.static yX0_at, Cond.code yX0_at cX0_at 2 (some .int), Cond.methodLink RX0 100 yX0_weekOf, Cond.static yX0_weekOf]
def wsL_all_r3 : List Cond := [Cond.code yX0_weekOf cX0_weekOf 1 (some .int), Cond.methodLink RX0 59 yX0_put, Cond.static yX0_put, Cond.code yX0_put cX0_put 3 none, Cond.methodLink RX0 87 yX0_isOfWorker, Cond.instanceMethod yX0_isOfWorker, Cond.selects RX0 yX0_isOfWorker yX0_isOfWorker, Cond.code yX0_isOfWorker cX0_isOfWorker 4 (some .boolean), Cond.methodLink RX0 126 yX0_plainOfDay, Cond.static yX0_plainOfDay, Cond.code yX0_plainOfDay cX0_plainOfDay 1 (some .int), Cond.methodLink RX0 129 yX0_plainByDayAhead, Cond.instanceMethod yX0_plainByDayAhead, Cond.selects RX0 yX0_plainByDayAhead yX0_plainByDayAhead, Cond.code yX0_plainByDayAhead cX0_plainByDayAhead 3 (some .int), Cond.methodLink RX0 112 yX0_rateThere, Cond.instanceMethod yX0_rateThere, Cond.selects RX0 yX0_rateThere yX0_rateThere, Cond.code yX0_rateThere cX0_rateThere 4 (some .int), Cond.fieldLink RX0 13 "AssignmentHouse" "equalRate" "[I", Cond.fieldLink RX0 9 "AssignmentHouse" "plainRate" "[I", Cond.methodLink RX0 94 yX0_isEqual, Cond.instanceMethod yX0_isEqual, Cond.selects RX0 yX0_isEqual yX0_isEqual]
def wsL_all_r4 : List Cond := [Cond.code yX0_isEqual cX0_isEqual 8 (some .boolean), Cond.fieldLink RX0 29 "AssignmentHouse" "equalGap" "I", Cond.fieldLink RX0 25 "AssignmentHouse" "equalSpan" "I", Cond.methodLink RX0 141 yX0_weeksWorked, Cond.instanceMethod yX0_weeksWorked, Cond.selects RX0 yX0_weeksWorked yX0_weeksWorked, Cond.code yX0_weeksWorked cX0_weeksWorked 5 (some .int), Cond.methodLink RL 60 yX0_chargeOf, Cond.instanceMethod yX0_chargeOf, Cond.selects RX0 yX0_chargeOf yX0_chargeOf, Cond.code yX0_chargeOf cX0_chargeOf 3 (some .int), Cond.methodLink RX0 103 yX0_marginAt, Cond.instanceMethod yX0_marginAt, Cond.selects RX0 yX0_marginAt yX0_marginAt, Cond.code yX0_marginAt cX0_marginAt 4 (some .int), Cond.fieldLink RX0 22 "AssignmentHouse" "lowVolume" "[I", Cond.fieldLink RX0 19 "AssignmentHouse" "lowMargin" "[I", Cond.fieldLink RX0 16 "AssignmentHouse" "highMargin" "[I", Cond.methodLink RX0 144 yX0_hoursAtSite, Cond.instanceMethod yX0_hoursAtSite, Cond.selects RX0 yX0_hoursAtSite yX0_hoursAtSite, Cond.code yX0_hoursAtSite cX0_hoursAtSite 5 (some .int), Cond.methodLink RX0 119 yX0_isAtSite, Cond.instanceMethod yX0_isAtSite]
def wsL_all_r5 : List Cond := [Cond.selects RX0 yX0_isAtSite yX0_isAtSite, Cond.code yX0_isAtSite cX0_isAtSite 4 (some .boolean), Cond.methodLink RX0 106 yX0_chargeFor, Cond.static yX0_chargeFor, Cond.code yX0_chargeFor cX0_chargeFor 2 (some .int), Cond.methodLink RL 81 yX0_holiday, Cond.instanceMethod yX0_holiday, Cond.selects RX0 yX0_holiday yX0_holiday, Cond.code yX0_holiday cX0_holiday 2 (some .int), Cond.methodLink RX0 83 yX0_minutesLeft, Cond.instanceMethod yX0_minutesLeft, Cond.selects RX0 yX0_minutesLeft yX0_minutesLeft, Cond.code yX0_minutesLeft cX0_minutesLeft 4 (some .int), Cond.fieldLink RX0 53 "AssignmentHouse" "minutesTaken" "[I", Cond.methodLink RL 69 yX0_paid, Cond.instanceMethod yX0_paid, Cond.selects RX0 yX0_paid yX0_paid, Cond.code yX0_paid cX0_paid 3 (some .int), Cond.fieldLink RX0 47 "AssignmentHouse" "paidFor" "[I", Cond.methodLink RL 75 yX0_owing, Cond.instanceMethod yX0_owing, Cond.selects RX0 yX0_owing yX0_owing, Cond.code yX0_owing cX0_owing 3 (some .int), Cond.methodLink RX0 109 yX0_weekPay]
def wsL_all_r6 : List Cond := [Cond.instanceMethod yX0_weekPay, Cond.selects RX0 yX0_weekPay yX0_weekPay, Cond.code yX0_weekPay cX0_weekPay 5 (some .int)]
def wsL_all : List Cond := .code yL_all cL_all 5 (some .long) :: ((wsL_all_r1 ++ (wsL_all_r2 ++ (wsL_all_r3 ++ (wsL_all_r4 ++ (wsL_all_r5 ++ wsL_all_r6))))) ++ wsX00 ++ (vx_atS RX0 151 "java/lang/IndexOutOfBoundsException" ["java/lang/RuntimeException", "java/lang/Exception"]).filter goodWord)
def wsL_isOvertime_r1 : List Cond := [Cond.methodLink RL 96 yL_day, Cond.static yL_day, Cond.initialized RL, Cond.code yL_day cL_day 2 (some .int), Cond.methodLink RL 50 yX0_overtime, Cond.instanceMethod yX0_overtime, Cond.selects RX0 yX0_overtime yX0_overtime, Cond.initialized RX0, Cond.code yX0_overtime cX0_overtime 2 (some .int), Cond.fieldLink RX0 32 "AssignmentHouse" "shiftCount" "I", Cond.methodLink RX0 63 yX0_needOneOf, Cond.static yX0_needOneOf, Cond.code yX0_needOneOf cX0_needOneOf 2 none, Cond.classLink RX0 147 "java/lang/IndexOutOfBoundsException", Cond.initialized "java/lang/IndexOutOfBoundsException", Cond.methodLink RX0 91 yX0_overtimeHours, Cond.instanceMethod yX0_overtimeHours, Cond.selects RX0 yX0_overtimeHours yX0_overtimeHours, Cond.code yX0_overtimeHours cX0_overtimeHours 6 (some .int), Cond.fieldLink RX0 44 "AssignmentHouse" "hoursOf" "[I", Cond.fieldLink RX0 56 "AssignmentHouse" "aheadOnDay" "[I", Cond.fieldLink RX0 41 "AssignmentHouse" "dayOf" "[I", Cond.methodLink RX0 133 Lib.Math.max.name, Cond.static Lib.Math.max.name]
def wsL_isOvertime_r2 : List Cond := [Cond.initialized "java/lang/Math", Cond.code Lib.Math.max.name Lib.Math.max.code 2 (some .int), Cond.methodLink RX0 138 Lib.Math.min.name, Cond.static Lib.Math.min.name, Cond.code Lib.Math.min.name Lib.Math.min.code 2 (some .int), Cond.methodLink RX0 122 yX0_fillAheadOnDay, Cond.instanceMethod yX0_fillAheadOnDay, Cond.selects RX0 yX0_fillAheadOnDay yX0_fillAheadOnDay, Cond.code yX0_fillAheadOnDay cX0_fillAheadOnDay 9 none, Cond.fieldLink RX0 35 "AssignmentHouse" "workerOf" "[I", Cond.methodLink RX0 79 yX0_at, Cond.static yX0_at, Cond.code yX0_at cX0_at 2 (some .int), Cond.methodLink RX0 100 yX0_weekOf, Cond.static yX0_weekOf, Cond.code yX0_weekOf cX0_weekOf 1 (some .int), Cond.methodLink RX0 59 yX0_put, Cond.static yX0_put, Cond.code yX0_put cX0_put 3 none, Cond.methodLink RX0 87 yX0_isOfWorker, Cond.instanceMethod yX0_isOfWorker, Cond.selects RX0 yX0_isOfWorker yX0_isOfWorker, Cond.code yX0_isOfWorker cX0_isOfWorker 4 (some .boolean), Cond.methodLink RX0 126 yX0_plainOfDay]
def wsL_isOvertime_r3 : List Cond := [Cond.static yX0_plainOfDay, Cond.code yX0_plainOfDay cX0_plainOfDay 1 (some .int), Cond.methodLink RX0 129 yX0_plainByDayAhead, Cond.instanceMethod yX0_plainByDayAhead, Cond.selects RX0 yX0_plainByDayAhead yX0_plainByDayAhead, Cond.code yX0_plainByDayAhead cX0_plainByDayAhead 3 (some .int), Cond.methodLink RL 102 yL_hours, Cond.static yL_hours, Cond.code yL_hours cL_hours 2 (some .int), Cond.methodLink RL 47 yX0_hours, Cond.instanceMethod yX0_hours, Cond.selects RX0 yX0_hours yX0_hours, Cond.code yX0_hours cX0_hours 5 (some .int)]
def wsL_isOvertime : List Cond := .code yL_isOvertime cL_isOvertime 14 (some .boolean) :: ((wsL_isOvertime_r1 ++ (wsL_isOvertime_r2 ++ wsL_isOvertime_r3)) ++ wsX00 ++ (vx_atS RX0 151 "java/lang/IndexOutOfBoundsException" ["java/lang/RuntimeException", "java/lang/Exception"]).filter goodWord)
def wsL_isEqual_r1 : List Cond := [Cond.methodLink RL 96 yL_day, Cond.static yL_day, Cond.initialized RL, Cond.code yL_day cL_day 2 (some .int), Cond.methodLink RL 102 yL_hours, Cond.static yL_hours, Cond.code yL_hours cL_hours 2 (some .int), Cond.methodLink RL 53 yX0_hasEqual, Cond.instanceMethod yX0_hasEqual, Cond.selects RX0 yX0_hasEqual yX0_hasEqual, Cond.initialized RX0, Cond.code yX0_hasEqual cX0_hasEqual 4 (some .boolean), Cond.methodLink RX0 63 yX0_needOneOf, Cond.static yX0_needOneOf, Cond.code yX0_needOneOf cX0_needOneOf 2 none, Cond.classLink RX0 147 "java/lang/IndexOutOfBoundsException", Cond.initialized "java/lang/IndexOutOfBoundsException", Cond.methodLink RX0 94 yX0_isEqual, Cond.instanceMethod yX0_isEqual, Cond.selects RX0 yX0_isEqual yX0_isEqual, Cond.code yX0_isEqual cX0_isEqual 8 (some .boolean), Cond.fieldLink RX0 29 "AssignmentHouse" "equalGap" "I", Cond.fieldLink RX0 25 "AssignmentHouse" "equalSpan" "I", Cond.methodLink RX0 141 yX0_weeksWorked]
def wsL_isEqual_r2 : List Cond := [Cond.instanceMethod yX0_weeksWorked, Cond.selects RX0 yX0_weeksWorked yX0_weeksWorked, Cond.code yX0_weeksWorked cX0_weeksWorked 5 (some .int), Cond.fieldLink RX0 32 "AssignmentHouse" "shiftCount" "I", Cond.fieldLink RX0 35 "AssignmentHouse" "workerOf" "[I", Cond.fieldLink RX0 38 "AssignmentHouse" "siteOf" "[I", Cond.fieldLink RX0 44 "AssignmentHouse" "hoursOf" "[I", Cond.fieldLink RX0 41 "AssignmentHouse" "dayOf" "[I", Cond.methodLink RX0 79 yX0_at, Cond.static yX0_at, Cond.code yX0_at cX0_at 2 (some .int), Cond.methodLink RX0 100 yX0_weekOf, Cond.static yX0_weekOf, Cond.code yX0_weekOf cX0_weekOf 1 (some .int)]
def wsL_isEqual : List Cond := .code yL_isEqual cL_isEqual 12 (some .boolean) :: ((wsL_isEqual_r1 ++ wsL_isEqual_r2) ++ wsX00 ++ (vx_atS RX0 151 "java/lang/IndexOutOfBoundsException" ["java/lang/RuntimeException", "java/lang/Exception"]).filter goodWord)
def wsL_areShifts_r1 : List Cond := [Cond.methodLink RL 84 yX0_shifts, Cond.instanceMethod yX0_shifts, Cond.selects RX0 yX0_shifts yX0_shifts, Cond.initialized RX0, Cond.code yX0_shifts cX0_shifts 1 (some .int), Cond.fieldLink RX0 32 "AssignmentHouse" "shiftCount" "I", Cond.methodLink RL 96 yL_day, Cond.static yL_day, Cond.initialized RL, Cond.code yL_day cL_day 2 (some .int), Cond.methodLink RL 53 yX0_hasEqual, Cond.instanceMethod yX0_hasEqual, Cond.selects RX0 yX0_hasEqual yX0_hasEqual, Cond.code yX0_hasEqual cX0_hasEqual 4 (some .boolean), Cond.methodLink RX0 63 yX0_needOneOf, Cond.static yX0_needOneOf, Cond.code yX0_needOneOf cX0_needOneOf 2 none, Cond.classLink RX0 147 "java/lang/IndexOutOfBoundsException", Cond.initialized "java/lang/IndexOutOfBoundsException", Cond.methodLink RX0 94 yX0_isEqual, Cond.instanceMethod yX0_isEqual, Cond.selects RX0 yX0_isEqual yX0_isEqual, Cond.code yX0_isEqual cX0_isEqual 8 (some .boolean), Cond.fieldLink RX0 29 "AssignmentHouse" "equalGap" "I"]
def wsL_areShifts_r2 : List Cond := [Cond.fieldLink RX0 25 "AssignmentHouse" "equalSpan" "I", Cond.methodLink RX0 141 yX0_weeksWorked, Cond.instanceMethod yX0_weeksWorked, Cond.selects RX0 yX0_weeksWorked yX0_weeksWorked, Cond.code yX0_weeksWorked cX0_weeksWorked 5 (some .int), Cond.fieldLink RX0 35 "AssignmentHouse" "workerOf" "[I", Cond.fieldLink RX0 38 "AssignmentHouse" "siteOf" "[I", Cond.fieldLink RX0 44 "AssignmentHouse" "hoursOf" "[I", Cond.fieldLink RX0 41 "AssignmentHouse" "dayOf" "[I", Cond.methodLink RX0 79 yX0_at, Cond.static yX0_at, Cond.code yX0_at cX0_at 2 (some .int), Cond.methodLink RX0 100 yX0_weekOf, Cond.static yX0_weekOf, Cond.code yX0_weekOf cX0_weekOf 1 (some .int), Cond.methodLink RL 102 yL_hours, Cond.static yL_hours, Cond.code yL_hours cL_hours 2 (some .int), Cond.methodLink RL 57 yX0_payOf, Cond.instanceMethod yX0_payOf, Cond.selects RX0 yX0_payOf yX0_payOf, Cond.code yX0_payOf cX0_payOf 2 (some .int), Cond.methodLink RX0 97 yX0_shiftPay, Cond.instanceMethod yX0_shiftPay]
def wsL_areShifts_r3 : List Cond := [Cond.selects RX0 yX0_shiftPay yX0_shiftPay, Cond.code yX0_shiftPay cX0_shiftPay 5 (some .int), Cond.methodLink RX0 91 yX0_overtimeHours, Cond.instanceMethod yX0_overtimeHours, Cond.selects RX0 yX0_overtimeHours yX0_overtimeHours, Cond.code yX0_overtimeHours cX0_overtimeHours 6 (some .int), Cond.fieldLink RX0 56 "AssignmentHouse" "aheadOnDay" "[I", Cond.methodLink RX0 133 Lib.Math.max.name, Cond.static Lib.Math.max.name, Cond.initialized "java/lang/Math", Cond.code Lib.Math.max.name Lib.Math.max.code 2 (some .int), Cond.methodLink RX0 138 Lib.Math.min.name, Cond.static Lib.Math.min.name, Cond.code Lib.Math.min.name Lib.Math.min.code 2 (some .int), Cond.methodLink RX0 122 yX0_fillAheadOnDay, Cond.instanceMethod yX0_fillAheadOnDay, Cond.selects RX0 yX0_fillAheadOnDay yX0_fillAheadOnDay, Cond.code yX0_fillAheadOnDay cX0_fillAheadOnDay 9 none, Cond.methodLink RX0 59 yX0_put, Cond.static yX0_put, Cond.code yX0_put cX0_put 3 none, Cond.methodLink RX0 87 yX0_isOfWorker, Cond.instanceMethod yX0_isOfWorker, Cond.selects RX0 yX0_isOfWorker yX0_isOfWorker]
def wsL_areShifts_r4 : List Cond := [Cond.code yX0_isOfWorker cX0_isOfWorker 4 (some .boolean), Cond.methodLink RX0 126 yX0_plainOfDay, Cond.static yX0_plainOfDay, Cond.code yX0_plainOfDay cX0_plainOfDay 1 (some .int), Cond.methodLink RX0 129 yX0_plainByDayAhead, Cond.instanceMethod yX0_plainByDayAhead, Cond.selects RX0 yX0_plainByDayAhead yX0_plainByDayAhead, Cond.code yX0_plainByDayAhead cX0_plainByDayAhead 3 (some .int), Cond.methodLink RX0 112 yX0_rateThere, Cond.instanceMethod yX0_rateThere, Cond.selects RX0 yX0_rateThere yX0_rateThere, Cond.code yX0_rateThere cX0_rateThere 4 (some .int), Cond.fieldLink RX0 13 "AssignmentHouse" "equalRate" "[I", Cond.fieldLink RX0 9 "AssignmentHouse" "plainRate" "[I", Cond.methodLink RL 50 yX0_overtime, Cond.instanceMethod yX0_overtime, Cond.selects RX0 yX0_overtime yX0_overtime, Cond.code yX0_overtime cX0_overtime 2 (some .int), Cond.methodLink RL 60 yX0_chargeOf, Cond.instanceMethod yX0_chargeOf, Cond.selects RX0 yX0_chargeOf yX0_chargeOf, Cond.code yX0_chargeOf cX0_chargeOf 3 (some .int), Cond.methodLink RX0 103 yX0_marginAt, Cond.instanceMethod yX0_marginAt]
def wsL_areShifts_r5 : List Cond := [Cond.selects RX0 yX0_marginAt yX0_marginAt, Cond.code yX0_marginAt cX0_marginAt 4 (some .int), Cond.fieldLink RX0 22 "AssignmentHouse" "lowVolume" "[I", Cond.fieldLink RX0 19 "AssignmentHouse" "lowMargin" "[I", Cond.fieldLink RX0 16 "AssignmentHouse" "highMargin" "[I", Cond.methodLink RX0 144 yX0_hoursAtSite, Cond.instanceMethod yX0_hoursAtSite, Cond.selects RX0 yX0_hoursAtSite yX0_hoursAtSite, Cond.code yX0_hoursAtSite cX0_hoursAtSite 5 (some .int), Cond.methodLink RX0 119 yX0_isAtSite, Cond.instanceMethod yX0_isAtSite, Cond.selects RX0 yX0_isAtSite yX0_isAtSite, Cond.code yX0_isAtSite cX0_isAtSite 4 (some .boolean), Cond.methodLink RX0 106 yX0_chargeFor, Cond.static yX0_chargeFor, Cond.code yX0_chargeFor cX0_chargeFor 2 (some .int)]
def wsL_areShifts : List Cond := .code yL_areShifts cL_areShifts 12 (some .boolean) :: ((wsL_areShifts_r1 ++ (wsL_areShifts_r2 ++ (wsL_areShifts_r3 ++ (wsL_areShifts_r4 ++ wsL_areShifts_r5)))) ++ wsX00 ++ (vx_atS RX0 151 "java/lang/IndexOutOfBoundsException" ["java/lang/RuntimeException", "java/lang/Exception"]).filter goodWord)
def wsL_areSums_r1 : List Cond := [Cond.methodLink RL 96 yL_day, Cond.static yL_day, Cond.initialized RL, Cond.code yL_day cL_day 2 (some .int), Cond.methodLink RL 57 yX0_payOf, Cond.instanceMethod yX0_payOf, Cond.selects RX0 yX0_payOf yX0_payOf, Cond.initialized RX0, Cond.code yX0_payOf cX0_payOf 2 (some .int), Cond.fieldLink RX0 32 "AssignmentHouse" "shiftCount" "I", Cond.methodLink RX0 63 yX0_needOneOf, Cond.static yX0_needOneOf, Cond.code yX0_needOneOf cX0_needOneOf 2 none, Cond.classLink RX0 147 "java/lang/IndexOutOfBoundsException", Cond.initialized "java/lang/IndexOutOfBoundsException", Cond.methodLink RX0 97 yX0_shiftPay, Cond.instanceMethod yX0_shiftPay, Cond.selects RX0 yX0_shiftPay yX0_shiftPay, Cond.code yX0_shiftPay cX0_shiftPay 5 (some .int), Cond.fieldLink RX0 44 "AssignmentHouse" "hoursOf" "[I", Cond.fieldLink RX0 35 "AssignmentHouse" "workerOf" "[I", Cond.fieldLink RX0 38 "AssignmentHouse" "siteOf" "[I", Cond.fieldLink RX0 41 "AssignmentHouse" "dayOf" "[I", Cond.methodLink RX0 91 yX0_overtimeHours]
def wsL_areSums_r2 : List Cond := [Cond.instanceMethod yX0_overtimeHours, Cond.selects RX0 yX0_overtimeHours yX0_overtimeHours, Cond.code yX0_overtimeHours cX0_overtimeHours 6 (some .int), Cond.fieldLink RX0 56 "AssignmentHouse" "aheadOnDay" "[I", Cond.methodLink RX0 133 Lib.Math.max.name, Cond.static Lib.Math.max.name, Cond.initialized "java/lang/Math", Cond.code Lib.Math.max.name Lib.Math.max.code 2 (some .int), Cond.methodLink RX0 138 Lib.Math.min.name, Cond.static Lib.Math.min.name, Cond.code Lib.Math.min.name Lib.Math.min.code 2 (some .int), Cond.methodLink RX0 122 yX0_fillAheadOnDay, Cond.instanceMethod yX0_fillAheadOnDay, Cond.selects RX0 yX0_fillAheadOnDay yX0_fillAheadOnDay, Cond.code yX0_fillAheadOnDay cX0_fillAheadOnDay 9 none, Cond.methodLink RX0 79 yX0_at, Cond.static yX0_at, Cond.code yX0_at cX0_at 2 (some .int), Cond.methodLink RX0 100 yX0_weekOf, Cond.static yX0_weekOf, Cond.code yX0_weekOf cX0_weekOf 1 (some .int), Cond.methodLink RX0 59 yX0_put, Cond.static yX0_put, Cond.code yX0_put cX0_put 3 none]
def wsL_areSums_r3 : List Cond := [Cond.methodLink RX0 87 yX0_isOfWorker, Cond.instanceMethod yX0_isOfWorker, Cond.selects RX0 yX0_isOfWorker yX0_isOfWorker, Cond.code yX0_isOfWorker cX0_isOfWorker 4 (some .boolean), Cond.methodLink RX0 126 yX0_plainOfDay, Cond.static yX0_plainOfDay, Cond.code yX0_plainOfDay cX0_plainOfDay 1 (some .int), Cond.methodLink RX0 129 yX0_plainByDayAhead, Cond.instanceMethod yX0_plainByDayAhead, Cond.selects RX0 yX0_plainByDayAhead yX0_plainByDayAhead, Cond.code yX0_plainByDayAhead cX0_plainByDayAhead 3 (some .int), Cond.methodLink RX0 112 yX0_rateThere, Cond.instanceMethod yX0_rateThere, Cond.selects RX0 yX0_rateThere yX0_rateThere, Cond.code yX0_rateThere cX0_rateThere 4 (some .int), Cond.fieldLink RX0 13 "AssignmentHouse" "equalRate" "[I", Cond.fieldLink RX0 9 "AssignmentHouse" "plainRate" "[I", Cond.methodLink RX0 94 yX0_isEqual, Cond.instanceMethod yX0_isEqual, Cond.selects RX0 yX0_isEqual yX0_isEqual, Cond.code yX0_isEqual cX0_isEqual 8 (some .boolean), Cond.fieldLink RX0 29 "AssignmentHouse" "equalGap" "I", Cond.fieldLink RX0 25 "AssignmentHouse" "equalSpan" "I", Cond.methodLink RX0 141 yX0_weeksWorked]
def wsL_areSums_r4 : List Cond := [Cond.instanceMethod yX0_weeksWorked, Cond.selects RX0 yX0_weeksWorked yX0_weeksWorked, Cond.code yX0_weeksWorked cX0_weeksWorked 5 (some .int), Cond.methodLink RL 102 yL_hours, Cond.static yL_hours, Cond.code yL_hours cL_hours 2 (some .int), Cond.methodLink RL 63 yX0_pay, Cond.instanceMethod yX0_pay, Cond.selects RX0 yX0_pay yX0_pay, Cond.code yX0_pay cX0_pay 3 (some .int), Cond.methodLink RX0 109 yX0_weekPay, Cond.instanceMethod yX0_weekPay, Cond.selects RX0 yX0_weekPay yX0_weekPay, Cond.code yX0_weekPay cX0_weekPay 5 (some .int), Cond.methodLink RL 66 yX0_payByHours, Cond.instanceMethod yX0_payByHours, Cond.selects RX0 yX0_payByHours yX0_payByHours, Cond.code yX0_payByHours cX0_payByHours 13 (some .int), Cond.methodLink RL 69 yX0_paid, Cond.instanceMethod yX0_paid, Cond.selects RX0 yX0_paid yX0_paid, Cond.code yX0_paid cX0_paid 3 (some .int), Cond.fieldLink RX0 47 "AssignmentHouse" "paidFor" "[I", Cond.methodLink RL 75 yX0_owing]
def wsL_areSums_r5 : List Cond := [Cond.instanceMethod yX0_owing, Cond.selects RX0 yX0_owing yX0_owing, Cond.code yX0_owing cX0_owing 3 (some .int), Cond.methodLink RL 81 yX0_holiday, Cond.instanceMethod yX0_holiday, Cond.selects RX0 yX0_holiday yX0_holiday, Cond.code yX0_holiday cX0_holiday 2 (some .int), Cond.methodLink RX0 83 yX0_minutesLeft, Cond.instanceMethod yX0_minutesLeft, Cond.selects RX0 yX0_minutesLeft yX0_minutesLeft, Cond.code yX0_minutesLeft cX0_minutesLeft 4 (some .int), Cond.fieldLink RX0 53 "AssignmentHouse" "minutesTaken" "[I", Cond.methodLink RL 60 yX0_chargeOf, Cond.instanceMethod yX0_chargeOf, Cond.selects RX0 yX0_chargeOf yX0_chargeOf, Cond.code yX0_chargeOf cX0_chargeOf 3 (some .int), Cond.methodLink RX0 103 yX0_marginAt, Cond.instanceMethod yX0_marginAt, Cond.selects RX0 yX0_marginAt yX0_marginAt, Cond.code yX0_marginAt cX0_marginAt 4 (some .int), Cond.fieldLink RX0 22 "AssignmentHouse" "lowVolume" "[I", Cond.fieldLink RX0 19 "AssignmentHouse" "lowMargin" "[I", Cond.fieldLink RX0 16 "AssignmentHouse" "highMargin" "[I", Cond.methodLink RX0 144 yX0_hoursAtSite]
def wsL_areSums_r6 : List Cond := [Cond.instanceMethod yX0_hoursAtSite, Cond.selects RX0 yX0_hoursAtSite yX0_hoursAtSite, Cond.code yX0_hoursAtSite cX0_hoursAtSite 5 (some .int), Cond.methodLink RX0 119 yX0_isAtSite, Cond.instanceMethod yX0_isAtSite, Cond.selects RX0 yX0_isAtSite yX0_isAtSite, Cond.code yX0_isAtSite cX0_isAtSite 4 (some .boolean), Cond.methodLink RX0 106 yX0_chargeFor, Cond.static yX0_chargeFor, Cond.code yX0_chargeFor cX0_chargeFor 2 (some .int), Cond.methodLink RL 72 yX0_billed, Cond.instanceMethod yX0_billed, Cond.selects RX0 yX0_billed yX0_billed, Cond.code yX0_billed cX0_billed 3 (some .int), Cond.fieldLink RX0 50 "AssignmentHouse" "billedFor" "[I", Cond.methodLink RL 78 yX0_toBill, Cond.instanceMethod yX0_toBill, Cond.selects RX0 yX0_toBill yX0_toBill, Cond.code yX0_toBill cX0_toBill 3 (some .int), Cond.methodLink RX0 116 yX0_weekCharge, Cond.instanceMethod yX0_weekCharge, Cond.selects RX0 yX0_weekCharge yX0_weekCharge, Cond.code yX0_weekCharge cX0_weekCharge 6 (some .int)]
def wsL_areSums : List Cond := .code yL_areSums cL_areSums 11 (some .boolean) :: ((wsL_areSums_r1 ++ (wsL_areSums_r2 ++ (wsL_areSums_r3 ++ (wsL_areSums_r4 ++ (wsL_areSums_r5 ++ wsL_areSums_r6))))) ++ wsX00 ++ (vx_atS RX0 151 "java/lang/IndexOutOfBoundsException" ["java/lang/RuntimeException", "java/lang/Exception"]).filter goodWord)
def wsL_isRefused_r1 : List Cond := [Cond.constant RL 17 (-1100000001), Cond.constant RL 20 (-1100000002), Cond.constant RL 46 (-1100000003), Cond.methodLink RL 104 yL_all, Cond.static yL_all, Cond.initialized RL, Cond.code yL_all cL_all 5 (some .long), Cond.constantLong RL 88 (1000003), Cond.constantLong RL 90 (31), Cond.constantLong RL 92 (257), Cond.constantLong RL 94 (65537), Cond.methodLink RL 84 yX0_shifts, Cond.instanceMethod yX0_shifts, Cond.selects RX0 yX0_shifts yX0_shifts, Cond.initialized RX0, Cond.code yX0_shifts cX0_shifts 1 (some .int), Cond.fieldLink RX0 32 "AssignmentHouse" "shiftCount" "I", Cond.methodLink RL 57 yX0_payOf, Cond.instanceMethod yX0_payOf, Cond.selects RX0 yX0_payOf yX0_payOf, Cond.code yX0_payOf cX0_payOf 2 (some .int), Cond.methodLink RX0 63 yX0_needOneOf, Cond.static yX0_needOneOf, Cond.code yX0_needOneOf cX0_needOneOf 2 none]
def wsL_isRefused_r2 : List Cond := [Cond.classLink RX0 147 "java/lang/IndexOutOfBoundsException", Cond.initialized "java/lang/IndexOutOfBoundsException", Cond.methodLink RX0 97 yX0_shiftPay, Cond.instanceMethod yX0_shiftPay, Cond.selects RX0 yX0_shiftPay yX0_shiftPay, Cond.code yX0_shiftPay cX0_shiftPay 5 (some .int), Cond.fieldLink RX0 44 "AssignmentHouse" "hoursOf" "[I", Cond.fieldLink RX0 35 "AssignmentHouse" "workerOf" "[I", Cond.fieldLink RX0 38 "AssignmentHouse" "siteOf" "[I", Cond.fieldLink RX0 41 "AssignmentHouse" "dayOf" "[I", Cond.methodLink RX0 91 yX0_overtimeHours, Cond.instanceMethod yX0_overtimeHours, Cond.selects RX0 yX0_overtimeHours yX0_overtimeHours, Cond.code yX0_overtimeHours cX0_overtimeHours 6 (some .int), Cond.fieldLink RX0 56 "AssignmentHouse" "aheadOnDay" "[I", Cond.methodLink RX0 133 Lib.Math.max.name, Cond.static Lib.Math.max.name, Cond.initialized "java/lang/Math", Cond.code Lib.Math.max.name Lib.Math.max.code 2 (some .int), Cond.methodLink RX0 138 Lib.Math.min.name, Cond.static Lib.Math.min.name, Cond.code Lib.Math.min.name Lib.Math.min.code 2 (some .int), Cond.methodLink RX0 122 yX0_fillAheadOnDay, Cond.instanceMethod yX0_fillAheadOnDay]
def wsL_isRefused_r3 : List Cond := [Cond.selects RX0 yX0_fillAheadOnDay yX0_fillAheadOnDay, Cond.code yX0_fillAheadOnDay cX0_fillAheadOnDay 9 none, Cond.methodLink RX0 79 yX0_at, Cond.static yX0_at, Cond.code yX0_at cX0_at 2 (some .int), Cond.methodLink RX0 100 yX0_weekOf, Cond.static yX0_weekOf, Cond.code yX0_weekOf cX0_weekOf 1 (some .int), Cond.methodLink RX0 59 yX0_put, Cond.static yX0_put, Cond.code yX0_put cX0_put 3 none, Cond.methodLink RX0 87 yX0_isOfWorker, Cond.instanceMethod yX0_isOfWorker, Cond.selects RX0 yX0_isOfWorker yX0_isOfWorker, Cond.code yX0_isOfWorker cX0_isOfWorker 4 (some .boolean), Cond.methodLink RX0 126 yX0_plainOfDay, Cond.static yX0_plainOfDay, Cond.code yX0_plainOfDay cX0_plainOfDay 1 (some .int), Cond.methodLink RX0 129 yX0_plainByDayAhead, Cond.instanceMethod yX0_plainByDayAhead, Cond.selects RX0 yX0_plainByDayAhead yX0_plainByDayAhead, Cond.code yX0_plainByDayAhead cX0_plainByDayAhead 3 (some .int), Cond.methodLink RX0 112 yX0_rateThere, Cond.instanceMethod yX0_rateThere]
def wsL_isRefused_r4 : List Cond := [Cond.selects RX0 yX0_rateThere yX0_rateThere, Cond.code yX0_rateThere cX0_rateThere 4 (some .int), Cond.fieldLink RX0 13 "AssignmentHouse" "equalRate" "[I", Cond.fieldLink RX0 9 "AssignmentHouse" "plainRate" "[I", Cond.methodLink RX0 94 yX0_isEqual, Cond.instanceMethod yX0_isEqual, Cond.selects RX0 yX0_isEqual yX0_isEqual, Cond.code yX0_isEqual cX0_isEqual 8 (some .boolean), Cond.fieldLink RX0 29 "AssignmentHouse" "equalGap" "I", Cond.fieldLink RX0 25 "AssignmentHouse" "equalSpan" "I", Cond.methodLink RX0 141 yX0_weeksWorked, Cond.instanceMethod yX0_weeksWorked, Cond.selects RX0 yX0_weeksWorked yX0_weeksWorked, Cond.code yX0_weeksWorked cX0_weeksWorked 5 (some .int), Cond.methodLink RL 60 yX0_chargeOf, Cond.instanceMethod yX0_chargeOf, Cond.selects RX0 yX0_chargeOf yX0_chargeOf, Cond.code yX0_chargeOf cX0_chargeOf 3 (some .int), Cond.methodLink RX0 103 yX0_marginAt, Cond.instanceMethod yX0_marginAt, Cond.selects RX0 yX0_marginAt yX0_marginAt, Cond.code yX0_marginAt cX0_marginAt 4 (some .int), Cond.fieldLink RX0 22 "AssignmentHouse" "lowVolume" "[I", Cond.fieldLink RX0 19 "AssignmentHouse" "lowMargin" "[I"]
def wsL_isRefused_r5 : List Cond := [Cond.fieldLink RX0 16 "AssignmentHouse" "highMargin" "[I", Cond.methodLink RX0 144 yX0_hoursAtSite, Cond.instanceMethod yX0_hoursAtSite, Cond.selects RX0 yX0_hoursAtSite yX0_hoursAtSite, Cond.code yX0_hoursAtSite cX0_hoursAtSite 5 (some .int), Cond.methodLink RX0 119 yX0_isAtSite, Cond.instanceMethod yX0_isAtSite, Cond.selects RX0 yX0_isAtSite yX0_isAtSite, Cond.code yX0_isAtSite cX0_isAtSite 4 (some .boolean), Cond.methodLink RX0 106 yX0_chargeFor, Cond.static yX0_chargeFor, Cond.code yX0_chargeFor cX0_chargeFor 2 (some .int), Cond.methodLink RL 81 yX0_holiday, Cond.instanceMethod yX0_holiday, Cond.selects RX0 yX0_holiday yX0_holiday, Cond.code yX0_holiday cX0_holiday 2 (some .int), Cond.methodLink RX0 83 yX0_minutesLeft, Cond.instanceMethod yX0_minutesLeft, Cond.selects RX0 yX0_minutesLeft yX0_minutesLeft, Cond.code yX0_minutesLeft cX0_minutesLeft 4 (some .int), Cond.fieldLink RX0 53 "AssignmentHouse" "minutesTaken" "[I", Cond.methodLink RL 69 yX0_paid, Cond.instanceMethod yX0_paid, Cond.selects RX0 yX0_paid yX0_paid]
def wsL_isRefused_r6 : List Cond := [Cond.code yX0_paid cX0_paid 3 (some .int), Cond.fieldLink RX0 47 "AssignmentHouse" "paidFor" "[I", Cond.methodLink RL 75 yX0_owing, Cond.instanceMethod yX0_owing, Cond.selects RX0 yX0_owing yX0_owing, Cond.code yX0_owing cX0_owing 3 (some .int), Cond.methodLink RX0 109 yX0_weekPay, Cond.instanceMethod yX0_weekPay, Cond.selects RX0 yX0_weekPay yX0_weekPay, Cond.code yX0_weekPay cX0_weekPay 5 (some .int), Cond.methodLink RL 108 yL_setRates, Cond.static yL_setRates, Cond.codeWith yL_setRates cL_setRates 5 (some .int) [(0, 8, 9, 15), (0, 8, 14, 18)], Cond.classLink RL 15 "java/lang/IndexOutOfBoundsException", Cond.classLink RL 18 "java/lang/IllegalArgumentException", Cond.methodLink RL 9 yX0_setRates, Cond.instanceMethod yX0_setRates, Cond.selects RX0 yX0_setRates yX0_setRates, Cond.code yX0_setRates cX0_setRates 4 none, Cond.methodLink RX0 67 yX0_needRange, Cond.static yX0_needRange, Cond.code yX0_needRange cX0_needRange 3 none, Cond.classLink RX0 154 "java/lang/IllegalArgumentException", Cond.initialized "java/lang/IllegalArgumentException"]
def wsL_isRefused_r7 : List Cond := [Cond.methodLink RL 111 yL_setMargins, Cond.static yL_setMargins, Cond.codeWith yL_setMargins cL_setMargins 6 (some .int) [(0, 10, 11, 15), (0, 10, 16, 18)], Cond.methodLink RL 21 yX0_setMargins, Cond.instanceMethod yX0_setMargins, Cond.selects RX0 yX0_setMargins yX0_setMargins, Cond.code yX0_setMargins cX0_setMargins 5 none, Cond.methodLink RL 114 yL_setEqual, Cond.static yL_setEqual, Cond.codeWith yL_setEqual cL_setEqual 4 (some .int) [(0, 7, 8, 18)], Cond.methodLink RL 25 yX0_setEqual, Cond.instanceMethod yX0_setEqual, Cond.selects RX0 yX0_setEqual yX0_setEqual, Cond.code yX0_setEqual cX0_setEqual 3 none, Cond.methodLink RL 117 yL_act, Cond.static yL_act, Cond.codeWith yL_act cL_act 7 (some .int) [(0, 50, 51, 15), (0, 50, 56, 18), (0, 50, 61, 44)], Cond.classLink RL 44 "java/lang/IllegalStateException", Cond.methodLink RL 29 yX0_shift, Cond.instanceMethod yX0_shift, Cond.selects RX0 yX0_shift yX0_shift, Cond.code yX0_shift cX0_shift 6 (some .int), Cond.methodLink RX0 71 yX0_needState, Cond.static yX0_needState]
def wsL_isRefused_r8 : List Cond := [Cond.code yX0_needState cX0_needState 1 none, Cond.classLink RX0 159 "java/lang/IllegalStateException", Cond.initialized "java/lang/IllegalStateException", Cond.methodLink RX0 75 yX0_hoursOnDay, Cond.instanceMethod yX0_hoursOnDay, Cond.selects RX0 yX0_hoursOnDay yX0_hoursOnDay, Cond.code yX0_hoursOnDay cX0_hoursOnDay 5 (some .int), Cond.methodLink RL 33 yX0_correct, Cond.instanceMethod yX0_correct, Cond.selects RX0 yX0_correct yX0_correct, Cond.code yX0_correct cX0_correct 6 (some .int), Cond.methodLink RL 37 yX0_run, Cond.instanceMethod yX0_run, Cond.selects RX0 yX0_run yX0_run, Cond.code yX0_run cX0_run 6 (some .int), Cond.fieldLink RX0 50 "AssignmentHouse" "billedFor" "[I", Cond.methodLink RX0 116 yX0_weekCharge, Cond.instanceMethod yX0_weekCharge, Cond.selects RX0 yX0_weekCharge yX0_weekCharge, Cond.code yX0_weekCharge cX0_weekCharge 6 (some .int), Cond.methodLink RL 41 yX0_takeHoliday, Cond.instanceMethod yX0_takeHoliday, Cond.selects RX0 yX0_takeHoliday yX0_takeHoliday, Cond.code yX0_takeHoliday cX0_takeHoliday 4 (some .int)]
def wsL_isRefused_r9 : List Cond := [Cond.methodLink RL 121 yL_of, Cond.static yL_of, Cond.codeWith yL_of cL_of 6 (some .int) [(0, 170, 171, 15)], Cond.methodLink RL 47 yX0_hours, Cond.instanceMethod yX0_hours, Cond.selects RX0 yX0_hours yX0_hours, Cond.code yX0_hours cX0_hours 5 (some .int), Cond.methodLink RL 50 yX0_overtime, Cond.instanceMethod yX0_overtime, Cond.selects RX0 yX0_overtime yX0_overtime, Cond.code yX0_overtime cX0_overtime 2 (some .int), Cond.methodLink RL 53 yX0_hasEqual, Cond.instanceMethod yX0_hasEqual, Cond.selects RX0 yX0_hasEqual yX0_hasEqual, Cond.code yX0_hasEqual cX0_hasEqual 4 (some .boolean), Cond.methodLink RL 63 yX0_pay, Cond.instanceMethod yX0_pay, Cond.selects RX0 yX0_pay yX0_pay, Cond.code yX0_pay cX0_pay 3 (some .int), Cond.methodLink RL 66 yX0_payByHours, Cond.instanceMethod yX0_payByHours, Cond.selects RX0 yX0_payByHours yX0_payByHours, Cond.code yX0_payByHours cX0_payByHours 13 (some .int), Cond.methodLink RL 72 yX0_billed]
def wsL_isRefused_r10 : List Cond := [Cond.instanceMethod yX0_billed, Cond.selects RX0 yX0_billed yX0_billed, Cond.code yX0_billed cX0_billed 3 (some .int), Cond.methodLink RL 78 yX0_toBill, Cond.instanceMethod yX0_toBill, Cond.selects RX0 yX0_toBill yX0_toBill, Cond.code yX0_toBill cX0_toBill 3 (some .int)]
def wsL_isRefused : List Cond := .code yL_isRefused cL_isRefused 15 (some .boolean) :: ((wsL_isRefused_r1 ++ (wsL_isRefused_r2 ++ (wsL_isRefused_r3 ++ (wsL_isRefused_r4 ++ (wsL_isRefused_r5 ++ (wsL_isRefused_r6 ++ (wsL_isRefused_r7 ++ (wsL_isRefused_r8 ++ (wsL_isRefused_r9 ++ wsL_isRefused_r10))))))))) ++ wsX00 ++ (vx_atS RX0 151 "java/lang/IndexOutOfBoundsException" ["java/lang/RuntimeException", "java/lang/Exception"]).filter goodWord ++ (vx_atS RX0 158 "java/lang/IllegalArgumentException" ["java/lang/RuntimeException", "java/lang/Exception"]).filter goodWord ++ (vx_atS RX0 163 "java/lang/IllegalStateException" ["java/lang/RuntimeException", "java/lang/Exception"]).filter goodWord)
def wsL_onDay : List Cond := .code yL_onDay cL_onDay 6 (some .int) :: ([.methodLink RL 96 yL_day, .static yL_day, .initialized RL, .code yL_day cL_day 2 (some .int), .methodLink RL 102 yL_hours, .static yL_hours, .code yL_hours cL_hours 2 (some .int)])
def wsL_isTold_r1 : List Cond := [Cond.constant RL 46 (-1100000003), Cond.methodLink RL 124 yL_onDay, Cond.static yL_onDay, Cond.initialized RL, Cond.code yL_onDay cL_onDay 6 (some .int), Cond.methodLink RL 96 yL_day, Cond.static yL_day, Cond.code yL_day cL_day 2 (some .int), Cond.methodLink RL 102 yL_hours, Cond.static yL_hours, Cond.code yL_hours cL_hours 2 (some .int), Cond.methodLink RL 81 yX0_holiday, Cond.instanceMethod yX0_holiday, Cond.selects RX0 yX0_holiday yX0_holiday, Cond.initialized RX0, Cond.code yX0_holiday cX0_holiday 2 (some .int), Cond.methodLink RX0 63 yX0_needOneOf, Cond.static yX0_needOneOf, Cond.code yX0_needOneOf cX0_needOneOf 2 none, Cond.classLink RX0 147 "java/lang/IndexOutOfBoundsException", Cond.initialized "java/lang/IndexOutOfBoundsException", Cond.methodLink RX0 83 yX0_minutesLeft, Cond.instanceMethod yX0_minutesLeft, Cond.selects RX0 yX0_minutesLeft yX0_minutesLeft]
def wsL_isTold_r2 : List Cond := [Cond.code yX0_minutesLeft cX0_minutesLeft 4 (some .int), Cond.fieldLink RX0 32 "AssignmentHouse" "shiftCount" "I", Cond.fieldLink RX0 35 "AssignmentHouse" "workerOf" "[I", Cond.fieldLink RX0 44 "AssignmentHouse" "hoursOf" "[I", Cond.fieldLink RX0 53 "AssignmentHouse" "minutesTaken" "[I", Cond.methodLink RX0 79 yX0_at, Cond.static yX0_at, Cond.code yX0_at cX0_at 2 (some .int), Cond.methodLink RL 117 yL_act, Cond.static yL_act, Cond.codeWith yL_act cL_act 7 (some .int) [(0, 50, 51, 15), (0, 50, 56, 18), (0, 50, 61, 44)], Cond.classLink RL 15 "java/lang/IndexOutOfBoundsException", Cond.classLink RL 18 "java/lang/IllegalArgumentException", Cond.classLink RL 44 "java/lang/IllegalStateException", Cond.constant RL 17 (-1100000001), Cond.constant RL 20 (-1100000002), Cond.methodLink RL 29 yX0_shift, Cond.instanceMethod yX0_shift, Cond.selects RX0 yX0_shift yX0_shift, Cond.code yX0_shift cX0_shift 6 (some .int), Cond.fieldLink RX0 38 "AssignmentHouse" "siteOf" "[I", Cond.fieldLink RX0 41 "AssignmentHouse" "dayOf" "[I", Cond.methodLink RX0 67 yX0_needRange, Cond.static yX0_needRange]
def wsL_isTold_r3 : List Cond := [Cond.code yX0_needRange cX0_needRange 3 none, Cond.classLink RX0 154 "java/lang/IllegalArgumentException", Cond.initialized "java/lang/IllegalArgumentException", Cond.methodLink RX0 71 yX0_needState, Cond.static yX0_needState, Cond.code yX0_needState cX0_needState 1 none, Cond.classLink RX0 159 "java/lang/IllegalStateException", Cond.initialized "java/lang/IllegalStateException", Cond.methodLink RX0 75 yX0_hoursOnDay, Cond.instanceMethod yX0_hoursOnDay, Cond.selects RX0 yX0_hoursOnDay yX0_hoursOnDay, Cond.code yX0_hoursOnDay cX0_hoursOnDay 5 (some .int), Cond.methodLink RX0 59 yX0_put, Cond.static yX0_put, Cond.code yX0_put cX0_put 3 none, Cond.methodLink RL 33 yX0_correct, Cond.instanceMethod yX0_correct, Cond.selects RX0 yX0_correct yX0_correct, Cond.code yX0_correct cX0_correct 6 (some .int), Cond.methodLink RL 37 yX0_run, Cond.instanceMethod yX0_run, Cond.selects RX0 yX0_run yX0_run, Cond.code yX0_run cX0_run 6 (some .int), Cond.fieldLink RX0 47 "AssignmentHouse" "paidFor" "[I"]
def wsL_isTold_r4 : List Cond := [Cond.fieldLink RX0 50 "AssignmentHouse" "billedFor" "[I", Cond.methodLink RX0 109 yX0_weekPay, Cond.instanceMethod yX0_weekPay, Cond.selects RX0 yX0_weekPay yX0_weekPay, Cond.code yX0_weekPay cX0_weekPay 5 (some .int), Cond.methodLink RX0 87 yX0_isOfWorker, Cond.instanceMethod yX0_isOfWorker, Cond.selects RX0 yX0_isOfWorker yX0_isOfWorker, Cond.code yX0_isOfWorker cX0_isOfWorker 4 (some .boolean), Cond.methodLink RX0 100 yX0_weekOf, Cond.static yX0_weekOf, Cond.code yX0_weekOf cX0_weekOf 1 (some .int), Cond.methodLink RX0 97 yX0_shiftPay, Cond.instanceMethod yX0_shiftPay, Cond.selects RX0 yX0_shiftPay yX0_shiftPay, Cond.code yX0_shiftPay cX0_shiftPay 5 (some .int), Cond.methodLink RX0 91 yX0_overtimeHours, Cond.instanceMethod yX0_overtimeHours, Cond.selects RX0 yX0_overtimeHours yX0_overtimeHours, Cond.code yX0_overtimeHours cX0_overtimeHours 6 (some .int), Cond.fieldLink RX0 56 "AssignmentHouse" "aheadOnDay" "[I", Cond.methodLink RX0 133 Lib.Math.max.name, Cond.static Lib.Math.max.name, Cond.initialized "java/lang/Math"]
def wsL_isTold_r5 : List Cond := [Cond.code Lib.Math.max.name Lib.Math.max.code 2 (some .int), Cond.methodLink RX0 138 Lib.Math.min.name, Cond.static Lib.Math.min.name, Cond.code Lib.Math.min.name Lib.Math.min.code 2 (some .int), Cond.methodLink RX0 122 yX0_fillAheadOnDay, Cond.instanceMethod yX0_fillAheadOnDay, Cond.selects RX0 yX0_fillAheadOnDay yX0_fillAheadOnDay, Cond.code yX0_fillAheadOnDay cX0_fillAheadOnDay 9 none, Cond.methodLink RX0 126 yX0_plainOfDay, Cond.static yX0_plainOfDay, Cond.code yX0_plainOfDay cX0_plainOfDay 1 (some .int), Cond.methodLink RX0 129 yX0_plainByDayAhead, Cond.instanceMethod yX0_plainByDayAhead, Cond.selects RX0 yX0_plainByDayAhead yX0_plainByDayAhead, Cond.code yX0_plainByDayAhead cX0_plainByDayAhead 3 (some .int), Cond.methodLink RX0 112 yX0_rateThere, Cond.instanceMethod yX0_rateThere, Cond.selects RX0 yX0_rateThere yX0_rateThere, Cond.code yX0_rateThere cX0_rateThere 4 (some .int), Cond.fieldLink RX0 13 "AssignmentHouse" "equalRate" "[I", Cond.fieldLink RX0 9 "AssignmentHouse" "plainRate" "[I", Cond.methodLink RX0 94 yX0_isEqual, Cond.instanceMethod yX0_isEqual, Cond.selects RX0 yX0_isEqual yX0_isEqual]
def wsL_isTold_r6 : List Cond := [Cond.code yX0_isEqual cX0_isEqual 8 (some .boolean), Cond.fieldLink RX0 29 "AssignmentHouse" "equalGap" "I", Cond.fieldLink RX0 25 "AssignmentHouse" "equalSpan" "I", Cond.methodLink RX0 141 yX0_weeksWorked, Cond.instanceMethod yX0_weeksWorked, Cond.selects RX0 yX0_weeksWorked yX0_weeksWorked, Cond.code yX0_weeksWorked cX0_weeksWorked 5 (some .int), Cond.methodLink RX0 116 yX0_weekCharge, Cond.instanceMethod yX0_weekCharge, Cond.selects RX0 yX0_weekCharge yX0_weekCharge, Cond.code yX0_weekCharge cX0_weekCharge 6 (some .int), Cond.methodLink RX0 103 yX0_marginAt, Cond.instanceMethod yX0_marginAt, Cond.selects RX0 yX0_marginAt yX0_marginAt, Cond.code yX0_marginAt cX0_marginAt 4 (some .int), Cond.fieldLink RX0 22 "AssignmentHouse" "lowVolume" "[I", Cond.fieldLink RX0 19 "AssignmentHouse" "lowMargin" "[I", Cond.fieldLink RX0 16 "AssignmentHouse" "highMargin" "[I", Cond.methodLink RX0 144 yX0_hoursAtSite, Cond.instanceMethod yX0_hoursAtSite, Cond.selects RX0 yX0_hoursAtSite yX0_hoursAtSite, Cond.code yX0_hoursAtSite cX0_hoursAtSite 5 (some .int), Cond.methodLink RX0 119 yX0_isAtSite, Cond.instanceMethod yX0_isAtSite]
def wsL_isTold_r7 : List Cond := [Cond.selects RX0 yX0_isAtSite yX0_isAtSite, Cond.code yX0_isAtSite cX0_isAtSite 4 (some .boolean), Cond.methodLink RX0 106 yX0_chargeFor, Cond.static yX0_chargeFor, Cond.code yX0_chargeFor cX0_chargeFor 2 (some .int), Cond.methodLink RL 41 yX0_takeHoliday, Cond.instanceMethod yX0_takeHoliday, Cond.selects RX0 yX0_takeHoliday yX0_takeHoliday, Cond.code yX0_takeHoliday cX0_takeHoliday 4 (some .int)]
def wsL_isTold : List Cond := .code yL_isTold cL_isTold 9 (some .boolean) :: ((wsL_isTold_r1 ++ (wsL_isTold_r2 ++ (wsL_isTold_r3 ++ (wsL_isTold_r4 ++ (wsL_isTold_r5 ++ (wsL_isTold_r6 ++ wsL_isTold_r7)))))) ++ wsX00 ++ (vx_atS RX0 151 "java/lang/IndexOutOfBoundsException" ["java/lang/RuntimeException", "java/lang/Exception"]).filter goodWord ++ (vx_atS RX0 158 "java/lang/IllegalArgumentException" ["java/lang/RuntimeException", "java/lang/Exception"]).filter goodWord ++ (vx_atS RX0 163 "java/lang/IllegalStateException" ["java/lang/RuntimeException", "java/lang/Exception"]).filter goodWord)
def wsL_isCorrected_r1 : List Cond := [Cond.constant RL 46 (-1100000003), Cond.methodLink RL 102 yL_hours, Cond.static yL_hours, Cond.initialized RL, Cond.code yL_hours cL_hours 2 (some .int), Cond.methodLink RL 81 yX0_holiday, Cond.instanceMethod yX0_holiday, Cond.selects RX0 yX0_holiday yX0_holiday, Cond.initialized RX0, Cond.code yX0_holiday cX0_holiday 2 (some .int), Cond.methodLink RX0 63 yX0_needOneOf, Cond.static yX0_needOneOf, Cond.code yX0_needOneOf cX0_needOneOf 2 none, Cond.classLink RX0 147 "java/lang/IndexOutOfBoundsException", Cond.initialized "java/lang/IndexOutOfBoundsException", Cond.methodLink RX0 83 yX0_minutesLeft, Cond.instanceMethod yX0_minutesLeft, Cond.selects RX0 yX0_minutesLeft yX0_minutesLeft, Cond.code yX0_minutesLeft cX0_minutesLeft 4 (some .int), Cond.fieldLink RX0 32 "AssignmentHouse" "shiftCount" "I", Cond.fieldLink RX0 35 "AssignmentHouse" "workerOf" "[I", Cond.fieldLink RX0 44 "AssignmentHouse" "hoursOf" "[I", Cond.fieldLink RX0 53 "AssignmentHouse" "minutesTaken" "[I", Cond.methodLink RX0 79 yX0_at]
def wsL_isCorrected_r2 : List Cond := [Cond.static yX0_at, Cond.code yX0_at cX0_at 2 (some .int), Cond.methodLink RL 96 yL_day, Cond.static yL_day, Cond.code yL_day cL_day 2 (some .int), Cond.methodLink RL 69 yX0_paid, Cond.instanceMethod yX0_paid, Cond.selects RX0 yX0_paid yX0_paid, Cond.code yX0_paid cX0_paid 3 (some .int), Cond.fieldLink RX0 47 "AssignmentHouse" "paidFor" "[I", Cond.methodLink RL 124 yL_onDay, Cond.static yL_onDay, Cond.code yL_onDay cL_onDay 6 (some .int), Cond.methodLink RL 117 yL_act, Cond.static yL_act, Cond.codeWith yL_act cL_act 7 (some .int) [(0, 50, 51, 15), (0, 50, 56, 18), (0, 50, 61, 44)], Cond.classLink RL 15 "java/lang/IndexOutOfBoundsException", Cond.classLink RL 18 "java/lang/IllegalArgumentException", Cond.classLink RL 44 "java/lang/IllegalStateException", Cond.constant RL 17 (-1100000001), Cond.constant RL 20 (-1100000002), Cond.methodLink RL 29 yX0_shift, Cond.instanceMethod yX0_shift, Cond.selects RX0 yX0_shift yX0_shift]
def wsL_isCorrected_r3 : List Cond := [Cond.code yX0_shift cX0_shift 6 (some .int), Cond.fieldLink RX0 38 "AssignmentHouse" "siteOf" "[I", Cond.fieldLink RX0 41 "AssignmentHouse" "dayOf" "[I", Cond.methodLink RX0 67 yX0_needRange, Cond.static yX0_needRange, Cond.code yX0_needRange cX0_needRange 3 none, Cond.classLink RX0 154 "java/lang/IllegalArgumentException", Cond.initialized "java/lang/IllegalArgumentException", Cond.methodLink RX0 71 yX0_needState, Cond.static yX0_needState, Cond.code yX0_needState cX0_needState 1 none, Cond.classLink RX0 159 "java/lang/IllegalStateException", Cond.initialized "java/lang/IllegalStateException", Cond.methodLink RX0 75 yX0_hoursOnDay, Cond.instanceMethod yX0_hoursOnDay, Cond.selects RX0 yX0_hoursOnDay yX0_hoursOnDay, Cond.code yX0_hoursOnDay cX0_hoursOnDay 5 (some .int), Cond.methodLink RX0 59 yX0_put, Cond.static yX0_put, Cond.code yX0_put cX0_put 3 none, Cond.methodLink RL 33 yX0_correct, Cond.instanceMethod yX0_correct, Cond.selects RX0 yX0_correct yX0_correct, Cond.code yX0_correct cX0_correct 6 (some .int)]
def wsL_isCorrected_r4 : List Cond := [Cond.methodLink RL 37 yX0_run, Cond.instanceMethod yX0_run, Cond.selects RX0 yX0_run yX0_run, Cond.code yX0_run cX0_run 6 (some .int), Cond.fieldLink RX0 50 "AssignmentHouse" "billedFor" "[I", Cond.methodLink RX0 109 yX0_weekPay, Cond.instanceMethod yX0_weekPay, Cond.selects RX0 yX0_weekPay yX0_weekPay, Cond.code yX0_weekPay cX0_weekPay 5 (some .int), Cond.methodLink RX0 87 yX0_isOfWorker, Cond.instanceMethod yX0_isOfWorker, Cond.selects RX0 yX0_isOfWorker yX0_isOfWorker, Cond.code yX0_isOfWorker cX0_isOfWorker 4 (some .boolean), Cond.methodLink RX0 100 yX0_weekOf, Cond.static yX0_weekOf, Cond.code yX0_weekOf cX0_weekOf 1 (some .int), Cond.methodLink RX0 97 yX0_shiftPay, Cond.instanceMethod yX0_shiftPay, Cond.selects RX0 yX0_shiftPay yX0_shiftPay, Cond.code yX0_shiftPay cX0_shiftPay 5 (some .int), Cond.methodLink RX0 91 yX0_overtimeHours, Cond.instanceMethod yX0_overtimeHours, Cond.selects RX0 yX0_overtimeHours yX0_overtimeHours, Cond.code yX0_overtimeHours cX0_overtimeHours 6 (some .int)]
def wsL_isCorrected_r5 : List Cond := [Cond.fieldLink RX0 56 "AssignmentHouse" "aheadOnDay" "[I", Cond.methodLink RX0 133 Lib.Math.max.name, Cond.static Lib.Math.max.name, Cond.initialized "java/lang/Math", Cond.code Lib.Math.max.name Lib.Math.max.code 2 (some .int), Cond.methodLink RX0 138 Lib.Math.min.name, Cond.static Lib.Math.min.name, Cond.code Lib.Math.min.name Lib.Math.min.code 2 (some .int), Cond.methodLink RX0 122 yX0_fillAheadOnDay, Cond.instanceMethod yX0_fillAheadOnDay, Cond.selects RX0 yX0_fillAheadOnDay yX0_fillAheadOnDay, Cond.code yX0_fillAheadOnDay cX0_fillAheadOnDay 9 none, Cond.methodLink RX0 126 yX0_plainOfDay, Cond.static yX0_plainOfDay, Cond.code yX0_plainOfDay cX0_plainOfDay 1 (some .int), Cond.methodLink RX0 129 yX0_plainByDayAhead, Cond.instanceMethod yX0_plainByDayAhead, Cond.selects RX0 yX0_plainByDayAhead yX0_plainByDayAhead, Cond.code yX0_plainByDayAhead cX0_plainByDayAhead 3 (some .int), Cond.methodLink RX0 112 yX0_rateThere, Cond.instanceMethod yX0_rateThere, Cond.selects RX0 yX0_rateThere yX0_rateThere, Cond.code yX0_rateThere cX0_rateThere 4 (some .int), Cond.fieldLink RX0 13 "AssignmentHouse" "equalRate" "[I"]
def wsL_isCorrected_r6 : List Cond := [Cond.fieldLink RX0 9 "AssignmentHouse" "plainRate" "[I", Cond.methodLink RX0 94 yX0_isEqual, Cond.instanceMethod yX0_isEqual, Cond.selects RX0 yX0_isEqual yX0_isEqual, Cond.code yX0_isEqual cX0_isEqual 8 (some .boolean), Cond.fieldLink RX0 29 "AssignmentHouse" "equalGap" "I", Cond.fieldLink RX0 25 "AssignmentHouse" "equalSpan" "I", Cond.methodLink RX0 141 yX0_weeksWorked, Cond.instanceMethod yX0_weeksWorked, Cond.selects RX0 yX0_weeksWorked yX0_weeksWorked, Cond.code yX0_weeksWorked cX0_weeksWorked 5 (some .int), Cond.methodLink RX0 116 yX0_weekCharge, Cond.instanceMethod yX0_weekCharge, Cond.selects RX0 yX0_weekCharge yX0_weekCharge, Cond.code yX0_weekCharge cX0_weekCharge 6 (some .int), Cond.methodLink RX0 103 yX0_marginAt, Cond.instanceMethod yX0_marginAt, Cond.selects RX0 yX0_marginAt yX0_marginAt, Cond.code yX0_marginAt cX0_marginAt 4 (some .int), Cond.fieldLink RX0 22 "AssignmentHouse" "lowVolume" "[I", Cond.fieldLink RX0 19 "AssignmentHouse" "lowMargin" "[I", Cond.fieldLink RX0 16 "AssignmentHouse" "highMargin" "[I", Cond.methodLink RX0 144 yX0_hoursAtSite, Cond.instanceMethod yX0_hoursAtSite]
def wsL_isCorrected_r7 : List Cond := [Cond.selects RX0 yX0_hoursAtSite yX0_hoursAtSite, Cond.code yX0_hoursAtSite cX0_hoursAtSite 5 (some .int), Cond.methodLink RX0 119 yX0_isAtSite, Cond.instanceMethod yX0_isAtSite, Cond.selects RX0 yX0_isAtSite yX0_isAtSite, Cond.code yX0_isAtSite cX0_isAtSite 4 (some .boolean), Cond.methodLink RX0 106 yX0_chargeFor, Cond.static yX0_chargeFor, Cond.code yX0_chargeFor cX0_chargeFor 2 (some .int), Cond.methodLink RL 41 yX0_takeHoliday, Cond.instanceMethod yX0_takeHoliday, Cond.selects RX0 yX0_takeHoliday yX0_takeHoliday, Cond.code yX0_takeHoliday cX0_takeHoliday 4 (some .int)]
def wsL_isCorrected : List Cond := .code yL_isCorrected cL_isCorrected 10 (some .boolean) :: ((wsL_isCorrected_r1 ++ (wsL_isCorrected_r2 ++ (wsL_isCorrected_r3 ++ (wsL_isCorrected_r4 ++ (wsL_isCorrected_r5 ++ (wsL_isCorrected_r6 ++ wsL_isCorrected_r7)))))) ++ wsX00 ++ (vx_atS RX0 151 "java/lang/IndexOutOfBoundsException" ["java/lang/RuntimeException", "java/lang/Exception"]).filter goodWord ++ (vx_atS RX0 158 "java/lang/IllegalArgumentException" ["java/lang/RuntimeException", "java/lang/Exception"]).filter goodWord ++ (vx_atS RX0 163 "java/lang/IllegalStateException" ["java/lang/RuntimeException", "java/lang/Exception"]).filter goodWord)
def wsL_isRun_r1 : List Cond := [Cond.methodLink RL 75 yX0_owing, Cond.instanceMethod yX0_owing, Cond.selects RX0 yX0_owing yX0_owing, Cond.initialized RX0, Cond.code yX0_owing cX0_owing 3 (some .int), Cond.fieldLink RX0 47 "AssignmentHouse" "paidFor" "[I", Cond.methodLink RX0 63 yX0_needOneOf, Cond.static yX0_needOneOf, Cond.code yX0_needOneOf cX0_needOneOf 2 none, Cond.classLink RX0 147 "java/lang/IndexOutOfBoundsException", Cond.initialized "java/lang/IndexOutOfBoundsException", Cond.methodLink RX0 109 yX0_weekPay, Cond.instanceMethod yX0_weekPay, Cond.selects RX0 yX0_weekPay yX0_weekPay, Cond.code yX0_weekPay cX0_weekPay 5 (some .int), Cond.fieldLink RX0 32 "AssignmentHouse" "shiftCount" "I", Cond.methodLink RX0 87 yX0_isOfWorker, Cond.instanceMethod yX0_isOfWorker, Cond.selects RX0 yX0_isOfWorker yX0_isOfWorker, Cond.code yX0_isOfWorker cX0_isOfWorker 4 (some .boolean), Cond.fieldLink RX0 35 "AssignmentHouse" "workerOf" "[I", Cond.fieldLink RX0 41 "AssignmentHouse" "dayOf" "[I", Cond.methodLink RX0 79 yX0_at, Cond.static yX0_at]
def wsL_isRun_r2 : List Cond := [Cond.code yX0_at cX0_at 2 (some .int), Cond.methodLink RX0 100 yX0_weekOf, Cond.static yX0_weekOf, Cond.code yX0_weekOf cX0_weekOf 1 (some .int), Cond.methodLink RX0 97 yX0_shiftPay, Cond.instanceMethod yX0_shiftPay, Cond.selects RX0 yX0_shiftPay yX0_shiftPay, Cond.code yX0_shiftPay cX0_shiftPay 5 (some .int), Cond.fieldLink RX0 44 "AssignmentHouse" "hoursOf" "[I", Cond.fieldLink RX0 38 "AssignmentHouse" "siteOf" "[I", Cond.methodLink RX0 91 yX0_overtimeHours, Cond.instanceMethod yX0_overtimeHours, Cond.selects RX0 yX0_overtimeHours yX0_overtimeHours, Cond.code yX0_overtimeHours cX0_overtimeHours 6 (some .int), Cond.fieldLink RX0 56 "AssignmentHouse" "aheadOnDay" "[I", Cond.methodLink RX0 133 Lib.Math.max.name, Cond.static Lib.Math.max.name, Cond.initialized "java/lang/Math", Cond.code Lib.Math.max.name Lib.Math.max.code 2 (some .int), Cond.methodLink RX0 138 Lib.Math.min.name, Cond.static Lib.Math.min.name, Cond.code Lib.Math.min.name Lib.Math.min.code 2 (some .int), Cond.methodLink RX0 122 yX0_fillAheadOnDay, Cond.instanceMethod yX0_fillAheadOnDay]
def wsL_isRun_r3 : List Cond := [Cond.selects RX0 yX0_fillAheadOnDay yX0_fillAheadOnDay, Cond.code yX0_fillAheadOnDay cX0_fillAheadOnDay 9 none, Cond.methodLink RX0 59 yX0_put, Cond.static yX0_put, Cond.code yX0_put cX0_put 3 none, Cond.methodLink RX0 126 yX0_plainOfDay, Cond.static yX0_plainOfDay, Cond.code yX0_plainOfDay cX0_plainOfDay 1 (some .int), Cond.methodLink RX0 129 yX0_plainByDayAhead, Cond.instanceMethod yX0_plainByDayAhead, Cond.selects RX0 yX0_plainByDayAhead yX0_plainByDayAhead, Cond.code yX0_plainByDayAhead cX0_plainByDayAhead 3 (some .int), Cond.methodLink RX0 112 yX0_rateThere, Cond.instanceMethod yX0_rateThere, Cond.selects RX0 yX0_rateThere yX0_rateThere, Cond.code yX0_rateThere cX0_rateThere 4 (some .int), Cond.fieldLink RX0 13 "AssignmentHouse" "equalRate" "[I", Cond.fieldLink RX0 9 "AssignmentHouse" "plainRate" "[I", Cond.methodLink RX0 94 yX0_isEqual, Cond.instanceMethod yX0_isEqual, Cond.selects RX0 yX0_isEqual yX0_isEqual, Cond.code yX0_isEqual cX0_isEqual 8 (some .boolean), Cond.fieldLink RX0 29 "AssignmentHouse" "equalGap" "I", Cond.fieldLink RX0 25 "AssignmentHouse" "equalSpan" "I"]
def wsL_isRun_r4 : List Cond := [Cond.methodLink RX0 141 yX0_weeksWorked, Cond.instanceMethod yX0_weeksWorked, Cond.selects RX0 yX0_weeksWorked yX0_weeksWorked, Cond.code yX0_weeksWorked cX0_weeksWorked 5 (some .int), Cond.methodLink RL 117 yL_act, Cond.static yL_act, Cond.initialized RL, Cond.codeWith yL_act cL_act 7 (some .int) [(0, 50, 51, 15), (0, 50, 56, 18), (0, 50, 61, 44)], Cond.classLink RL 15 "java/lang/IndexOutOfBoundsException", Cond.classLink RL 18 "java/lang/IllegalArgumentException", Cond.classLink RL 44 "java/lang/IllegalStateException", Cond.constant RL 17 (-1100000001), Cond.constant RL 20 (-1100000002), Cond.constant RL 46 (-1100000003), Cond.methodLink RL 29 yX0_shift, Cond.instanceMethod yX0_shift, Cond.selects RX0 yX0_shift yX0_shift, Cond.code yX0_shift cX0_shift 6 (some .int), Cond.methodLink RX0 67 yX0_needRange, Cond.static yX0_needRange, Cond.code yX0_needRange cX0_needRange 3 none, Cond.classLink RX0 154 "java/lang/IllegalArgumentException", Cond.initialized "java/lang/IllegalArgumentException", Cond.methodLink RX0 71 yX0_needState]
def wsL_isRun_r5 : List Cond := [Cond.static yX0_needState, Cond.code yX0_needState cX0_needState 1 none, Cond.classLink RX0 159 "java/lang/IllegalStateException", Cond.initialized "java/lang/IllegalStateException", Cond.methodLink RX0 75 yX0_hoursOnDay, Cond.instanceMethod yX0_hoursOnDay, Cond.selects RX0 yX0_hoursOnDay yX0_hoursOnDay, Cond.code yX0_hoursOnDay cX0_hoursOnDay 5 (some .int), Cond.methodLink RL 33 yX0_correct, Cond.instanceMethod yX0_correct, Cond.selects RX0 yX0_correct yX0_correct, Cond.code yX0_correct cX0_correct 6 (some .int), Cond.methodLink RX0 83 yX0_minutesLeft, Cond.instanceMethod yX0_minutesLeft, Cond.selects RX0 yX0_minutesLeft yX0_minutesLeft, Cond.code yX0_minutesLeft cX0_minutesLeft 4 (some .int), Cond.fieldLink RX0 53 "AssignmentHouse" "minutesTaken" "[I", Cond.methodLink RL 37 yX0_run, Cond.instanceMethod yX0_run, Cond.selects RX0 yX0_run yX0_run, Cond.code yX0_run cX0_run 6 (some .int), Cond.fieldLink RX0 50 "AssignmentHouse" "billedFor" "[I", Cond.methodLink RX0 116 yX0_weekCharge, Cond.instanceMethod yX0_weekCharge]
def wsL_isRun_r6 : List Cond := [Cond.selects RX0 yX0_weekCharge yX0_weekCharge, Cond.code yX0_weekCharge cX0_weekCharge 6 (some .int), Cond.methodLink RX0 103 yX0_marginAt, Cond.instanceMethod yX0_marginAt, Cond.selects RX0 yX0_marginAt yX0_marginAt, Cond.code yX0_marginAt cX0_marginAt 4 (some .int), Cond.fieldLink RX0 22 "AssignmentHouse" "lowVolume" "[I", Cond.fieldLink RX0 19 "AssignmentHouse" "lowMargin" "[I", Cond.fieldLink RX0 16 "AssignmentHouse" "highMargin" "[I", Cond.methodLink RX0 144 yX0_hoursAtSite, Cond.instanceMethod yX0_hoursAtSite, Cond.selects RX0 yX0_hoursAtSite yX0_hoursAtSite, Cond.code yX0_hoursAtSite cX0_hoursAtSite 5 (some .int), Cond.methodLink RX0 119 yX0_isAtSite, Cond.instanceMethod yX0_isAtSite, Cond.selects RX0 yX0_isAtSite yX0_isAtSite, Cond.code yX0_isAtSite cX0_isAtSite 4 (some .boolean), Cond.methodLink RX0 106 yX0_chargeFor, Cond.static yX0_chargeFor, Cond.code yX0_chargeFor cX0_chargeFor 2 (some .int), Cond.methodLink RL 41 yX0_takeHoliday, Cond.instanceMethod yX0_takeHoliday, Cond.selects RX0 yX0_takeHoliday yX0_takeHoliday, Cond.code yX0_takeHoliday cX0_takeHoliday 4 (some .int)]
def wsL_isRun_r7 : List Cond := [Cond.methodLink RL 69 yX0_paid, Cond.instanceMethod yX0_paid, Cond.selects RX0 yX0_paid yX0_paid, Cond.code yX0_paid cX0_paid 3 (some .int), Cond.methodLink RL 63 yX0_pay, Cond.instanceMethod yX0_pay, Cond.selects RX0 yX0_pay yX0_pay, Cond.code yX0_pay cX0_pay 3 (some .int), Cond.methodLink RL 78 yX0_toBill, Cond.instanceMethod yX0_toBill, Cond.selects RX0 yX0_toBill yX0_toBill, Cond.code yX0_toBill cX0_toBill 3 (some .int)]
def wsL_isRun : List Cond := .code yL_isRun cL_isRun 5 (some .boolean) :: ((wsL_isRun_r1 ++ (wsL_isRun_r2 ++ (wsL_isRun_r3 ++ (wsL_isRun_r4 ++ (wsL_isRun_r5 ++ (wsL_isRun_r6 ++ wsL_isRun_r7)))))) ++ wsX00 ++ (vx_atS RX0 151 "java/lang/IndexOutOfBoundsException" ["java/lang/RuntimeException", "java/lang/Exception"]).filter goodWord ++ (vx_atS RX0 158 "java/lang/IllegalArgumentException" ["java/lang/RuntimeException", "java/lang/Exception"]).filter goodWord ++ (vx_atS RX0 163 "java/lang/IllegalStateException" ["java/lang/RuntimeException", "java/lang/Exception"]).filter goodWord)
def wsL_law0_r1 : List Cond := [Cond.classLink RL 10 RX0, Cond.instantiable RX0 16, Cond.initialized RX0, Cond.arrayClass .int, Cond.constant RL 46 (-1100000003), Cond.methodLink RL 128 yX0_init, Cond.instanceMethod yX0_init, Cond.code yX0_init cX0_init 2 none, Cond.methodLink RX0 3 objectInit, Cond.instanceMethod objectInit, Cond.code objectInit ⟨#[0xb1]⟩ 1 none, Cond.fieldLink RX0 9 "AssignmentHouse" "plainRate" "[I", Cond.fieldLink RX0 13 "AssignmentHouse" "equalRate" "[I", Cond.fieldLink RX0 16 "AssignmentHouse" "highMargin" "[I", Cond.fieldLink RX0 19 "AssignmentHouse" "lowMargin" "[I", Cond.fieldLink RX0 22 "AssignmentHouse" "lowVolume" "[I", Cond.fieldLink RX0 25 "AssignmentHouse" "equalSpan" "I", Cond.fieldLink RX0 29 "AssignmentHouse" "equalGap" "I", Cond.fieldLink RX0 32 "AssignmentHouse" "shiftCount" "I", Cond.fieldLink RX0 35 "AssignmentHouse" "workerOf" "[I", Cond.fieldLink RX0 38 "AssignmentHouse" "siteOf" "[I", Cond.fieldLink RX0 41 "AssignmentHouse" "dayOf" "[I", Cond.fieldLink RX0 44 "AssignmentHouse" "hoursOf" "[I", Cond.fieldLink RX0 47 "AssignmentHouse" "paidFor" "[I"]
def wsL_law0_r2 : List Cond := [Cond.fieldLink RX0 50 "AssignmentHouse" "billedFor" "[I", Cond.fieldLink RX0 53 "AssignmentHouse" "minutesTaken" "[I", Cond.fieldLink RX0 56 "AssignmentHouse" "aheadOnDay" "[I", Cond.methodLink RX0 59 yX0_put, Cond.static yX0_put, Cond.code yX0_put cX0_put 3 none, Cond.methodLink RL 129 yL_isRefused, Cond.static yL_isRefused, Cond.initialized RL, Cond.code yL_isRefused cL_isRefused 15 (some .boolean), Cond.constant RL 17 (-1100000001), Cond.constant RL 20 (-1100000002), Cond.methodLink RL 104 yL_all, Cond.static yL_all, Cond.code yL_all cL_all 5 (some .long), Cond.constantLong RL 88 (1000003), Cond.constantLong RL 90 (31), Cond.constantLong RL 92 (257), Cond.constantLong RL 94 (65537), Cond.methodLink RL 84 yX0_shifts, Cond.instanceMethod yX0_shifts, Cond.selects RX0 yX0_shifts yX0_shifts, Cond.code yX0_shifts cX0_shifts 1 (some .int), Cond.methodLink RL 57 yX0_payOf]
def wsL_law0_r3 : List Cond := [Cond.instanceMethod yX0_payOf, Cond.selects RX0 yX0_payOf yX0_payOf, Cond.code yX0_payOf cX0_payOf 2 (some .int), Cond.methodLink RX0 63 yX0_needOneOf, Cond.static yX0_needOneOf, Cond.code yX0_needOneOf cX0_needOneOf 2 none, Cond.classLink RX0 147 "java/lang/IndexOutOfBoundsException", Cond.initialized "java/lang/IndexOutOfBoundsException", Cond.methodLink RX0 97 yX0_shiftPay, Cond.instanceMethod yX0_shiftPay, Cond.selects RX0 yX0_shiftPay yX0_shiftPay, Cond.code yX0_shiftPay cX0_shiftPay 5 (some .int), Cond.methodLink RX0 91 yX0_overtimeHours, Cond.instanceMethod yX0_overtimeHours, Cond.selects RX0 yX0_overtimeHours yX0_overtimeHours, Cond.code yX0_overtimeHours cX0_overtimeHours 6 (some .int), Cond.methodLink RX0 133 Lib.Math.max.name, Cond.static Lib.Math.max.name, Cond.initialized "java/lang/Math", Cond.code Lib.Math.max.name Lib.Math.max.code 2 (some .int), Cond.methodLink RX0 138 Lib.Math.min.name, Cond.static Lib.Math.min.name, Cond.code Lib.Math.min.name Lib.Math.min.code 2 (some .int), Cond.methodLink RX0 122 yX0_fillAheadOnDay]
def wsL_law0_r4 : List Cond := [Cond.instanceMethod yX0_fillAheadOnDay, Cond.selects RX0 yX0_fillAheadOnDay yX0_fillAheadOnDay, Cond.code yX0_fillAheadOnDay cX0_fillAheadOnDay 9 none, Cond.methodLink RX0 79 yX0_at, Cond.static yX0_at, Cond.code yX0_at cX0_at 2 (some .int), Cond.methodLink RX0 100 yX0_weekOf, Cond.static yX0_weekOf, Cond.code yX0_weekOf cX0_weekOf 1 (some .int), Cond.methodLink RX0 87 yX0_isOfWorker, Cond.instanceMethod yX0_isOfWorker, Cond.selects RX0 yX0_isOfWorker yX0_isOfWorker, Cond.code yX0_isOfWorker cX0_isOfWorker 4 (some .boolean), Cond.methodLink RX0 126 yX0_plainOfDay, Cond.static yX0_plainOfDay, Cond.code yX0_plainOfDay cX0_plainOfDay 1 (some .int), Cond.methodLink RX0 129 yX0_plainByDayAhead, Cond.instanceMethod yX0_plainByDayAhead, Cond.selects RX0 yX0_plainByDayAhead yX0_plainByDayAhead, Cond.code yX0_plainByDayAhead cX0_plainByDayAhead 3 (some .int), Cond.methodLink RX0 112 yX0_rateThere, Cond.instanceMethod yX0_rateThere, Cond.selects RX0 yX0_rateThere yX0_rateThere, Cond.code yX0_rateThere cX0_rateThere 4 (some .int)]
def wsL_law0_r5 : List Cond := [Cond.methodLink RX0 94 yX0_isEqual, Cond.instanceMethod yX0_isEqual, Cond.selects RX0 yX0_isEqual yX0_isEqual, Cond.code yX0_isEqual cX0_isEqual 8 (some .boolean), Cond.methodLink RX0 141 yX0_weeksWorked, Cond.instanceMethod yX0_weeksWorked, Cond.selects RX0 yX0_weeksWorked yX0_weeksWorked, Cond.code yX0_weeksWorked cX0_weeksWorked 5 (some .int), Cond.methodLink RL 60 yX0_chargeOf, Cond.instanceMethod yX0_chargeOf, Cond.selects RX0 yX0_chargeOf yX0_chargeOf, Cond.code yX0_chargeOf cX0_chargeOf 3 (some .int), Cond.methodLink RX0 103 yX0_marginAt, Cond.instanceMethod yX0_marginAt, Cond.selects RX0 yX0_marginAt yX0_marginAt, Cond.code yX0_marginAt cX0_marginAt 4 (some .int), Cond.methodLink RX0 144 yX0_hoursAtSite, Cond.instanceMethod yX0_hoursAtSite, Cond.selects RX0 yX0_hoursAtSite yX0_hoursAtSite, Cond.code yX0_hoursAtSite cX0_hoursAtSite 5 (some .int), Cond.methodLink RX0 119 yX0_isAtSite, Cond.instanceMethod yX0_isAtSite, Cond.selects RX0 yX0_isAtSite yX0_isAtSite, Cond.code yX0_isAtSite cX0_isAtSite 4 (some .boolean)]
def wsL_law0_r6 : List Cond := [Cond.methodLink RX0 106 yX0_chargeFor, Cond.static yX0_chargeFor, Cond.code yX0_chargeFor cX0_chargeFor 2 (some .int), Cond.methodLink RL 81 yX0_holiday, Cond.instanceMethod yX0_holiday, Cond.selects RX0 yX0_holiday yX0_holiday, Cond.code yX0_holiday cX0_holiday 2 (some .int), Cond.methodLink RX0 83 yX0_minutesLeft, Cond.instanceMethod yX0_minutesLeft, Cond.selects RX0 yX0_minutesLeft yX0_minutesLeft, Cond.code yX0_minutesLeft cX0_minutesLeft 4 (some .int), Cond.methodLink RL 69 yX0_paid, Cond.instanceMethod yX0_paid, Cond.selects RX0 yX0_paid yX0_paid, Cond.code yX0_paid cX0_paid 3 (some .int), Cond.methodLink RL 75 yX0_owing, Cond.instanceMethod yX0_owing, Cond.selects RX0 yX0_owing yX0_owing, Cond.code yX0_owing cX0_owing 3 (some .int), Cond.methodLink RX0 109 yX0_weekPay, Cond.instanceMethod yX0_weekPay, Cond.selects RX0 yX0_weekPay yX0_weekPay, Cond.code yX0_weekPay cX0_weekPay 5 (some .int), Cond.methodLink RL 108 yL_setRates]
def wsL_law0_r7 : List Cond := [Cond.static yL_setRates, Cond.codeWith yL_setRates cL_setRates 5 (some .int) [(0, 8, 9, 15), (0, 8, 14, 18)], Cond.classLink RL 15 "java/lang/IndexOutOfBoundsException", Cond.classLink RL 18 "java/lang/IllegalArgumentException", Cond.methodLink RL 9 yX0_setRates, Cond.instanceMethod yX0_setRates, Cond.selects RX0 yX0_setRates yX0_setRates, Cond.code yX0_setRates cX0_setRates 4 none, Cond.methodLink RX0 67 yX0_needRange, Cond.static yX0_needRange, Cond.code yX0_needRange cX0_needRange 3 none, Cond.classLink RX0 154 "java/lang/IllegalArgumentException", Cond.initialized "java/lang/IllegalArgumentException", Cond.methodLink RL 111 yL_setMargins, Cond.static yL_setMargins, Cond.codeWith yL_setMargins cL_setMargins 6 (some .int) [(0, 10, 11, 15), (0, 10, 16, 18)], Cond.methodLink RL 21 yX0_setMargins, Cond.instanceMethod yX0_setMargins, Cond.selects RX0 yX0_setMargins yX0_setMargins, Cond.code yX0_setMargins cX0_setMargins 5 none, Cond.methodLink RL 114 yL_setEqual, Cond.static yL_setEqual, Cond.codeWith yL_setEqual cL_setEqual 4 (some .int) [(0, 7, 8, 18)], Cond.methodLink RL 25 yX0_setEqual]
def wsL_law0_r8 : List Cond := [Cond.instanceMethod yX0_setEqual, Cond.selects RX0 yX0_setEqual yX0_setEqual, Cond.code yX0_setEqual cX0_setEqual 3 none, Cond.methodLink RL 117 yL_act, Cond.static yL_act, Cond.codeWith yL_act cL_act 7 (some .int) [(0, 50, 51, 15), (0, 50, 56, 18), (0, 50, 61, 44)], Cond.classLink RL 44 "java/lang/IllegalStateException", Cond.methodLink RL 29 yX0_shift, Cond.instanceMethod yX0_shift, Cond.selects RX0 yX0_shift yX0_shift, Cond.code yX0_shift cX0_shift 6 (some .int), Cond.methodLink RX0 71 yX0_needState, Cond.static yX0_needState, Cond.code yX0_needState cX0_needState 1 none, Cond.classLink RX0 159 "java/lang/IllegalStateException", Cond.initialized "java/lang/IllegalStateException", Cond.methodLink RX0 75 yX0_hoursOnDay, Cond.instanceMethod yX0_hoursOnDay, Cond.selects RX0 yX0_hoursOnDay yX0_hoursOnDay, Cond.code yX0_hoursOnDay cX0_hoursOnDay 5 (some .int), Cond.methodLink RL 33 yX0_correct, Cond.instanceMethod yX0_correct, Cond.selects RX0 yX0_correct yX0_correct, Cond.code yX0_correct cX0_correct 6 (some .int)]
def wsL_law0_r9 : List Cond := [Cond.methodLink RL 37 yX0_run, Cond.instanceMethod yX0_run, Cond.selects RX0 yX0_run yX0_run, Cond.code yX0_run cX0_run 6 (some .int), Cond.methodLink RX0 116 yX0_weekCharge, Cond.instanceMethod yX0_weekCharge, Cond.selects RX0 yX0_weekCharge yX0_weekCharge, Cond.code yX0_weekCharge cX0_weekCharge 6 (some .int), Cond.methodLink RL 41 yX0_takeHoliday, Cond.instanceMethod yX0_takeHoliday, Cond.selects RX0 yX0_takeHoliday yX0_takeHoliday, Cond.code yX0_takeHoliday cX0_takeHoliday 4 (some .int), Cond.methodLink RL 121 yL_of, Cond.static yL_of, Cond.codeWith yL_of cL_of 6 (some .int) [(0, 170, 171, 15)], Cond.methodLink RL 47 yX0_hours, Cond.instanceMethod yX0_hours, Cond.selects RX0 yX0_hours yX0_hours, Cond.code yX0_hours cX0_hours 5 (some .int), Cond.methodLink RL 50 yX0_overtime, Cond.instanceMethod yX0_overtime, Cond.selects RX0 yX0_overtime yX0_overtime, Cond.code yX0_overtime cX0_overtime 2 (some .int), Cond.methodLink RL 53 yX0_hasEqual]
def wsL_law0_r10 : List Cond := [Cond.instanceMethod yX0_hasEqual, Cond.selects RX0 yX0_hasEqual yX0_hasEqual, Cond.code yX0_hasEqual cX0_hasEqual 4 (some .boolean), Cond.methodLink RL 63 yX0_pay, Cond.instanceMethod yX0_pay, Cond.selects RX0 yX0_pay yX0_pay, Cond.code yX0_pay cX0_pay 3 (some .int), Cond.methodLink RL 66 yX0_payByHours, Cond.instanceMethod yX0_payByHours, Cond.selects RX0 yX0_payByHours yX0_payByHours, Cond.code yX0_payByHours cX0_payByHours 13 (some .int), Cond.methodLink RL 72 yX0_billed, Cond.instanceMethod yX0_billed, Cond.selects RX0 yX0_billed yX0_billed, Cond.code yX0_billed cX0_billed 3 (some .int), Cond.methodLink RL 78 yX0_toBill, Cond.instanceMethod yX0_toBill, Cond.selects RX0 yX0_toBill yX0_toBill, Cond.code yX0_toBill cX0_toBill 3 (some .int), Cond.methodLink RL 133 yL_dice, Cond.static yL_dice, Cond.code yL_dice cL_dice 2 (some .int), Cond.constant RL 7 (2024104815), Cond.constant RL 8 (2147483647)]
def wsL_law0_r11 : List Cond := [Cond.methodLink RL 136 yL_isTold, Cond.static yL_isTold, Cond.code yL_isTold cL_isTold 9 (some .boolean), Cond.methodLink RL 124 yL_onDay, Cond.static yL_onDay, Cond.code yL_onDay cL_onDay 6 (some .int), Cond.methodLink RL 96 yL_day, Cond.static yL_day, Cond.code yL_day cL_day 2 (some .int), Cond.methodLink RL 102 yL_hours, Cond.static yL_hours, Cond.code yL_hours cL_hours 2 (some .int), Cond.methodLink RL 140 yL_isCorrected, Cond.static yL_isCorrected, Cond.code yL_isCorrected cL_isCorrected 10 (some .boolean), Cond.methodLink RL 144 yL_isRun, Cond.static yL_isRun, Cond.code yL_isRun cL_isRun 5 (some .boolean), Cond.methodLink RL 148 yL_areSums, Cond.static yL_areSums, Cond.code yL_areSums cL_areSums 11 (some .boolean), Cond.methodLink RL 151 yL_isOvertime, Cond.static yL_isOvertime, Cond.code yL_isOvertime cL_isOvertime 14 (some .boolean)]
def wsL_law0_r12 : List Cond := [Cond.methodLink RL 154 yL_isEqual, Cond.static yL_isEqual, Cond.code yL_isEqual cL_isEqual 12 (some .boolean), Cond.methodLink RL 158 yL_areShifts, Cond.static yL_areShifts, Cond.code yL_areShifts cL_areShifts 12 (some .boolean)]
def wsL_law0 : List Cond := (wsL_law0_r1 ++ (wsL_law0_r2 ++ (wsL_law0_r3 ++ (wsL_law0_r4 ++ (wsL_law0_r5 ++ (wsL_law0_r6 ++ (wsL_law0_r7 ++ (wsL_law0_r8 ++ (wsL_law0_r9 ++ (wsL_law0_r10 ++ (wsL_law0_r11 ++ wsL_law0_r12))))))))))) ++ wsX00 ++ ([] : List Cond)
def wsL_law : List Cond := wsL_law0 ++ (vx_atS RX0 151 "java/lang/IndexOutOfBoundsException" ["java/lang/RuntimeException", "java/lang/Exception"]).filter goodWord ++ (vx_atS RX0 158 "java/lang/IllegalArgumentException" ["java/lang/RuntimeException", "java/lang/Exception"]).filter goodWord ++ (vx_atS RX0 163 "java/lang/IllegalStateException" ["java/lang/RuntimeException", "java/lang/Exception"]).filter goodWord
theorem dJ9_max_7cf53_0 : decode cJ9_max_7cf53 0 = .ok (.iload_n 0, 1) := by decide +kernel
theorem dJ9_max_7cf53_1 : decode cJ9_max_7cf53 1 = .ok (.iload_n 1, 1) := by decide +kernel
theorem dJ9_max_7cf53_2 : decode cJ9_max_7cf53 2 = .ok (.if_icmp .lt 7, 3) := by decide +kernel
theorem dJ9_max_7cf53_5 : decode cJ9_max_7cf53 5 = .ok (.iload_n 0, 1) := by decide +kernel
theorem dJ9_max_7cf53_6 : decode cJ9_max_7cf53 6 = .ok (.goto 4, 3) := by decide +kernel
theorem dJ9_max_7cf53_9 : decode cJ9_max_7cf53 9 = .ok (.iload_n 1, 1) := by decide +kernel
theorem dJ9_max_7cf53_10 : decode cJ9_max_7cf53 10 = .ok (.ireturn, 1) := by decide +kernel
theorem dJ9_min_7cf53_0 : decode cJ9_min_7cf53 0 = .ok (.iload_n 0, 1) := by decide +kernel
theorem dJ9_min_7cf53_1 : decode cJ9_min_7cf53 1 = .ok (.iload_n 1, 1) := by decide +kernel
theorem dJ9_min_7cf53_2 : decode cJ9_min_7cf53 2 = .ok (.if_icmp .gt 7, 3) := by decide +kernel
theorem dJ9_min_7cf53_5 : decode cJ9_min_7cf53 5 = .ok (.iload_n 0, 1) := by decide +kernel
theorem dJ9_min_7cf53_6 : decode cJ9_min_7cf53 6 = .ok (.goto 4, 3) := by decide +kernel
theorem dJ9_min_7cf53_9 : decode cJ9_min_7cf53 9 = .ok (.iload_n 1, 1) := by decide +kernel
theorem dJ9_min_7cf53_10 : decode cJ9_min_7cf53 10 = .ok (.ireturn, 1) := by decide +kernel
abbrev vwCl : List vw_C := [(RX0, TX0, 16)]
end
section
set_option maxRecDepth 20000 in
theorem ggX0_init_X0_put : GoodIn wsX0_init wsX0_put := goodIn_r _ [24] (by decide +kernel) (by decide +kernel)
set_option maxRecDepth 20000 in
theorem gX0_init_X0_put : GoodIn wsX0_init (va_wsS RX0 59 yX0_put wsX0_put) := goodIn_app (goodIn_of _ (by decide +kernel)) ggX0_init_X0_put
theorem dX0_init_0 : decode cX0_init 0 = .ok (.aload_n 0, 1) := by decide +kernel
theorem dX0_init_1 : decode cX0_init 1 = .ok (.invokespecial 3, 3) := by decide +kernel
theorem dX0_init_4 : decode cX0_init 4 = .ok (.aload_n 0, 1) := by decide +kernel
theorem dX0_init_5 : decode cX0_init 5 = .ok (.iconst 4, 1) := by decide +kernel
theorem dX0_init_6 : decode cX0_init 6 = .ok (.newarray .int, 2) := by decide +kernel
theorem dX0_init_8 : decode cX0_init 8 = .ok (.putfield 9, 3) := by decide +kernel
theorem dX0_init_11 : decode cX0_init 11 = .ok (.aload_n 0, 1) := by decide +kernel
theorem dX0_init_12 : decode cX0_init 12 = .ok (.iconst 4, 1) := by decide +kernel
theorem dX0_init_13 : decode cX0_init 13 = .ok (.newarray .int, 2) := by decide +kernel
theorem dX0_init_15 : decode cX0_init 15 = .ok (.putfield 13, 3) := by decide +kernel
theorem dX0_init_18 : decode cX0_init 18 = .ok (.aload_n 0, 1) := by decide +kernel
theorem dX0_init_19 : decode cX0_init 19 = .ok (.iconst 4, 1) := by decide +kernel
theorem dX0_init_20 : decode cX0_init 20 = .ok (.newarray .int, 2) := by decide +kernel
theorem dX0_init_22 : decode cX0_init 22 = .ok (.putfield 16, 3) := by decide +kernel
theorem dX0_init_25 : decode cX0_init 25 = .ok (.aload_n 0, 1) := by decide +kernel
theorem dX0_init_26 : decode cX0_init 26 = .ok (.iconst 4, 1) := by decide +kernel
theorem dX0_init_27 : decode cX0_init 27 = .ok (.newarray .int, 2) := by decide +kernel
theorem dX0_init_29 : decode cX0_init 29 = .ok (.putfield 19, 3) := by decide +kernel
theorem dX0_init_32 : decode cX0_init 32 = .ok (.aload_n 0, 1) := by decide +kernel
theorem dX0_init_33 : decode cX0_init 33 = .ok (.iconst 4, 1) := by decide +kernel
theorem dX0_init_34 : decode cX0_init 34 = .ok (.newarray .int, 2) := by decide +kernel
theorem dX0_init_36 : decode cX0_init 36 = .ok (.putfield 22, 3) := by decide +kernel
theorem dX0_init_39 : decode cX0_init 39 = .ok (.aload_n 0, 1) := by decide +kernel
theorem dX0_init_40 : decode cX0_init 40 = .ok (.iconst 4, 1) := by decide +kernel
theorem dX0_init_41 : decode cX0_init 41 = .ok (.putfield 25, 3) := by decide +kernel
theorem dX0_init_44 : decode cX0_init 44 = .ok (.aload_n 0, 1) := by decide +kernel
theorem dX0_init_45 : decode cX0_init 45 = .ok (.iconst 2, 1) := by decide +kernel
theorem dX0_init_46 : decode cX0_init 46 = .ok (.putfield 29, 3) := by decide +kernel
theorem dX0_init_49 : decode cX0_init 49 = .ok (.aload_n 0, 1) := by decide +kernel
theorem dX0_init_50 : decode cX0_init 50 = .ok (.iconst 0, 1) := by decide +kernel
theorem dX0_init_51 : decode cX0_init 51 = .ok (.putfield 32, 3) := by decide +kernel
theorem dX0_init_54 : decode cX0_init 54 = .ok (.aload_n 0, 1) := by decide +kernel
theorem dX0_init_55 : decode cX0_init 55 = .ok (.bipush 80, 2) := by decide +kernel
theorem dX0_init_57 : decode cX0_init 57 = .ok (.newarray .int, 2) := by decide +kernel
theorem dX0_init_59 : decode cX0_init 59 = .ok (.putfield 35, 3) := by decide +kernel
theorem dX0_init_62 : decode cX0_init 62 = .ok (.aload_n 0, 1) := by decide +kernel
theorem dX0_init_63 : decode cX0_init 63 = .ok (.bipush 80, 2) := by decide +kernel
theorem dX0_init_65 : decode cX0_init 65 = .ok (.newarray .int, 2) := by decide +kernel
theorem dX0_init_67 : decode cX0_init 67 = .ok (.putfield 38, 3) := by decide +kernel
theorem dX0_init_70 : decode cX0_init 70 = .ok (.aload_n 0, 1) := by decide +kernel
theorem dX0_init_71 : decode cX0_init 71 = .ok (.bipush 80, 2) := by decide +kernel
theorem dX0_init_73 : decode cX0_init 73 = .ok (.newarray .int, 2) := by decide +kernel
theorem dX0_init_75 : decode cX0_init 75 = .ok (.putfield 41, 3) := by decide +kernel
theorem dX0_init_78 : decode cX0_init 78 = .ok (.aload_n 0, 1) := by decide +kernel
theorem dX0_init_79 : decode cX0_init 79 = .ok (.bipush 80, 2) := by decide +kernel
theorem dX0_init_81 : decode cX0_init 81 = .ok (.newarray .int, 2) := by decide +kernel
theorem dX0_init_83 : decode cX0_init 83 = .ok (.putfield 44, 3) := by decide +kernel
theorem dX0_init_86 : decode cX0_init 86 = .ok (.aload_n 0, 1) := by decide +kernel
theorem dX0_init_87 : decode cX0_init 87 = .ok (.bipush 120, 2) := by decide +kernel
theorem dX0_init_89 : decode cX0_init 89 = .ok (.newarray .int, 2) := by decide +kernel
theorem dX0_init_91 : decode cX0_init 91 = .ok (.putfield 47, 3) := by decide +kernel
theorem dX0_init_94 : decode cX0_init 94 = .ok (.aload_n 0, 1) := by decide +kernel
theorem dX0_init_95 : decode cX0_init 95 = .ok (.bipush 80, 2) := by decide +kernel
theorem dX0_init_97 : decode cX0_init 97 = .ok (.newarray .int, 2) := by decide +kernel
theorem dX0_init_99 : decode cX0_init 99 = .ok (.putfield 50, 3) := by decide +kernel
theorem dX0_init_102 : decode cX0_init 102 = .ok (.aload_n 0, 1) := by decide +kernel
theorem dX0_init_103 : decode cX0_init 103 = .ok (.bipush 6, 2) := by decide +kernel
theorem dX0_init_105 : decode cX0_init 105 = .ok (.newarray .int, 2) := by decide +kernel
theorem dX0_init_107 : decode cX0_init 107 = .ok (.putfield 53, 3) := by decide +kernel
theorem dX0_init_110 : decode cX0_init 110 = .ok (.aload_n 0, 1) := by decide +kernel
theorem dX0_init_111 : decode cX0_init 111 = .ok (.bipush 7, 2) := by decide +kernel
theorem dX0_init_113 : decode cX0_init 113 = .ok (.newarray .int, 2) := by decide +kernel
theorem dX0_init_115 : decode cX0_init 115 = .ok (.putfield 56, 3) := by decide +kernel
theorem dX0_init_118 : decode cX0_init 118 = .ok (.iconst 0, 1) := by decide +kernel
theorem dX0_init_119 : decode cX0_init 119 = .ok (.istore_n 1, 1) := by decide +kernel
theorem dX0_init_120 : decode cX0_init 120 = .ok (.iload_n 1, 1) := by decide +kernel
theorem dX0_init_121 : decode cX0_init 121 = .ok (.iconst 4, 1) := by decide +kernel
theorem dX0_init_122 : decode cX0_init 122 = .ok (.if_icmp .ge 61, 3) := by decide +kernel
theorem dX0_init_125 : decode cX0_init 125 = .ok (.aload_n 0, 1) := by decide +kernel
theorem dX0_init_126 : decode cX0_init 126 = .ok (.getfield 9, 3) := by decide +kernel
theorem dX0_init_129 : decode cX0_init 129 = .ok (.iload_n 1, 1) := by decide +kernel
theorem dX0_init_130 : decode cX0_init 130 = .ok (.sipush 1000, 3) := by decide +kernel
theorem dX0_init_133 : decode cX0_init 133 = .ok (.invokestatic 59, 3) := by decide +kernel
theorem dX0_init_136 : decode cX0_init 136 = .ok (.aload_n 0, 1) := by decide +kernel
theorem dX0_init_137 : decode cX0_init 137 = .ok (.getfield 13, 3) := by decide +kernel
theorem dX0_init_140 : decode cX0_init 140 = .ok (.iload_n 1, 1) := by decide +kernel
theorem dX0_init_141 : decode cX0_init 141 = .ok (.sipush 1200, 3) := by decide +kernel
theorem dX0_init_144 : decode cX0_init 144 = .ok (.invokestatic 59, 3) := by decide +kernel
theorem dX0_init_147 : decode cX0_init 147 = .ok (.aload_n 0, 1) := by decide +kernel
theorem dX0_init_148 : decode cX0_init 148 = .ok (.getfield 16, 3) := by decide +kernel
theorem dX0_init_151 : decode cX0_init 151 = .ok (.iload_n 1, 1) := by decide +kernel
theorem dX0_init_152 : decode cX0_init 152 = .ok (.bipush 20, 2) := by decide +kernel
theorem dX0_init_154 : decode cX0_init 154 = .ok (.invokestatic 59, 3) := by decide +kernel
theorem dX0_init_157 : decode cX0_init 157 = .ok (.aload_n 0, 1) := by decide +kernel
theorem dX0_init_158 : decode cX0_init 158 = .ok (.getfield 19, 3) := by decide +kernel
theorem dX0_init_161 : decode cX0_init 161 = .ok (.iload_n 1, 1) := by decide +kernel
theorem dX0_init_162 : decode cX0_init 162 = .ok (.bipush 10, 2) := by decide +kernel
theorem dX0_init_164 : decode cX0_init 164 = .ok (.invokestatic 59, 3) := by decide +kernel
theorem dX0_init_167 : decode cX0_init 167 = .ok (.aload_n 0, 1) := by decide +kernel
theorem dX0_init_168 : decode cX0_init 168 = .ok (.getfield 22, 3) := by decide +kernel
theorem dX0_init_171 : decode cX0_init 171 = .ok (.iload_n 1, 1) := by decide +kernel
theorem dX0_init_172 : decode cX0_init 172 = .ok (.bipush 100, 2) := by decide +kernel
theorem dX0_init_174 : decode cX0_init 174 = .ok (.invokestatic 59, 3) := by decide +kernel
theorem dX0_init_177 : decode cX0_init 177 = .ok (.iinc 1 1, 3) := by decide +kernel
theorem dX0_init_180 : decode cX0_init 180 = .ok (.goto (-60), 3) := by decide +kernel
theorem dX0_init_183 : decode cX0_init 183 = .ok (.return_, 1) := by decide +kernel
set_option maxRecDepth 20000 in
theorem ggX0_setRates_X0_needOneOf : GoodIn wsX0_setRates wsX0_needOneOf := goodIn_ca (goodIn_r _ [6, 7, 8] (by decide +kernel) (by decide +kernel)) (goodIn_sub (fun _ h => List.mem_cons_of_mem _ (List.mem_append_left _ (List.mem_append_right _ h))) (by decide +kernel))
set_option maxRecDepth 20000 in
theorem gX0_setRates_X0_needOneOf : GoodIn wsX0_setRates (va_wsS RX0 63 yX0_needOneOf wsX0_needOneOf) := goodIn_app (goodIn_of _ (by decide +kernel)) ggX0_setRates_X0_needOneOf
set_option maxRecDepth 20000 in
theorem ggX0_setRates_X0_needRange : GoodIn wsX0_setRates wsX0_needRange := goodIn_ca (goodIn_r _ [11, 12, 13] (by decide +kernel) (by decide +kernel)) (goodIn_sub (fun _ h => List.mem_cons_of_mem _ (List.mem_append_right _ h)) (by decide +kernel))
set_option maxRecDepth 20000 in
theorem gX0_setRates_X0_needRange : GoodIn wsX0_setRates (va_wsS RX0 67 yX0_needRange wsX0_needRange) := goodIn_app (goodIn_of _ (by decide +kernel)) ggX0_setRates_X0_needRange
set_option maxRecDepth 20000 in
theorem ggX0_setRates_X0_put : GoodIn wsX0_setRates wsX0_put := goodIn_r _ [16] (by decide +kernel) (by decide +kernel)
set_option maxRecDepth 20000 in
theorem gX0_setRates_X0_put : GoodIn wsX0_setRates (va_wsS RX0 59 yX0_put wsX0_put) := goodIn_app (goodIn_of _ (by decide +kernel)) ggX0_setRates_X0_put
theorem dX0_setRates_0 : decode cX0_setRates 0 = .ok (.iload_n 1, 1) := by decide +kernel
theorem dX0_setRates_1 : decode cX0_setRates 1 = .ok (.iconst 4, 1) := by decide +kernel
theorem dX0_setRates_2 : decode cX0_setRates 2 = .ok (.invokestatic 63, 3) := by decide +kernel
theorem dX0_setRates_5 : decode cX0_setRates 5 = .ok (.iload_n 2, 1) := by decide +kernel
theorem dX0_setRates_6 : decode cX0_setRates 6 = .ok (.iconst 1, 1) := by decide +kernel
theorem dX0_setRates_7 : decode cX0_setRates 7 = .ok (.sipush 10000, 3) := by decide +kernel
theorem dX0_setRates_10 : decode cX0_setRates 10 = .ok (.invokestatic 67, 3) := by decide +kernel
theorem dX0_setRates_13 : decode cX0_setRates 13 = .ok (.iload_n 3, 1) := by decide +kernel
theorem dX0_setRates_14 : decode cX0_setRates 14 = .ok (.iload_n 2, 1) := by decide +kernel
theorem dX0_setRates_15 : decode cX0_setRates 15 = .ok (.sipush 10000, 3) := by decide +kernel
theorem dX0_setRates_18 : decode cX0_setRates 18 = .ok (.invokestatic 67, 3) := by decide +kernel
theorem dX0_setRates_21 : decode cX0_setRates 21 = .ok (.aload_n 0, 1) := by decide +kernel
theorem dX0_setRates_22 : decode cX0_setRates 22 = .ok (.getfield 9, 3) := by decide +kernel
theorem dX0_setRates_25 : decode cX0_setRates 25 = .ok (.iload_n 1, 1) := by decide +kernel
theorem dX0_setRates_26 : decode cX0_setRates 26 = .ok (.iload_n 2, 1) := by decide +kernel
theorem dX0_setRates_27 : decode cX0_setRates 27 = .ok (.invokestatic 59, 3) := by decide +kernel
theorem dX0_setRates_30 : decode cX0_setRates 30 = .ok (.aload_n 0, 1) := by decide +kernel
theorem dX0_setRates_31 : decode cX0_setRates 31 = .ok (.getfield 13, 3) := by decide +kernel
theorem dX0_setRates_34 : decode cX0_setRates 34 = .ok (.iload_n 1, 1) := by decide +kernel
theorem dX0_setRates_35 : decode cX0_setRates 35 = .ok (.iload_n 3, 1) := by decide +kernel
theorem dX0_setRates_36 : decode cX0_setRates 36 = .ok (.invokestatic 59, 3) := by decide +kernel
theorem dX0_setRates_39 : decode cX0_setRates 39 = .ok (.return_, 1) := by decide +kernel
set_option maxRecDepth 20000 in
theorem ggX0_setMargins_X0_needOneOf : GoodIn wsX0_setMargins wsX0_needOneOf := goodIn_ca (goodIn_r _ [7, 8, 9] (by decide +kernel) (by decide +kernel)) (goodIn_sub (fun _ h => List.mem_cons_of_mem _ (List.mem_append_left _ (List.mem_append_right _ h))) (by decide +kernel))
set_option maxRecDepth 20000 in
theorem gX0_setMargins_X0_needOneOf : GoodIn wsX0_setMargins (va_wsS RX0 63 yX0_needOneOf wsX0_needOneOf) := goodIn_app (goodIn_of _ (by decide +kernel)) ggX0_setMargins_X0_needOneOf
set_option maxRecDepth 20000 in
theorem ggX0_setMargins_X0_needRange : GoodIn wsX0_setMargins wsX0_needRange := goodIn_ca (goodIn_r _ [12, 13, 14] (by decide +kernel) (by decide +kernel)) (goodIn_sub (fun _ h => List.mem_cons_of_mem _ (List.mem_append_right _ h)) (by decide +kernel))
set_option maxRecDepth 20000 in
theorem gX0_setMargins_X0_needRange : GoodIn wsX0_setMargins (va_wsS RX0 67 yX0_needRange wsX0_needRange) := goodIn_app (goodIn_of _ (by decide +kernel)) ggX0_setMargins_X0_needRange
set_option maxRecDepth 20000 in
theorem ggX0_setMargins_X0_put : GoodIn wsX0_setMargins wsX0_put := goodIn_r _ [17] (by decide +kernel) (by decide +kernel)
set_option maxRecDepth 20000 in
theorem gX0_setMargins_X0_put : GoodIn wsX0_setMargins (va_wsS RX0 59 yX0_put wsX0_put) := goodIn_app (goodIn_of _ (by decide +kernel)) ggX0_setMargins_X0_put
theorem dX0_setMargins_0 : decode cX0_setMargins 0 = .ok (.iload_n 1, 1) := by decide +kernel
theorem dX0_setMargins_1 : decode cX0_setMargins 1 = .ok (.iconst 4, 1) := by decide +kernel
theorem dX0_setMargins_2 : decode cX0_setMargins 2 = .ok (.invokestatic 63, 3) := by decide +kernel
theorem dX0_setMargins_5 : decode cX0_setMargins 5 = .ok (.iload_n 2, 1) := by decide +kernel
theorem dX0_setMargins_6 : decode cX0_setMargins 6 = .ok (.iconst 0, 1) := by decide +kernel
theorem dX0_setMargins_7 : decode cX0_setMargins 7 = .ok (.bipush 100, 2) := by decide +kernel
theorem dX0_setMargins_9 : decode cX0_setMargins 9 = .ok (.invokestatic 67, 3) := by decide +kernel
theorem dX0_setMargins_12 : decode cX0_setMargins 12 = .ok (.iload_n 3, 1) := by decide +kernel
theorem dX0_setMargins_13 : decode cX0_setMargins 13 = .ok (.iconst 0, 1) := by decide +kernel
theorem dX0_setMargins_14 : decode cX0_setMargins 14 = .ok (.iload_n 2, 1) := by decide +kernel
theorem dX0_setMargins_15 : decode cX0_setMargins 15 = .ok (.invokestatic 67, 3) := by decide +kernel
theorem dX0_setMargins_18 : decode cX0_setMargins 18 = .ok (.iload 4, 2) := by decide +kernel
theorem dX0_setMargins_20 : decode cX0_setMargins 20 = .ok (.iconst 1, 1) := by decide +kernel
theorem dX0_setMargins_21 : decode cX0_setMargins 21 = .ok (.sipush 1000, 3) := by decide +kernel
theorem dX0_setMargins_24 : decode cX0_setMargins 24 = .ok (.invokestatic 67, 3) := by decide +kernel
theorem dX0_setMargins_27 : decode cX0_setMargins 27 = .ok (.aload_n 0, 1) := by decide +kernel
theorem dX0_setMargins_28 : decode cX0_setMargins 28 = .ok (.getfield 16, 3) := by decide +kernel
theorem dX0_setMargins_31 : decode cX0_setMargins 31 = .ok (.iload_n 1, 1) := by decide +kernel
theorem dX0_setMargins_32 : decode cX0_setMargins 32 = .ok (.iload_n 2, 1) := by decide +kernel
theorem dX0_setMargins_33 : decode cX0_setMargins 33 = .ok (.invokestatic 59, 3) := by decide +kernel
theorem dX0_setMargins_36 : decode cX0_setMargins 36 = .ok (.aload_n 0, 1) := by decide +kernel
theorem dX0_setMargins_37 : decode cX0_setMargins 37 = .ok (.getfield 19, 3) := by decide +kernel
theorem dX0_setMargins_40 : decode cX0_setMargins 40 = .ok (.iload_n 1, 1) := by decide +kernel
theorem dX0_setMargins_41 : decode cX0_setMargins 41 = .ok (.iload_n 3, 1) := by decide +kernel
theorem dX0_setMargins_42 : decode cX0_setMargins 42 = .ok (.invokestatic 59, 3) := by decide +kernel
theorem dX0_setMargins_45 : decode cX0_setMargins 45 = .ok (.aload_n 0, 1) := by decide +kernel
theorem dX0_setMargins_46 : decode cX0_setMargins 46 = .ok (.getfield 22, 3) := by decide +kernel
theorem dX0_setMargins_49 : decode cX0_setMargins 49 = .ok (.iload_n 1, 1) := by decide +kernel
theorem dX0_setMargins_50 : decode cX0_setMargins 50 = .ok (.iload 4, 2) := by decide +kernel
theorem dX0_setMargins_52 : decode cX0_setMargins 52 = .ok (.invokestatic 59, 3) := by decide +kernel
theorem dX0_setMargins_55 : decode cX0_setMargins 55 = .ok (.return_, 1) := by decide +kernel
set_option maxRecDepth 20000 in
theorem ggX0_setEqual_X0_needRange : GoodIn wsX0_setEqual wsX0_needRange := goodIn_ca (goodIn_r _ [6, 7, 8] (by decide +kernel) (by decide +kernel)) (goodIn_sub (fun _ h => List.mem_cons_of_mem _ (List.mem_append_right _ h)) (by decide +kernel))
set_option maxRecDepth 20000 in
theorem gX0_setEqual_X0_needRange : GoodIn wsX0_setEqual (va_wsS RX0 67 yX0_needRange wsX0_needRange) := goodIn_app (goodIn_of _ (by decide +kernel)) ggX0_setEqual_X0_needRange
theorem dX0_setEqual_0 : decode cX0_setEqual 0 = .ok (.iload_n 1, 1) := by decide +kernel
theorem dX0_setEqual_1 : decode cX0_setEqual 1 = .ok (.iconst 1, 1) := by decide +kernel
theorem dX0_setEqual_2 : decode cX0_setEqual 2 = .ok (.bipush 12, 2) := by decide +kernel
theorem dX0_setEqual_4 : decode cX0_setEqual 4 = .ok (.invokestatic 67, 3) := by decide +kernel
theorem dX0_setEqual_7 : decode cX0_setEqual 7 = .ok (.iload_n 2, 1) := by decide +kernel
theorem dX0_setEqual_8 : decode cX0_setEqual 8 = .ok (.iconst 0, 1) := by decide +kernel
theorem dX0_setEqual_9 : decode cX0_setEqual 9 = .ok (.bipush 6, 2) := by decide +kernel
theorem dX0_setEqual_11 : decode cX0_setEqual 11 = .ok (.invokestatic 67, 3) := by decide +kernel
theorem dX0_setEqual_14 : decode cX0_setEqual 14 = .ok (.aload_n 0, 1) := by decide +kernel
theorem dX0_setEqual_15 : decode cX0_setEqual 15 = .ok (.iload_n 1, 1) := by decide +kernel
theorem dX0_setEqual_16 : decode cX0_setEqual 16 = .ok (.putfield 25, 3) := by decide +kernel
theorem dX0_setEqual_19 : decode cX0_setEqual 19 = .ok (.aload_n 0, 1) := by decide +kernel
theorem dX0_setEqual_20 : decode cX0_setEqual 20 = .ok (.iload_n 2, 1) := by decide +kernel
theorem dX0_setEqual_21 : decode cX0_setEqual 21 = .ok (.putfield 29, 3) := by decide +kernel
theorem dX0_setEqual_24 : decode cX0_setEqual 24 = .ok (.return_, 1) := by decide +kernel
set_option maxRecDepth 20000 in
theorem ggX0_shift_X0_needOneOf : GoodIn wsX0_shift wsX0_needOneOf := goodIn_ca (goodIn_r _ [9, 10, 11] (by decide +kernel) (by decide +kernel)) (goodIn_sub (fun _ h => List.mem_cons_of_mem _ (List.mem_append_left _ (List.mem_append_left _ (List.mem_append_right _ h)))) (by decide +kernel))
set_option maxRecDepth 20000 in
theorem gX0_shift_X0_needOneOf : GoodIn wsX0_shift (va_wsS RX0 63 yX0_needOneOf wsX0_needOneOf) := goodIn_app (goodIn_of _ (by decide +kernel)) ggX0_shift_X0_needOneOf
set_option maxRecDepth 20000 in
theorem ggX0_shift_X0_needRange : GoodIn wsX0_shift wsX0_needRange := goodIn_ca (goodIn_r _ [14, 15, 16] (by decide +kernel) (by decide +kernel)) (goodIn_sub (fun _ h => List.mem_cons_of_mem _ (List.mem_append_left _ (List.mem_append_right _ h))) (by decide +kernel))
set_option maxRecDepth 20000 in
theorem gX0_shift_X0_needRange : GoodIn wsX0_shift (va_wsS RX0 67 yX0_needRange wsX0_needRange) := goodIn_app (goodIn_of _ (by decide +kernel)) ggX0_shift_X0_needRange
set_option maxRecDepth 20000 in
theorem ggX0_shift_X0_needState : GoodIn wsX0_shift wsX0_needState := goodIn_ca (goodIn_r _ [19, 20, 21] (by decide +kernel) (by decide +kernel)) (goodIn_sub (fun _ h => List.mem_cons_of_mem _ (List.mem_append_right _ h)) (by decide +kernel))
set_option maxRecDepth 20000 in
theorem gX0_shift_X0_needState : GoodIn wsX0_shift (va_wsS RX0 71 yX0_needState wsX0_needState) := goodIn_app (goodIn_of _ (by decide +kernel)) ggX0_shift_X0_needState
set_option maxRecDepth 20000 in
theorem ggX0_shift_X0_hoursOnDay : GoodIn wsX0_shift wsX0_hoursOnDay := goodIn_r _ [25, 1, 2, 4, 5, 26, 27, 8, 28, 32, 33, 34, 35, 36, 37, 38, 39, 40, 41, 42, 43, 44, 45, 46, 47] (by decide +kernel) (by decide +kernel)
set_option maxRecDepth 20000 in
theorem gX0_shift_X0_hoursOnDay : GoodIn wsX0_shift (wsV RX0 75 RX0 yX0_hoursOnDay wsX0_hoursOnDay) := goodIn_app (goodIn_of _ (by decide +kernel)) ggX0_shift_X0_hoursOnDay
set_option maxRecDepth 20000 in
theorem ggX0_shift_X0_put : GoodIn wsX0_shift wsX0_put := goodIn_r _ [31] (by decide +kernel) (by decide +kernel)
set_option maxRecDepth 20000 in
theorem gX0_shift_X0_put : GoodIn wsX0_shift (va_wsS RX0 59 yX0_put wsX0_put) := goodIn_app (goodIn_of _ (by decide +kernel)) ggX0_shift_X0_put
theorem dX0_shift_0 : decode cX0_shift 0 = .ok (.iload_n 1, 1) := by decide +kernel
theorem dX0_shift_1 : decode cX0_shift 1 = .ok (.bipush 6, 2) := by decide +kernel
theorem dX0_shift_3 : decode cX0_shift 3 = .ok (.invokestatic 63, 3) := by decide +kernel
theorem dX0_shift_6 : decode cX0_shift 6 = .ok (.iload_n 2, 1) := by decide +kernel
theorem dX0_shift_7 : decode cX0_shift 7 = .ok (.iconst 4, 1) := by decide +kernel
theorem dX0_shift_8 : decode cX0_shift 8 = .ok (.invokestatic 63, 3) := by decide +kernel
theorem dX0_shift_11 : decode cX0_shift 11 = .ok (.iload_n 3, 1) := by decide +kernel
theorem dX0_shift_12 : decode cX0_shift 12 = .ok (.iconst 0, 1) := by decide +kernel
theorem dX0_shift_13 : decode cX0_shift 13 = .ok (.sipush 139, 3) := by decide +kernel
theorem dX0_shift_16 : decode cX0_shift 16 = .ok (.invokestatic 67, 3) := by decide +kernel
theorem dX0_shift_19 : decode cX0_shift 19 = .ok (.iload 4, 2) := by decide +kernel
theorem dX0_shift_21 : decode cX0_shift 21 = .ok (.iconst 1, 1) := by decide +kernel
theorem dX0_shift_22 : decode cX0_shift 22 = .ok (.bipush 16, 2) := by decide +kernel
theorem dX0_shift_24 : decode cX0_shift 24 = .ok (.invokestatic 67, 3) := by decide +kernel
theorem dX0_shift_27 : decode cX0_shift 27 = .ok (.aload_n 0, 1) := by decide +kernel
theorem dX0_shift_28 : decode cX0_shift 28 = .ok (.getfield 32, 3) := by decide +kernel
theorem dX0_shift_31 : decode cX0_shift 31 = .ok (.bipush 80, 2) := by decide +kernel
theorem dX0_shift_33 : decode cX0_shift 33 = .ok (.if_icmp .ge 7, 3) := by decide +kernel
theorem dX0_shift_36 : decode cX0_shift 36 = .ok (.iconst 1, 1) := by decide +kernel
theorem dX0_shift_37 : decode cX0_shift 37 = .ok (.goto 4, 3) := by decide +kernel
theorem dX0_shift_40 : decode cX0_shift 40 = .ok (.iconst 0, 1) := by decide +kernel
theorem dX0_shift_41 : decode cX0_shift 41 = .ok (.invokestatic 71, 3) := by decide +kernel
theorem dX0_shift_44 : decode cX0_shift 44 = .ok (.aload_n 0, 1) := by decide +kernel
theorem dX0_shift_45 : decode cX0_shift 45 = .ok (.iload_n 1, 1) := by decide +kernel
theorem dX0_shift_46 : decode cX0_shift 46 = .ok (.iload_n 3, 1) := by decide +kernel
theorem dX0_shift_47 : decode cX0_shift 47 = .ok (.invokevirtual 75, 3) := by decide +kernel
theorem dX0_shift_50 : decode cX0_shift 50 = .ok (.iload 4, 2) := by decide +kernel
theorem dX0_shift_52 : decode cX0_shift 52 = .ok (.iadd, 1) := by decide +kernel
theorem dX0_shift_53 : decode cX0_shift 53 = .ok (.bipush 24, 2) := by decide +kernel
theorem dX0_shift_55 : decode cX0_shift 55 = .ok (.if_icmp .gt 7, 3) := by decide +kernel
theorem dX0_shift_58 : decode cX0_shift 58 = .ok (.iconst 1, 1) := by decide +kernel
theorem dX0_shift_59 : decode cX0_shift 59 = .ok (.goto 4, 3) := by decide +kernel
theorem dX0_shift_62 : decode cX0_shift 62 = .ok (.iconst 0, 1) := by decide +kernel
theorem dX0_shift_63 : decode cX0_shift 63 = .ok (.invokestatic 71, 3) := by decide +kernel
theorem dX0_shift_66 : decode cX0_shift 66 = .ok (.aload_n 0, 1) := by decide +kernel
theorem dX0_shift_67 : decode cX0_shift 67 = .ok (.getfield 32, 3) := by decide +kernel
theorem dX0_shift_70 : decode cX0_shift 70 = .ok (.istore 5, 2) := by decide +kernel
theorem dX0_shift_72 : decode cX0_shift 72 = .ok (.aload_n 0, 1) := by decide +kernel
theorem dX0_shift_73 : decode cX0_shift 73 = .ok (.getfield 35, 3) := by decide +kernel
theorem dX0_shift_76 : decode cX0_shift 76 = .ok (.iload 5, 2) := by decide +kernel
theorem dX0_shift_78 : decode cX0_shift 78 = .ok (.iload_n 1, 1) := by decide +kernel
theorem dX0_shift_79 : decode cX0_shift 79 = .ok (.invokestatic 59, 3) := by decide +kernel
theorem dX0_shift_82 : decode cX0_shift 82 = .ok (.aload_n 0, 1) := by decide +kernel
theorem dX0_shift_83 : decode cX0_shift 83 = .ok (.getfield 38, 3) := by decide +kernel
theorem dX0_shift_86 : decode cX0_shift 86 = .ok (.iload 5, 2) := by decide +kernel
theorem dX0_shift_88 : decode cX0_shift 88 = .ok (.iload_n 2, 1) := by decide +kernel
theorem dX0_shift_89 : decode cX0_shift 89 = .ok (.invokestatic 59, 3) := by decide +kernel
theorem dX0_shift_92 : decode cX0_shift 92 = .ok (.aload_n 0, 1) := by decide +kernel
theorem dX0_shift_93 : decode cX0_shift 93 = .ok (.getfield 41, 3) := by decide +kernel
theorem dX0_shift_96 : decode cX0_shift 96 = .ok (.iload 5, 2) := by decide +kernel
theorem dX0_shift_98 : decode cX0_shift 98 = .ok (.iload_n 3, 1) := by decide +kernel
theorem dX0_shift_99 : decode cX0_shift 99 = .ok (.invokestatic 59, 3) := by decide +kernel
theorem dX0_shift_102 : decode cX0_shift 102 = .ok (.aload_n 0, 1) := by decide +kernel
theorem dX0_shift_103 : decode cX0_shift 103 = .ok (.getfield 44, 3) := by decide +kernel
theorem dX0_shift_106 : decode cX0_shift 106 = .ok (.iload 5, 2) := by decide +kernel
theorem dX0_shift_108 : decode cX0_shift 108 = .ok (.iload 4, 2) := by decide +kernel
theorem dX0_shift_110 : decode cX0_shift 110 = .ok (.invokestatic 59, 3) := by decide +kernel
theorem dX0_shift_113 : decode cX0_shift 113 = .ok (.aload_n 0, 1) := by decide +kernel
theorem dX0_shift_114 : decode cX0_shift 114 = .ok (.iload 5, 2) := by decide +kernel
theorem dX0_shift_116 : decode cX0_shift 116 = .ok (.iconst 1, 1) := by decide +kernel
theorem dX0_shift_117 : decode cX0_shift 117 = .ok (.iadd, 1) := by decide +kernel
theorem dX0_shift_118 : decode cX0_shift 118 = .ok (.putfield 32, 3) := by decide +kernel
theorem dX0_shift_121 : decode cX0_shift 121 = .ok (.iload 5, 2) := by decide +kernel
theorem dX0_shift_123 : decode cX0_shift 123 = .ok (.ireturn, 1) := by decide +kernel
set_option maxRecDepth 20000 in
theorem ggX0_correct_X0_needOneOf : GoodIn wsX0_correct wsX0_needOneOf := goodIn_ca (goodIn_r _ [8, 9, 10] (by decide +kernel) (by decide +kernel)) (goodIn_sub (fun _ h => List.mem_cons_of_mem _ (List.mem_append_left _ (List.mem_append_left _ (List.mem_append_right _ h)))) (by decide +kernel))
set_option maxRecDepth 20000 in
theorem gX0_correct_X0_needOneOf : GoodIn wsX0_correct (va_wsS RX0 63 yX0_needOneOf wsX0_needOneOf) := goodIn_app (goodIn_of _ (by decide +kernel)) ggX0_correct_X0_needOneOf
set_option maxRecDepth 20000 in
theorem ggX0_correct_X0_needRange : GoodIn wsX0_correct wsX0_needRange := goodIn_ca (goodIn_r _ [13, 14, 15] (by decide +kernel) (by decide +kernel)) (goodIn_sub (fun _ h => List.mem_cons_of_mem _ (List.mem_append_left _ (List.mem_append_right _ h))) (by decide +kernel))
set_option maxRecDepth 20000 in
theorem gX0_correct_X0_needRange : GoodIn wsX0_correct (va_wsS RX0 67 yX0_needRange wsX0_needRange) := goodIn_app (goodIn_of _ (by decide +kernel)) ggX0_correct_X0_needRange
set_option maxRecDepth 20000 in
theorem ggX0_correct_X0_at : GoodIn wsX0_correct wsX0_at := goodIn_r _ [18] (by decide +kernel) (by decide +kernel)
set_option maxRecDepth 20000 in
theorem gX0_correct_X0_at : GoodIn wsX0_correct (va_wsS RX0 79 yX0_at wsX0_at) := goodIn_app (goodIn_of _ (by decide +kernel)) ggX0_correct_X0_at
set_option maxRecDepth 20000 in
theorem ggX0_correct_X0_hoursOnDay : GoodIn wsX0_correct wsX0_hoursOnDay := goodIn_r _ [22, 1, 2, 4, 3, 16, 17, 7, 18, 36, 37, 38, 39, 40, 41, 42, 43, 44, 45, 46, 47, 48, 49, 50, 51] (by decide +kernel) (by decide +kernel)
set_option maxRecDepth 20000 in
theorem gX0_correct_X0_hoursOnDay : GoodIn wsX0_correct (wsV RX0 75 RX0 yX0_hoursOnDay wsX0_hoursOnDay) := goodIn_app (goodIn_of _ (by decide +kernel)) ggX0_correct_X0_hoursOnDay
set_option maxRecDepth 20000 in
theorem ggX0_correct_X0_needState : GoodIn wsX0_correct wsX0_needState := goodIn_ca (goodIn_r _ [25, 26, 27] (by decide +kernel) (by decide +kernel)) (goodIn_sub (fun _ h => List.mem_cons_of_mem _ (List.mem_append_right _ h)) (by decide +kernel))
set_option maxRecDepth 20000 in
theorem gX0_correct_X0_needState : GoodIn wsX0_correct (va_wsS RX0 71 yX0_needState wsX0_needState) := goodIn_app (goodIn_of _ (by decide +kernel)) ggX0_correct_X0_needState
set_option maxRecDepth 20000 in
theorem ggX0_correct_X0_minutesLeft : GoodIn wsX0_correct wsX0_minutesLeft := goodIn_r _ [31, 1, 2, 3, 32, 16, 17, 7, 18, 36, 37, 38, 39, 40, 41, 42, 43, 44, 45, 46, 47, 48, 49, 50, 51] (by decide +kernel) (by decide +kernel)
set_option maxRecDepth 20000 in
theorem gX0_correct_X0_minutesLeft : GoodIn wsX0_correct (wsV RX0 83 RX0 yX0_minutesLeft wsX0_minutesLeft) := goodIn_app (goodIn_of _ (by decide +kernel)) ggX0_correct_X0_minutesLeft
set_option maxRecDepth 20000 in
theorem ggX0_correct_X0_put : GoodIn wsX0_correct wsX0_put := goodIn_r _ [35] (by decide +kernel) (by decide +kernel)
set_option maxRecDepth 20000 in
theorem gX0_correct_X0_put : GoodIn wsX0_correct (va_wsS RX0 59 yX0_put wsX0_put) := goodIn_app (goodIn_of _ (by decide +kernel)) ggX0_correct_X0_put
theorem dX0_correct_0 : decode cX0_correct 0 = .ok (.iload_n 1, 1) := by decide +kernel
theorem dX0_correct_1 : decode cX0_correct 1 = .ok (.aload_n 0, 1) := by decide +kernel
theorem dX0_correct_2 : decode cX0_correct 2 = .ok (.getfield 32, 3) := by decide +kernel
theorem dX0_correct_5 : decode cX0_correct 5 = .ok (.invokestatic 63, 3) := by decide +kernel
theorem dX0_correct_8 : decode cX0_correct 8 = .ok (.iload_n 2, 1) := by decide +kernel
theorem dX0_correct_9 : decode cX0_correct 9 = .ok (.iconst 0, 1) := by decide +kernel
theorem dX0_correct_10 : decode cX0_correct 10 = .ok (.bipush 16, 2) := by decide +kernel
theorem dX0_correct_12 : decode cX0_correct 12 = .ok (.invokestatic 67, 3) := by decide +kernel
theorem dX0_correct_15 : decode cX0_correct 15 = .ok (.aload_n 0, 1) := by decide +kernel
theorem dX0_correct_16 : decode cX0_correct 16 = .ok (.getfield 35, 3) := by decide +kernel
theorem dX0_correct_19 : decode cX0_correct 19 = .ok (.iload_n 1, 1) := by decide +kernel
theorem dX0_correct_20 : decode cX0_correct 20 = .ok (.invokestatic 79, 3) := by decide +kernel
theorem dX0_correct_23 : decode cX0_correct 23 = .ok (.istore_n 3, 1) := by decide +kernel
theorem dX0_correct_24 : decode cX0_correct 24 = .ok (.aload_n 0, 1) := by decide +kernel
theorem dX0_correct_25 : decode cX0_correct 25 = .ok (.getfield 44, 3) := by decide +kernel
theorem dX0_correct_28 : decode cX0_correct 28 = .ok (.iload_n 1, 1) := by decide +kernel
theorem dX0_correct_29 : decode cX0_correct 29 = .ok (.invokestatic 79, 3) := by decide +kernel
theorem dX0_correct_32 : decode cX0_correct 32 = .ok (.istore 4, 2) := by decide +kernel
theorem dX0_correct_34 : decode cX0_correct 34 = .ok (.iload_n 2, 1) := by decide +kernel
theorem dX0_correct_35 : decode cX0_correct 35 = .ok (.iload 4, 2) := by decide +kernel
theorem dX0_correct_37 : decode cX0_correct 37 = .ok (.isub, 1) := by decide +kernel
theorem dX0_correct_38 : decode cX0_correct 38 = .ok (.istore 5, 2) := by decide +kernel
theorem dX0_correct_40 : decode cX0_correct 40 = .ok (.aload_n 0, 1) := by decide +kernel
theorem dX0_correct_41 : decode cX0_correct 41 = .ok (.iload_n 3, 1) := by decide +kernel
theorem dX0_correct_42 : decode cX0_correct 42 = .ok (.aload_n 0, 1) := by decide +kernel
theorem dX0_correct_43 : decode cX0_correct 43 = .ok (.getfield 41, 3) := by decide +kernel
theorem dX0_correct_46 : decode cX0_correct 46 = .ok (.iload_n 1, 1) := by decide +kernel
theorem dX0_correct_47 : decode cX0_correct 47 = .ok (.invokestatic 79, 3) := by decide +kernel
theorem dX0_correct_50 : decode cX0_correct 50 = .ok (.invokevirtual 75, 3) := by decide +kernel
theorem dX0_correct_53 : decode cX0_correct 53 = .ok (.iload 5, 2) := by decide +kernel
theorem dX0_correct_55 : decode cX0_correct 55 = .ok (.iadd, 1) := by decide +kernel
theorem dX0_correct_56 : decode cX0_correct 56 = .ok (.bipush 24, 2) := by decide +kernel
theorem dX0_correct_58 : decode cX0_correct 58 = .ok (.if_icmp .gt 7, 3) := by decide +kernel
theorem dX0_correct_61 : decode cX0_correct 61 = .ok (.iconst 1, 1) := by decide +kernel
theorem dX0_correct_62 : decode cX0_correct 62 = .ok (.goto 4, 3) := by decide +kernel
theorem dX0_correct_65 : decode cX0_correct 65 = .ok (.iconst 0, 1) := by decide +kernel
theorem dX0_correct_66 : decode cX0_correct 66 = .ok (.invokestatic 71, 3) := by decide +kernel
theorem dX0_correct_69 : decode cX0_correct 69 = .ok (.aload_n 0, 1) := by decide +kernel
theorem dX0_correct_70 : decode cX0_correct 70 = .ok (.iload_n 3, 1) := by decide +kernel
theorem dX0_correct_71 : decode cX0_correct 71 = .ok (.invokevirtual 83, 3) := by decide +kernel
theorem dX0_correct_74 : decode cX0_correct 74 = .ok (.bipush 7, 2) := by decide +kernel
theorem dX0_correct_76 : decode cX0_correct 76 = .ok (.iload 5, 2) := by decide +kernel
theorem dX0_correct_78 : decode cX0_correct 78 = .ok (.imul, 1) := by decide +kernel
theorem dX0_correct_79 : decode cX0_correct 79 = .ok (.iadd, 1) := by decide +kernel
theorem dX0_correct_80 : decode cX0_correct 80 = .ok (.ifCond .lt 7, 3) := by decide +kernel
theorem dX0_correct_83 : decode cX0_correct 83 = .ok (.iconst 1, 1) := by decide +kernel
theorem dX0_correct_84 : decode cX0_correct 84 = .ok (.goto 4, 3) := by decide +kernel
theorem dX0_correct_87 : decode cX0_correct 87 = .ok (.iconst 0, 1) := by decide +kernel
theorem dX0_correct_88 : decode cX0_correct 88 = .ok (.invokestatic 71, 3) := by decide +kernel
theorem dX0_correct_91 : decode cX0_correct 91 = .ok (.aload_n 0, 1) := by decide +kernel
theorem dX0_correct_92 : decode cX0_correct 92 = .ok (.getfield 44, 3) := by decide +kernel
theorem dX0_correct_95 : decode cX0_correct 95 = .ok (.iload_n 1, 1) := by decide +kernel
theorem dX0_correct_96 : decode cX0_correct 96 = .ok (.iload_n 2, 1) := by decide +kernel
theorem dX0_correct_97 : decode cX0_correct 97 = .ok (.invokestatic 59, 3) := by decide +kernel
theorem dX0_correct_100 : decode cX0_correct 100 = .ok (.iload 4, 2) := by decide +kernel
theorem dX0_correct_102 : decode cX0_correct 102 = .ok (.ireturn, 1) := by decide +kernel
theorem dX0_shifts_0 : decode cX0_shifts 0 = .ok (.aload_n 0, 1) := by decide +kernel
theorem dX0_shifts_1 : decode cX0_shifts 1 = .ok (.getfield 32, 3) := by decide +kernel
theorem dX0_shifts_4 : decode cX0_shifts 4 = .ok (.ireturn, 1) := by decide +kernel
set_option maxRecDepth 20000 in
theorem ggX0_hours_X0_needOneOf : GoodIn wsX0_hours wsX0_needOneOf := goodIn_ca (goodIn_r _ [6, 7, 8] (by decide +kernel) (by decide +kernel)) (goodIn_sub (fun _ h => List.mem_cons_of_mem _ (List.mem_append_right _ h)) (by decide +kernel))
set_option maxRecDepth 20000 in
theorem gX0_hours_X0_needOneOf : GoodIn wsX0_hours (va_wsS RX0 63 yX0_needOneOf wsX0_needOneOf) := goodIn_app (goodIn_of _ (by decide +kernel)) ggX0_hours_X0_needOneOf
set_option maxRecDepth 20000 in
theorem ggX0_hours_X0_isOfWorker : GoodIn wsX0_hours wsX0_isOfWorker := goodIn_r _ [12, 13, 14, 15, 16, 5, 17, 18, 19, 20, 21, 22, 23, 24, 25, 26, 27, 28, 29, 30, 31, 32, 33, 34, 35, 36] (by decide +kernel) (by decide +kernel)
set_option maxRecDepth 20000 in
theorem gX0_hours_X0_isOfWorker : GoodIn wsX0_hours (wsV RX0 87 RX0 yX0_isOfWorker wsX0_isOfWorker) := goodIn_app (goodIn_of _ (by decide +kernel)) ggX0_hours_X0_isOfWorker
set_option maxRecDepth 20000 in
theorem ggX0_hours_X0_at : GoodIn wsX0_hours wsX0_at := goodIn_r _ [17] (by decide +kernel) (by decide +kernel)
set_option maxRecDepth 20000 in
theorem gX0_hours_X0_at : GoodIn wsX0_hours (va_wsS RX0 79 yX0_at wsX0_at) := goodIn_app (goodIn_of _ (by decide +kernel)) ggX0_hours_X0_at
theorem dX0_hours_0 : decode cX0_hours 0 = .ok (.iload_n 1, 1) := by decide +kernel
theorem dX0_hours_1 : decode cX0_hours 1 = .ok (.bipush 6, 2) := by decide +kernel
theorem dX0_hours_3 : decode cX0_hours 3 = .ok (.invokestatic 63, 3) := by decide +kernel
theorem dX0_hours_6 : decode cX0_hours 6 = .ok (.iload_n 2, 1) := by decide +kernel
theorem dX0_hours_7 : decode cX0_hours 7 = .ok (.bipush 20, 2) := by decide +kernel
theorem dX0_hours_9 : decode cX0_hours 9 = .ok (.invokestatic 63, 3) := by decide +kernel
theorem dX0_hours_12 : decode cX0_hours 12 = .ok (.iconst 0, 1) := by decide +kernel
theorem dX0_hours_13 : decode cX0_hours 13 = .ok (.istore_n 3, 1) := by decide +kernel
theorem dX0_hours_14 : decode cX0_hours 14 = .ok (.iconst 0, 1) := by decide +kernel
theorem dX0_hours_15 : decode cX0_hours 15 = .ok (.istore 4, 2) := by decide +kernel
theorem dX0_hours_17 : decode cX0_hours 17 = .ok (.iload 4, 2) := by decide +kernel
theorem dX0_hours_19 : decode cX0_hours 19 = .ok (.aload_n 0, 1) := by decide +kernel
theorem dX0_hours_20 : decode cX0_hours 20 = .ok (.getfield 32, 3) := by decide +kernel
theorem dX0_hours_23 : decode cX0_hours 23 = .ok (.if_icmp .ge 32, 3) := by decide +kernel
theorem dX0_hours_26 : decode cX0_hours 26 = .ok (.aload_n 0, 1) := by decide +kernel
theorem dX0_hours_27 : decode cX0_hours 27 = .ok (.iload 4, 2) := by decide +kernel
theorem dX0_hours_29 : decode cX0_hours 29 = .ok (.iload_n 1, 1) := by decide +kernel
theorem dX0_hours_30 : decode cX0_hours 30 = .ok (.iload_n 2, 1) := by decide +kernel
theorem dX0_hours_31 : decode cX0_hours 31 = .ok (.invokevirtual 87, 3) := by decide +kernel
theorem dX0_hours_34 : decode cX0_hours 34 = .ok (.ifCond .eq 15, 3) := by decide +kernel
theorem dX0_hours_37 : decode cX0_hours 37 = .ok (.iload_n 3, 1) := by decide +kernel
theorem dX0_hours_38 : decode cX0_hours 38 = .ok (.aload_n 0, 1) := by decide +kernel
theorem dX0_hours_39 : decode cX0_hours 39 = .ok (.getfield 44, 3) := by decide +kernel
theorem dX0_hours_42 : decode cX0_hours 42 = .ok (.iload 4, 2) := by decide +kernel
theorem dX0_hours_44 : decode cX0_hours 44 = .ok (.invokestatic 79, 3) := by decide +kernel
theorem dX0_hours_47 : decode cX0_hours 47 = .ok (.iadd, 1) := by decide +kernel
theorem dX0_hours_48 : decode cX0_hours 48 = .ok (.istore_n 3, 1) := by decide +kernel
theorem dX0_hours_49 : decode cX0_hours 49 = .ok (.iinc 4 1, 3) := by decide +kernel
theorem dX0_hours_52 : decode cX0_hours 52 = .ok (.goto (-35), 3) := by decide +kernel
theorem dX0_hours_55 : decode cX0_hours 55 = .ok (.iload_n 3, 1) := by decide +kernel
theorem dX0_hours_56 : decode cX0_hours 56 = .ok (.ireturn, 1) := by decide +kernel
set_option maxRecDepth 20000 in
theorem ggX0_overtime_X0_needOneOf : GoodIn wsX0_overtime wsX0_needOneOf := goodIn_ca (goodIn_r _ [5, 6, 7] (by decide +kernel) (by decide +kernel)) (goodIn_sub (fun _ h => List.mem_cons_of_mem _ (List.mem_append_right _ h)) (by decide +kernel))
set_option maxRecDepth 20000 in
theorem gX0_overtime_X0_needOneOf : GoodIn wsX0_overtime (va_wsS RX0 63 yX0_needOneOf wsX0_needOneOf) := goodIn_app (goodIn_of _ (by decide +kernel)) ggX0_overtime_X0_needOneOf
set_option maxRecDepth 20000 in
theorem ggX0_overtime_X0_overtimeHours : GoodIn wsX0_overtime wsX0_overtimeHours := goodIn_r _ [11, 12, 13, 14, 15, 16, 17, 18, 19, 20, 21, 22, 23, 24, 4, 25, 26, 1, 27, 28, 29, 30, 31, 32, 33, 34, 35, 36, 37, 38, 39, 40, 41, 42, 43, 44, 45, 46, 47, 48, 49, 50, 51, 52, 53, 54, 55, 56, 57, 58, 59, 60, 61, 62] (by decide +kernel) (by decide +kernel)
set_option maxRecDepth 20000 in
theorem gX0_overtime_X0_overtimeHours : GoodIn wsX0_overtime (wsV RX0 91 RX0 yX0_overtimeHours wsX0_overtimeHours) := goodIn_app (goodIn_of _ (by decide +kernel)) ggX0_overtime_X0_overtimeHours
theorem dX0_overtime_0 : decode cX0_overtime 0 = .ok (.iload_n 1, 1) := by decide +kernel
theorem dX0_overtime_1 : decode cX0_overtime 1 = .ok (.aload_n 0, 1) := by decide +kernel
theorem dX0_overtime_2 : decode cX0_overtime 2 = .ok (.getfield 32, 3) := by decide +kernel
theorem dX0_overtime_5 : decode cX0_overtime 5 = .ok (.invokestatic 63, 3) := by decide +kernel
theorem dX0_overtime_8 : decode cX0_overtime 8 = .ok (.aload_n 0, 1) := by decide +kernel
theorem dX0_overtime_9 : decode cX0_overtime 9 = .ok (.iload_n 1, 1) := by decide +kernel
theorem dX0_overtime_10 : decode cX0_overtime 10 = .ok (.invokevirtual 91, 3) := by decide +kernel
theorem dX0_overtime_13 : decode cX0_overtime 13 = .ok (.ireturn, 1) := by decide +kernel
set_option maxRecDepth 20000 in
theorem ggX0_hasEqual_X0_needOneOf : GoodIn wsX0_hasEqual wsX0_needOneOf := goodIn_ca (goodIn_r _ [4, 5, 6] (by decide +kernel) (by decide +kernel)) (goodIn_sub (fun _ h => List.mem_cons_of_mem _ (List.mem_append_right _ h)) (by decide +kernel))
set_option maxRecDepth 20000 in
theorem gX0_hasEqual_X0_needOneOf : GoodIn wsX0_hasEqual (va_wsS RX0 63 yX0_needOneOf wsX0_needOneOf) := goodIn_app (goodIn_of _ (by decide +kernel)) ggX0_hasEqual_X0_needOneOf
set_option maxRecDepth 20000 in
theorem ggX0_hasEqual_X0_isEqual : GoodIn wsX0_hasEqual wsX0_isEqual := goodIn_r _ [10, 11, 12, 13, 14, 15, 3, 16, 17, 18, 19, 20, 21, 22, 23, 24, 25, 26, 27, 28, 29, 30, 31, 32, 33, 34, 35, 36, 37, 38, 39, 40, 41, 42, 43] (by decide +kernel) (by decide +kernel)
set_option maxRecDepth 20000 in
theorem gX0_hasEqual_X0_isEqual : GoodIn wsX0_hasEqual (wsV RX0 94 RX0 yX0_isEqual wsX0_isEqual) := goodIn_app (goodIn_of _ (by decide +kernel)) ggX0_hasEqual_X0_isEqual
theorem dX0_hasEqual_0 : decode cX0_hasEqual 0 = .ok (.iload_n 1, 1) := by decide +kernel
theorem dX0_hasEqual_1 : decode cX0_hasEqual 1 = .ok (.bipush 6, 2) := by decide +kernel
theorem dX0_hasEqual_3 : decode cX0_hasEqual 3 = .ok (.invokestatic 63, 3) := by decide +kernel
theorem dX0_hasEqual_6 : decode cX0_hasEqual 6 = .ok (.iload_n 2, 1) := by decide +kernel
theorem dX0_hasEqual_7 : decode cX0_hasEqual 7 = .ok (.iconst 4, 1) := by decide +kernel
theorem dX0_hasEqual_8 : decode cX0_hasEqual 8 = .ok (.invokestatic 63, 3) := by decide +kernel
theorem dX0_hasEqual_11 : decode cX0_hasEqual 11 = .ok (.iload_n 3, 1) := by decide +kernel
theorem dX0_hasEqual_12 : decode cX0_hasEqual 12 = .ok (.bipush 20, 2) := by decide +kernel
theorem dX0_hasEqual_14 : decode cX0_hasEqual 14 = .ok (.invokestatic 63, 3) := by decide +kernel
theorem dX0_hasEqual_17 : decode cX0_hasEqual 17 = .ok (.aload_n 0, 1) := by decide +kernel
theorem dX0_hasEqual_18 : decode cX0_hasEqual 18 = .ok (.iload_n 1, 1) := by decide +kernel
theorem dX0_hasEqual_19 : decode cX0_hasEqual 19 = .ok (.iload_n 2, 1) := by decide +kernel
theorem dX0_hasEqual_20 : decode cX0_hasEqual 20 = .ok (.iload_n 3, 1) := by decide +kernel
theorem dX0_hasEqual_21 : decode cX0_hasEqual 21 = .ok (.invokevirtual 94, 3) := by decide +kernel
theorem dX0_hasEqual_24 : decode cX0_hasEqual 24 = .ok (.ireturn, 1) := by decide +kernel
set_option maxRecDepth 20000 in
theorem ggX0_payOf_X0_needOneOf : GoodIn wsX0_payOf wsX0_needOneOf := goodIn_ca (goodIn_r _ [5, 6, 7] (by decide +kernel) (by decide +kernel)) (goodIn_sub (fun _ h => List.mem_cons_of_mem _ (List.mem_append_right _ h)) (by decide +kernel))
set_option maxRecDepth 20000 in
theorem gX0_payOf_X0_needOneOf : GoodIn wsX0_payOf (va_wsS RX0 63 yX0_needOneOf wsX0_needOneOf) := goodIn_app (goodIn_of _ (by decide +kernel)) ggX0_payOf_X0_needOneOf
set_option maxRecDepth 20000 in
theorem ggX0_payOf_X0_shiftPay : GoodIn wsX0_payOf wsX0_shiftPay := goodIn_r _ [11, 12, 13, 14, 15, 16, 17, 18, 4, 19, 20, 21, 22, 23, 24, 25, 26, 27, 28, 29, 30, 31, 1, 32, 33, 34, 35, 36, 37, 38, 39, 40, 41, 42, 43, 44, 45, 46, 47, 48, 49, 50, 51, 52, 53, 54, 55, 56, 57, 58, 59, 60, 61, 62, 63, 64, 65, 66, 67, 68, 69, 70, 71, 72, 73, 74, 75, 76, 77, 78, 79, 80, 81, 82, 83] (by decide +kernel) (by decide +kernel)
set_option maxRecDepth 20000 in
theorem gX0_payOf_X0_shiftPay : GoodIn wsX0_payOf (wsV RX0 97 RX0 yX0_shiftPay wsX0_shiftPay) := goodIn_app (goodIn_of _ (by decide +kernel)) ggX0_payOf_X0_shiftPay
theorem dX0_payOf_0 : decode cX0_payOf 0 = .ok (.iload_n 1, 1) := by decide +kernel
theorem dX0_payOf_1 : decode cX0_payOf 1 = .ok (.aload_n 0, 1) := by decide +kernel
theorem dX0_payOf_2 : decode cX0_payOf 2 = .ok (.getfield 32, 3) := by decide +kernel
theorem dX0_payOf_5 : decode cX0_payOf 5 = .ok (.invokestatic 63, 3) := by decide +kernel
theorem dX0_payOf_8 : decode cX0_payOf 8 = .ok (.aload_n 0, 1) := by decide +kernel
theorem dX0_payOf_9 : decode cX0_payOf 9 = .ok (.iload_n 1, 1) := by decide +kernel
theorem dX0_payOf_10 : decode cX0_payOf 10 = .ok (.invokevirtual 97, 3) := by decide +kernel
theorem dX0_payOf_13 : decode cX0_payOf 13 = .ok (.ireturn, 1) := by decide +kernel
set_option maxRecDepth 20000 in
theorem ggX0_chargeOf_X0_needOneOf : GoodIn wsX0_chargeOf wsX0_needOneOf := goodIn_ca (goodIn_r _ [7, 8, 9] (by decide +kernel) (by decide +kernel)) (goodIn_sub (fun _ h => List.mem_cons_of_mem _ (List.mem_append_right _ h)) (by decide +kernel))
set_option maxRecDepth 20000 in
theorem gX0_chargeOf_X0_needOneOf : GoodIn wsX0_chargeOf (va_wsS RX0 63 yX0_needOneOf wsX0_needOneOf) := goodIn_app (goodIn_of _ (by decide +kernel)) ggX0_chargeOf_X0_needOneOf
set_option maxRecDepth 20000 in
theorem ggX0_chargeOf_X0_at : GoodIn wsX0_chargeOf wsX0_at := goodIn_r _ [12] (by decide +kernel) (by decide +kernel)
set_option maxRecDepth 20000 in
theorem gX0_chargeOf_X0_at : GoodIn wsX0_chargeOf (va_wsS RX0 79 yX0_at wsX0_at) := goodIn_app (goodIn_of _ (by decide +kernel)) ggX0_chargeOf_X0_at
set_option maxRecDepth 20000 in
theorem ggX0_chargeOf_X0_weekOf : GoodIn wsX0_chargeOf wsX0_weekOf := goodIn_r _ [15] (by decide +kernel) (by decide +kernel)
set_option maxRecDepth 20000 in
theorem gX0_chargeOf_X0_weekOf : GoodIn wsX0_chargeOf (va_wsS RX0 100 yX0_weekOf wsX0_weekOf) := goodIn_app (goodIn_of _ (by decide +kernel)) ggX0_chargeOf_X0_weekOf
set_option maxRecDepth 20000 in
theorem ggX0_chargeOf_X0_marginAt : GoodIn wsX0_chargeOf wsX0_marginAt := goodIn_r _ [19, 20, 21, 22, 23, 24, 25, 6, 26, 1, 27, 28, 29, 30, 31, 2, 3, 10, 11, 12, 13, 14, 15, 86, 87, 88, 89, 90, 91, 92, 93, 94, 95, 96, 97, 98, 99, 100, 101] (by decide +kernel) (by decide +kernel)
set_option maxRecDepth 20000 in
theorem gX0_chargeOf_X0_marginAt : GoodIn wsX0_chargeOf (wsV RX0 103 RX0 yX0_marginAt wsX0_marginAt) := goodIn_app (goodIn_of _ (by decide +kernel)) ggX0_chargeOf_X0_marginAt
set_option maxRecDepth 20000 in
theorem ggX0_chargeOf_X0_shiftPay : GoodIn wsX0_chargeOf wsX0_shiftPay := goodIn_r _ [35, 27, 36, 2, 3, 37, 38, 39, 6, 40, 41, 42, 43, 44, 45, 46, 47, 48, 49, 50, 51, 52, 1, 10, 11, 12, 13, 14, 15, 53, 54, 55, 56, 57, 58, 59, 60, 61, 62, 63, 64, 65, 66, 67, 68, 69, 70, 71, 72, 73, 74, 75, 76, 77, 78, 79, 80, 81, 82, 86, 87, 88, 89, 90, 91, 92, 93, 94, 95, 96, 97, 98, 99, 100, 101] (by decide +kernel) (by decide +kernel)
set_option maxRecDepth 20000 in
theorem gX0_chargeOf_X0_shiftPay : GoodIn wsX0_chargeOf (wsV RX0 97 RX0 yX0_shiftPay wsX0_shiftPay) := goodIn_app (goodIn_of _ (by decide +kernel)) ggX0_chargeOf_X0_shiftPay
set_option maxRecDepth 20000 in
theorem ggX0_chargeOf_X0_chargeFor : GoodIn wsX0_chargeOf wsX0_chargeFor := goodIn_r _ [85] (by decide +kernel) (by decide +kernel)
set_option maxRecDepth 20000 in
theorem gX0_chargeOf_X0_chargeFor : GoodIn wsX0_chargeOf (va_wsS RX0 106 yX0_chargeFor wsX0_chargeFor) := goodIn_app (goodIn_of _ (by decide +kernel)) ggX0_chargeOf_X0_chargeFor
theorem dX0_chargeOf_0 : decode cX0_chargeOf 0 = .ok (.iload_n 1, 1) := by decide +kernel
theorem dX0_chargeOf_1 : decode cX0_chargeOf 1 = .ok (.aload_n 0, 1) := by decide +kernel
theorem dX0_chargeOf_2 : decode cX0_chargeOf 2 = .ok (.getfield 32, 3) := by decide +kernel
theorem dX0_chargeOf_5 : decode cX0_chargeOf 5 = .ok (.invokestatic 63, 3) := by decide +kernel
theorem dX0_chargeOf_8 : decode cX0_chargeOf 8 = .ok (.aload_n 0, 1) := by decide +kernel
theorem dX0_chargeOf_9 : decode cX0_chargeOf 9 = .ok (.aload_n 0, 1) := by decide +kernel
theorem dX0_chargeOf_10 : decode cX0_chargeOf 10 = .ok (.getfield 38, 3) := by decide +kernel
theorem dX0_chargeOf_13 : decode cX0_chargeOf 13 = .ok (.iload_n 1, 1) := by decide +kernel
theorem dX0_chargeOf_14 : decode cX0_chargeOf 14 = .ok (.invokestatic 79, 3) := by decide +kernel
theorem dX0_chargeOf_17 : decode cX0_chargeOf 17 = .ok (.aload_n 0, 1) := by decide +kernel
theorem dX0_chargeOf_18 : decode cX0_chargeOf 18 = .ok (.getfield 41, 3) := by decide +kernel
theorem dX0_chargeOf_21 : decode cX0_chargeOf 21 = .ok (.iload_n 1, 1) := by decide +kernel
theorem dX0_chargeOf_22 : decode cX0_chargeOf 22 = .ok (.invokestatic 79, 3) := by decide +kernel
theorem dX0_chargeOf_25 : decode cX0_chargeOf 25 = .ok (.invokestatic 100, 3) := by decide +kernel
theorem dX0_chargeOf_28 : decode cX0_chargeOf 28 = .ok (.invokevirtual 103, 3) := by decide +kernel
theorem dX0_chargeOf_31 : decode cX0_chargeOf 31 = .ok (.istore_n 2, 1) := by decide +kernel
theorem dX0_chargeOf_32 : decode cX0_chargeOf 32 = .ok (.aload_n 0, 1) := by decide +kernel
theorem dX0_chargeOf_33 : decode cX0_chargeOf 33 = .ok (.iload_n 1, 1) := by decide +kernel
theorem dX0_chargeOf_34 : decode cX0_chargeOf 34 = .ok (.invokevirtual 97, 3) := by decide +kernel
theorem dX0_chargeOf_37 : decode cX0_chargeOf 37 = .ok (.iload_n 2, 1) := by decide +kernel
theorem dX0_chargeOf_38 : decode cX0_chargeOf 38 = .ok (.invokestatic 106, 3) := by decide +kernel
theorem dX0_chargeOf_41 : decode cX0_chargeOf 41 = .ok (.ireturn, 1) := by decide +kernel
set_option maxRecDepth 20000 in
theorem ggX0_pay_X0_needOneOf : GoodIn wsX0_pay wsX0_needOneOf := goodIn_ca (goodIn_r _ [4, 5, 6] (by decide +kernel) (by decide +kernel)) (goodIn_sub (fun _ h => List.mem_cons_of_mem _ (List.mem_append_right _ h)) (by decide +kernel))
set_option maxRecDepth 20000 in
theorem gX0_pay_X0_needOneOf : GoodIn wsX0_pay (va_wsS RX0 63 yX0_needOneOf wsX0_needOneOf) := goodIn_app (goodIn_of _ (by decide +kernel)) ggX0_pay_X0_needOneOf
set_option maxRecDepth 20000 in
theorem ggX0_pay_X0_weekPay : GoodIn wsX0_pay wsX0_weekPay := goodIn_r _ [10, 11, 12, 13, 14, 3, 15, 16, 17, 18, 19, 20, 21, 22, 23, 24, 25, 26, 27, 28, 29, 30, 31, 32, 33, 34, 35, 36, 37, 38, 39, 40, 41, 42, 43, 44, 45, 46, 47, 48, 49, 50, 51, 52, 53, 54, 55, 56, 57, 58, 59, 60, 61, 62, 63, 64, 65, 66, 67, 68, 69, 70, 71, 72, 73, 74, 75, 76, 77, 78, 79, 80, 81, 82, 83, 84, 85, 86, 87] (by decide +kernel) (by decide +kernel)
set_option maxRecDepth 20000 in
theorem gX0_pay_X0_weekPay : GoodIn wsX0_pay (wsV RX0 109 RX0 yX0_weekPay wsX0_weekPay) := goodIn_app (goodIn_of _ (by decide +kernel)) ggX0_pay_X0_weekPay
theorem dX0_pay_0 : decode cX0_pay 0 = .ok (.iload_n 1, 1) := by decide +kernel
theorem dX0_pay_1 : decode cX0_pay 1 = .ok (.bipush 6, 2) := by decide +kernel
theorem dX0_pay_3 : decode cX0_pay 3 = .ok (.invokestatic 63, 3) := by decide +kernel
theorem dX0_pay_6 : decode cX0_pay 6 = .ok (.iload_n 2, 1) := by decide +kernel
theorem dX0_pay_7 : decode cX0_pay 7 = .ok (.bipush 20, 2) := by decide +kernel
theorem dX0_pay_9 : decode cX0_pay 9 = .ok (.invokestatic 63, 3) := by decide +kernel
theorem dX0_pay_12 : decode cX0_pay 12 = .ok (.aload_n 0, 1) := by decide +kernel
theorem dX0_pay_13 : decode cX0_pay 13 = .ok (.iload_n 1, 1) := by decide +kernel
theorem dX0_pay_14 : decode cX0_pay 14 = .ok (.iload_n 2, 1) := by decide +kernel
theorem dX0_pay_15 : decode cX0_pay 15 = .ok (.invokevirtual 109, 3) := by decide +kernel
theorem dX0_pay_18 : decode cX0_pay 18 = .ok (.ireturn, 1) := by decide +kernel
set_option maxRecDepth 20000 in
theorem ggX0_payByHours_X0_needOneOf : GoodIn wsX0_payByHours wsX0_needOneOf := goodIn_ca (goodIn_r _ [9, 10, 11] (by decide +kernel) (by decide +kernel)) (goodIn_sub (fun _ h => List.mem_cons_of_mem _ (List.mem_append_right _ h)) (by decide +kernel))
set_option maxRecDepth 20000 in
theorem gX0_payByHours_X0_needOneOf : GoodIn wsX0_payByHours (va_wsS RX0 63 yX0_needOneOf wsX0_needOneOf) := goodIn_app (goodIn_of _ (by decide +kernel)) ggX0_payByHours_X0_needOneOf
set_option maxRecDepth 20000 in
theorem ggX0_payByHours_X0_at : GoodIn wsX0_payByHours wsX0_at := goodIn_r _ [14] (by decide +kernel) (by decide +kernel)
set_option maxRecDepth 20000 in
theorem gX0_payByHours_X0_at : GoodIn wsX0_payByHours (va_wsS RX0 79 yX0_at wsX0_at) := goodIn_app (goodIn_of _ (by decide +kernel)) ggX0_payByHours_X0_at
set_option maxRecDepth 20000 in
theorem ggX0_payByHours_X0_rateThere : GoodIn wsX0_payByHours wsX0_rateThere := goodIn_r _ [18, 19, 20, 21, 22, 23, 8, 24, 25, 26, 27, 28, 29, 30, 1, 2, 4, 5, 3, 12, 13, 14, 31, 32, 33, 34, 35, 36, 37, 38, 39, 40, 41, 42, 43, 44, 45, 46, 47, 48, 49] (by decide +kernel) (by decide +kernel)
set_option maxRecDepth 20000 in
theorem gX0_payByHours_X0_rateThere : GoodIn wsX0_payByHours (wsV RX0 112 RX0 yX0_rateThere wsX0_rateThere) := goodIn_app (goodIn_of _ (by decide +kernel)) ggX0_payByHours_X0_rateThere
theorem dX0_payByHours_0 : decode cX0_payByHours 0 = .ok (.iload_n 1, 1) := by decide +kernel
theorem dX0_payByHours_1 : decode cX0_payByHours 1 = .ok (.bipush 6, 2) := by decide +kernel
theorem dX0_payByHours_3 : decode cX0_payByHours 3 = .ok (.invokestatic 63, 3) := by decide +kernel
theorem dX0_payByHours_6 : decode cX0_payByHours 6 = .ok (.iload_n 2, 1) := by decide +kernel
theorem dX0_payByHours_7 : decode cX0_payByHours 7 = .ok (.bipush 20, 2) := by decide +kernel
theorem dX0_payByHours_9 : decode cX0_payByHours 9 = .ok (.invokestatic 63, 3) := by decide +kernel
theorem dX0_payByHours_12 : decode cX0_payByHours 12 = .ok (.iconst 0, 1) := by decide +kernel
theorem dX0_payByHours_13 : decode cX0_payByHours 13 = .ok (.istore_n 3, 1) := by decide +kernel
theorem dX0_payByHours_14 : decode cX0_payByHours 14 = .ok (.iconst 0, 1) := by decide +kernel
theorem dX0_payByHours_15 : decode cX0_payByHours 15 = .ok (.istore 4, 2) := by decide +kernel
theorem dX0_payByHours_17 : decode cX0_payByHours 17 = .ok (.iconst 0, 1) := by decide +kernel
theorem dX0_payByHours_18 : decode cX0_payByHours 18 = .ok (.istore 5, 2) := by decide +kernel
theorem dX0_payByHours_20 : decode cX0_payByHours 20 = .ok (.iload 5, 2) := by decide +kernel
theorem dX0_payByHours_22 : decode cX0_payByHours 22 = .ok (.bipush 7, 2) := by decide +kernel
theorem dX0_payByHours_24 : decode cX0_payByHours 24 = .ok (.if_icmp .ge 161, 3) := by decide +kernel
theorem dX0_payByHours_27 : decode cX0_payByHours 27 = .ok (.iload_n 2, 1) := by decide +kernel
theorem dX0_payByHours_28 : decode cX0_payByHours 28 = .ok (.bipush 7, 2) := by decide +kernel
theorem dX0_payByHours_30 : decode cX0_payByHours 30 = .ok (.imul, 1) := by decide +kernel
theorem dX0_payByHours_31 : decode cX0_payByHours 31 = .ok (.iload 5, 2) := by decide +kernel
theorem dX0_payByHours_33 : decode cX0_payByHours 33 = .ok (.iadd, 1) := by decide +kernel
theorem dX0_payByHours_34 : decode cX0_payByHours 34 = .ok (.istore 6, 2) := by decide +kernel
theorem dX0_payByHours_36 : decode cX0_payByHours 36 = .ok (.iconst 0, 1) := by decide +kernel
theorem dX0_payByHours_37 : decode cX0_payByHours 37 = .ok (.istore 7, 2) := by decide +kernel
theorem dX0_payByHours_39 : decode cX0_payByHours 39 = .ok (.iconst 0, 1) := by decide +kernel
theorem dX0_payByHours_40 : decode cX0_payByHours 40 = .ok (.istore 8, 2) := by decide +kernel
theorem dX0_payByHours_42 : decode cX0_payByHours 42 = .ok (.iload 8, 2) := by decide +kernel
theorem dX0_payByHours_44 : decode cX0_payByHours 44 = .ok (.aload_n 0, 1) := by decide +kernel
theorem dX0_payByHours_45 : decode cX0_payByHours 45 = .ok (.getfield 32, 3) := by decide +kernel
theorem dX0_payByHours_48 : decode cX0_payByHours 48 = .ok (.if_icmp .ge 131, 3) := by decide +kernel
theorem dX0_payByHours_51 : decode cX0_payByHours 51 = .ok (.aload_n 0, 1) := by decide +kernel
theorem dX0_payByHours_52 : decode cX0_payByHours 52 = .ok (.getfield 35, 3) := by decide +kernel
theorem dX0_payByHours_55 : decode cX0_payByHours 55 = .ok (.iload 8, 2) := by decide +kernel
theorem dX0_payByHours_57 : decode cX0_payByHours 57 = .ok (.invokestatic 79, 3) := by decide +kernel
theorem dX0_payByHours_60 : decode cX0_payByHours 60 = .ok (.iload_n 1, 1) := by decide +kernel
theorem dX0_payByHours_61 : decode cX0_payByHours 61 = .ok (.if_icmp .ne 112, 3) := by decide +kernel
theorem dX0_payByHours_64 : decode cX0_payByHours 64 = .ok (.aload_n 0, 1) := by decide +kernel
theorem dX0_payByHours_65 : decode cX0_payByHours 65 = .ok (.getfield 41, 3) := by decide +kernel
theorem dX0_payByHours_68 : decode cX0_payByHours 68 = .ok (.iload 8, 2) := by decide +kernel
theorem dX0_payByHours_70 : decode cX0_payByHours 70 = .ok (.invokestatic 79, 3) := by decide +kernel
theorem dX0_payByHours_73 : decode cX0_payByHours 73 = .ok (.iload 6, 2) := by decide +kernel
theorem dX0_payByHours_75 : decode cX0_payByHours 75 = .ok (.if_icmp .ne 98, 3) := by decide +kernel
theorem dX0_payByHours_78 : decode cX0_payByHours 78 = .ok (.aload_n 0, 1) := by decide +kernel
theorem dX0_payByHours_79 : decode cX0_payByHours 79 = .ok (.iload_n 1, 1) := by decide +kernel
theorem dX0_payByHours_80 : decode cX0_payByHours 80 = .ok (.aload_n 0, 1) := by decide +kernel
theorem dX0_payByHours_81 : decode cX0_payByHours 81 = .ok (.getfield 38, 3) := by decide +kernel
theorem dX0_payByHours_84 : decode cX0_payByHours 84 = .ok (.iload 8, 2) := by decide +kernel
theorem dX0_payByHours_86 : decode cX0_payByHours 86 = .ok (.invokestatic 79, 3) := by decide +kernel
theorem dX0_payByHours_89 : decode cX0_payByHours 89 = .ok (.iload_n 2, 1) := by decide +kernel
theorem dX0_payByHours_90 : decode cX0_payByHours 90 = .ok (.invokevirtual 112, 3) := by decide +kernel
theorem dX0_payByHours_93 : decode cX0_payByHours 93 = .ok (.istore 9, 2) := by decide +kernel
theorem dX0_payByHours_95 : decode cX0_payByHours 95 = .ok (.aload_n 0, 1) := by decide +kernel
theorem dX0_payByHours_96 : decode cX0_payByHours 96 = .ok (.getfield 44, 3) := by decide +kernel
theorem dX0_payByHours_99 : decode cX0_payByHours 99 = .ok (.iload 8, 2) := by decide +kernel
theorem dX0_payByHours_101 : decode cX0_payByHours 101 = .ok (.invokestatic 79, 3) := by decide +kernel
theorem dX0_payByHours_104 : decode cX0_payByHours 104 = .ok (.istore 10, 2) := by decide +kernel
theorem dX0_payByHours_106 : decode cX0_payByHours 106 = .ok (.iconst 0, 1) := by decide +kernel
theorem dX0_payByHours_107 : decode cX0_payByHours 107 = .ok (.istore 11, 2) := by decide +kernel
theorem dX0_payByHours_109 : decode cX0_payByHours 109 = .ok (.iconst 0, 1) := by decide +kernel
theorem dX0_payByHours_110 : decode cX0_payByHours 110 = .ok (.istore 12, 2) := by decide +kernel
theorem dX0_payByHours_112 : decode cX0_payByHours 112 = .ok (.iload 12, 2) := by decide +kernel
theorem dX0_payByHours_114 : decode cX0_payByHours 114 = .ok (.iload 10, 2) := by decide +kernel
theorem dX0_payByHours_116 : decode cX0_payByHours 116 = .ok (.if_icmp .ge 50, 3) := by decide +kernel
theorem dX0_payByHours_119 : decode cX0_payByHours 119 = .ok (.iload 7, 2) := by decide +kernel
theorem dX0_payByHours_121 : decode cX0_payByHours 121 = .ok (.bipush 8, 2) := by decide +kernel
theorem dX0_payByHours_123 : decode cX0_payByHours 123 = .ok (.if_icmp .ge 10, 3) := by decide +kernel
theorem dX0_payByHours_126 : decode cX0_payByHours 126 = .ok (.iload 4, 2) := by decide +kernel
theorem dX0_payByHours_128 : decode cX0_payByHours 128 = .ok (.bipush 40, 2) := by decide +kernel
theorem dX0_payByHours_130 : decode cX0_payByHours 130 = .ok (.if_icmp .lt 15, 3) := by decide +kernel
theorem dX0_payByHours_133 : decode cX0_payByHours 133 = .ok (.iload 11, 2) := by decide +kernel
theorem dX0_payByHours_135 : decode cX0_payByHours 135 = .ok (.iconst 3, 1) := by decide +kernel
theorem dX0_payByHours_136 : decode cX0_payByHours 136 = .ok (.iload 9, 2) := by decide +kernel
theorem dX0_payByHours_138 : decode cX0_payByHours 138 = .ok (.imul, 1) := by decide +kernel
theorem dX0_payByHours_139 : decode cX0_payByHours 139 = .ok (.iadd, 1) := by decide +kernel
theorem dX0_payByHours_140 : decode cX0_payByHours 140 = .ok (.istore 11, 2) := by decide +kernel
theorem dX0_payByHours_142 : decode cX0_payByHours 142 = .ok (.goto 15, 3) := by decide +kernel
theorem dX0_payByHours_145 : decode cX0_payByHours 145 = .ok (.iload 11, 2) := by decide +kernel
theorem dX0_payByHours_147 : decode cX0_payByHours 147 = .ok (.iconst 2, 1) := by decide +kernel
theorem dX0_payByHours_148 : decode cX0_payByHours 148 = .ok (.iload 9, 2) := by decide +kernel
theorem dX0_payByHours_150 : decode cX0_payByHours 150 = .ok (.imul, 1) := by decide +kernel
theorem dX0_payByHours_151 : decode cX0_payByHours 151 = .ok (.iadd, 1) := by decide +kernel
theorem dX0_payByHours_152 : decode cX0_payByHours 152 = .ok (.istore 11, 2) := by decide +kernel
theorem dX0_payByHours_154 : decode cX0_payByHours 154 = .ok (.iinc 4 1, 3) := by decide +kernel
theorem dX0_payByHours_157 : decode cX0_payByHours 157 = .ok (.iinc 7 1, 3) := by decide +kernel
theorem dX0_payByHours_160 : decode cX0_payByHours 160 = .ok (.iinc 12 1, 3) := by decide +kernel
theorem dX0_payByHours_163 : decode cX0_payByHours 163 = .ok (.goto (-51), 3) := by decide +kernel
theorem dX0_payByHours_166 : decode cX0_payByHours 166 = .ok (.iload_n 3, 1) := by decide +kernel
theorem dX0_payByHours_167 : decode cX0_payByHours 167 = .ok (.iload 11, 2) := by decide +kernel
theorem dX0_payByHours_169 : decode cX0_payByHours 169 = .ok (.iconst 2, 1) := by decide +kernel
theorem dX0_payByHours_170 : decode cX0_payByHours 170 = .ok (.idiv, 1) := by decide +kernel
theorem dX0_payByHours_171 : decode cX0_payByHours 171 = .ok (.iadd, 1) := by decide +kernel
theorem dX0_payByHours_172 : decode cX0_payByHours 172 = .ok (.istore_n 3, 1) := by decide +kernel
theorem dX0_payByHours_173 : decode cX0_payByHours 173 = .ok (.iinc 8 1, 3) := by decide +kernel
theorem dX0_payByHours_176 : decode cX0_payByHours 176 = .ok (.goto (-134), 3) := by decide +kernel
theorem dX0_payByHours_179 : decode cX0_payByHours 179 = .ok (.iinc 5 1, 3) := by decide +kernel
theorem dX0_payByHours_182 : decode cX0_payByHours 182 = .ok (.goto (-162), 3) := by decide +kernel
theorem dX0_payByHours_185 : decode cX0_payByHours 185 = .ok (.iload_n 3, 1) := by decide +kernel
theorem dX0_payByHours_186 : decode cX0_payByHours 186 = .ok (.ireturn, 1) := by decide +kernel
set_option maxRecDepth 20000 in
theorem ggX0_run_X0_needOneOf : GoodIn wsX0_run wsX0_needOneOf := goodIn_ca (goodIn_r _ [6, 7, 8] (by decide +kernel) (by decide +kernel)) (goodIn_sub (fun _ h => List.mem_cons_of_mem _ (List.mem_append_right _ h)) (by decide +kernel))
set_option maxRecDepth 20000 in
theorem gX0_run_X0_needOneOf : GoodIn wsX0_run (va_wsS RX0 63 yX0_needOneOf wsX0_needOneOf) := goodIn_app (goodIn_of _ (by decide +kernel)) ggX0_run_X0_needOneOf
set_option maxRecDepth 20000 in
theorem ggX0_run_X0_weekPay : GoodIn wsX0_run wsX0_weekPay := goodIn_r _ [12, 13, 14, 15, 16, 5, 17, 18, 19, 20, 21, 22, 23, 24, 25, 26, 27, 28, 29, 30, 31, 32, 33, 34, 35, 36, 37, 38, 39, 40, 41, 42, 43, 44, 45, 46, 47, 48, 49, 50, 51, 52, 53, 54, 55, 56, 57, 58, 59, 60, 61, 62, 63, 64, 65, 66, 67, 68, 69, 70, 71, 72, 73, 96, 97, 98, 99, 100, 101, 102, 103, 104, 105, 106, 107, 108, 109, 110, 111] (by decide +kernel) (by decide +kernel)
set_option maxRecDepth 20000 in
theorem gX0_run_X0_weekPay : GoodIn wsX0_run (wsV RX0 109 RX0 yX0_weekPay wsX0_weekPay) := goodIn_app (goodIn_of _ (by decide +kernel)) ggX0_run_X0_weekPay
set_option maxRecDepth 20000 in
theorem ggX0_run_X0_at : GoodIn wsX0_run wsX0_at := goodIn_r _ [22] (by decide +kernel) (by decide +kernel)
set_option maxRecDepth 20000 in
theorem gX0_run_X0_at : GoodIn wsX0_run (va_wsS RX0 79 yX0_at wsX0_at) := goodIn_app (goodIn_of _ (by decide +kernel)) ggX0_run_X0_at
set_option maxRecDepth 20000 in
theorem ggX0_run_X0_put : GoodIn wsX0_run wsX0_put := goodIn_r _ [50] (by decide +kernel) (by decide +kernel)
set_option maxRecDepth 20000 in
theorem gX0_run_X0_put : GoodIn wsX0_run (va_wsS RX0 59 yX0_put wsX0_put) := goodIn_app (goodIn_of _ (by decide +kernel)) ggX0_run_X0_put
set_option maxRecDepth 20000 in
theorem ggX0_run_X0_weekCharge : GoodIn wsX0_run wsX0_weekCharge := goodIn_r _ [77, 13, 78, 79, 80, 5, 81, 82, 83, 84, 85, 86, 87, 88, 30, 89, 90, 91, 92, 31, 19, 20, 21, 22, 23, 24, 25, 26, 27, 28, 29, 18, 32, 33, 34, 35, 36, 37, 38, 39, 40, 41, 42, 43, 44, 45, 46, 47, 48, 49, 50, 14, 15, 16, 17, 51, 52, 53, 54, 55, 56, 57, 58, 59, 60, 61, 62, 63, 64, 65, 66, 67, 68, 69, 70, 71, 72, 73, 93, 94, 95, 96, 97, 98, 99, 100, 101, 102, 103, 104, 105, 106, 107, 108, 109, 110, 111] (by decide +kernel) (by decide +kernel)
set_option maxRecDepth 20000 in
theorem gX0_run_X0_weekCharge : GoodIn wsX0_run (wsV RX0 116 RX0 yX0_weekCharge wsX0_weekCharge) := goodIn_app (goodIn_of _ (by decide +kernel)) ggX0_run_X0_weekCharge
theorem dX0_run_0 : decode cX0_run 0 = .ok (.iload_n 1, 1) := by decide +kernel
theorem dX0_run_1 : decode cX0_run 1 = .ok (.bipush 20, 2) := by decide +kernel
theorem dX0_run_3 : decode cX0_run 3 = .ok (.invokestatic 63, 3) := by decide +kernel
theorem dX0_run_6 : decode cX0_run 6 = .ok (.iconst 0, 1) := by decide +kernel
theorem dX0_run_7 : decode cX0_run 7 = .ok (.istore_n 2, 1) := by decide +kernel
theorem dX0_run_8 : decode cX0_run 8 = .ok (.iconst 0, 1) := by decide +kernel
theorem dX0_run_9 : decode cX0_run 9 = .ok (.istore_n 3, 1) := by decide +kernel
theorem dX0_run_10 : decode cX0_run 10 = .ok (.iload_n 3, 1) := by decide +kernel
theorem dX0_run_11 : decode cX0_run 11 = .ok (.bipush 6, 2) := by decide +kernel
theorem dX0_run_13 : decode cX0_run 13 = .ok (.if_icmp .ge 51, 3) := by decide +kernel
theorem dX0_run_16 : decode cX0_run 16 = .ok (.aload_n 0, 1) := by decide +kernel
theorem dX0_run_17 : decode cX0_run 17 = .ok (.iload_n 3, 1) := by decide +kernel
theorem dX0_run_18 : decode cX0_run 18 = .ok (.iload_n 1, 1) := by decide +kernel
theorem dX0_run_19 : decode cX0_run 19 = .ok (.invokevirtual 109, 3) := by decide +kernel
theorem dX0_run_22 : decode cX0_run 22 = .ok (.istore 4, 2) := by decide +kernel
theorem dX0_run_24 : decode cX0_run 24 = .ok (.iload_n 3, 1) := by decide +kernel
theorem dX0_run_25 : decode cX0_run 25 = .ok (.bipush 20, 2) := by decide +kernel
theorem dX0_run_27 : decode cX0_run 27 = .ok (.imul, 1) := by decide +kernel
theorem dX0_run_28 : decode cX0_run 28 = .ok (.iload_n 1, 1) := by decide +kernel
theorem dX0_run_29 : decode cX0_run 29 = .ok (.iadd, 1) := by decide +kernel
theorem dX0_run_30 : decode cX0_run 30 = .ok (.istore 5, 2) := by decide +kernel
theorem dX0_run_32 : decode cX0_run 32 = .ok (.iload_n 2, 1) := by decide +kernel
theorem dX0_run_33 : decode cX0_run 33 = .ok (.iload 4, 2) := by decide +kernel
theorem dX0_run_35 : decode cX0_run 35 = .ok (.aload_n 0, 1) := by decide +kernel
theorem dX0_run_36 : decode cX0_run 36 = .ok (.getfield 47, 3) := by decide +kernel
theorem dX0_run_39 : decode cX0_run 39 = .ok (.iload 5, 2) := by decide +kernel
theorem dX0_run_41 : decode cX0_run 41 = .ok (.invokestatic 79, 3) := by decide +kernel
theorem dX0_run_44 : decode cX0_run 44 = .ok (.isub, 1) := by decide +kernel
theorem dX0_run_45 : decode cX0_run 45 = .ok (.iadd, 1) := by decide +kernel
theorem dX0_run_46 : decode cX0_run 46 = .ok (.istore_n 2, 1) := by decide +kernel
theorem dX0_run_47 : decode cX0_run 47 = .ok (.aload_n 0, 1) := by decide +kernel
theorem dX0_run_48 : decode cX0_run 48 = .ok (.getfield 47, 3) := by decide +kernel
theorem dX0_run_51 : decode cX0_run 51 = .ok (.iload 5, 2) := by decide +kernel
theorem dX0_run_53 : decode cX0_run 53 = .ok (.iload 4, 2) := by decide +kernel
theorem dX0_run_55 : decode cX0_run 55 = .ok (.invokestatic 59, 3) := by decide +kernel
theorem dX0_run_58 : decode cX0_run 58 = .ok (.iinc 3 1, 3) := by decide +kernel
theorem dX0_run_61 : decode cX0_run 61 = .ok (.goto (-51), 3) := by decide +kernel
theorem dX0_run_64 : decode cX0_run 64 = .ok (.iconst 0, 1) := by decide +kernel
theorem dX0_run_65 : decode cX0_run 65 = .ok (.istore_n 3, 1) := by decide +kernel
theorem dX0_run_66 : decode cX0_run 66 = .ok (.iload_n 3, 1) := by decide +kernel
theorem dX0_run_67 : decode cX0_run 67 = .ok (.iconst 4, 1) := by decide +kernel
theorem dX0_run_68 : decode cX0_run 68 = .ok (.if_icmp .ge 28, 3) := by decide +kernel
theorem dX0_run_71 : decode cX0_run 71 = .ok (.aload_n 0, 1) := by decide +kernel
theorem dX0_run_72 : decode cX0_run 72 = .ok (.getfield 50, 3) := by decide +kernel
theorem dX0_run_75 : decode cX0_run 75 = .ok (.iload_n 3, 1) := by decide +kernel
theorem dX0_run_76 : decode cX0_run 76 = .ok (.bipush 20, 2) := by decide +kernel
theorem dX0_run_78 : decode cX0_run 78 = .ok (.imul, 1) := by decide +kernel
theorem dX0_run_79 : decode cX0_run 79 = .ok (.iload_n 1, 1) := by decide +kernel
theorem dX0_run_80 : decode cX0_run 80 = .ok (.iadd, 1) := by decide +kernel
theorem dX0_run_81 : decode cX0_run 81 = .ok (.aload_n 0, 1) := by decide +kernel
theorem dX0_run_82 : decode cX0_run 82 = .ok (.iload_n 3, 1) := by decide +kernel
theorem dX0_run_83 : decode cX0_run 83 = .ok (.iload_n 1, 1) := by decide +kernel
theorem dX0_run_84 : decode cX0_run 84 = .ok (.invokevirtual 116, 3) := by decide +kernel
theorem dX0_run_87 : decode cX0_run 87 = .ok (.invokestatic 59, 3) := by decide +kernel
theorem dX0_run_90 : decode cX0_run 90 = .ok (.iinc 3 1, 3) := by decide +kernel
theorem dX0_run_93 : decode cX0_run 93 = .ok (.goto (-27), 3) := by decide +kernel
theorem dX0_run_96 : decode cX0_run 96 = .ok (.iload_n 2, 1) := by decide +kernel
theorem dX0_run_97 : decode cX0_run 97 = .ok (.ireturn, 1) := by decide +kernel
set_option maxRecDepth 20000 in
theorem ggX0_paid_X0_needOneOf : GoodIn wsX0_paid wsX0_needOneOf := goodIn_ca (goodIn_r _ [5, 6, 7] (by decide +kernel) (by decide +kernel)) (goodIn_sub (fun _ h => List.mem_cons_of_mem _ (List.mem_append_right _ h)) (by decide +kernel))
set_option maxRecDepth 20000 in
theorem gX0_paid_X0_needOneOf : GoodIn wsX0_paid (va_wsS RX0 63 yX0_needOneOf wsX0_needOneOf) := goodIn_app (goodIn_of _ (by decide +kernel)) ggX0_paid_X0_needOneOf
set_option maxRecDepth 20000 in
theorem ggX0_paid_X0_at : GoodIn wsX0_paid wsX0_at := goodIn_r _ [10] (by decide +kernel) (by decide +kernel)
set_option maxRecDepth 20000 in
theorem gX0_paid_X0_at : GoodIn wsX0_paid (va_wsS RX0 79 yX0_at wsX0_at) := goodIn_app (goodIn_of _ (by decide +kernel)) ggX0_paid_X0_at
theorem dX0_paid_0 : decode cX0_paid 0 = .ok (.iload_n 1, 1) := by decide +kernel
theorem dX0_paid_1 : decode cX0_paid 1 = .ok (.bipush 6, 2) := by decide +kernel
theorem dX0_paid_3 : decode cX0_paid 3 = .ok (.invokestatic 63, 3) := by decide +kernel
theorem dX0_paid_6 : decode cX0_paid 6 = .ok (.iload_n 2, 1) := by decide +kernel
theorem dX0_paid_7 : decode cX0_paid 7 = .ok (.bipush 20, 2) := by decide +kernel
theorem dX0_paid_9 : decode cX0_paid 9 = .ok (.invokestatic 63, 3) := by decide +kernel
theorem dX0_paid_12 : decode cX0_paid 12 = .ok (.aload_n 0, 1) := by decide +kernel
theorem dX0_paid_13 : decode cX0_paid 13 = .ok (.getfield 47, 3) := by decide +kernel
theorem dX0_paid_16 : decode cX0_paid 16 = .ok (.iload_n 1, 1) := by decide +kernel
theorem dX0_paid_17 : decode cX0_paid 17 = .ok (.bipush 20, 2) := by decide +kernel
theorem dX0_paid_19 : decode cX0_paid 19 = .ok (.imul, 1) := by decide +kernel
theorem dX0_paid_20 : decode cX0_paid 20 = .ok (.iload_n 2, 1) := by decide +kernel
theorem dX0_paid_21 : decode cX0_paid 21 = .ok (.iadd, 1) := by decide +kernel
theorem dX0_paid_22 : decode cX0_paid 22 = .ok (.invokestatic 79, 3) := by decide +kernel
theorem dX0_paid_25 : decode cX0_paid 25 = .ok (.ireturn, 1) := by decide +kernel
set_option maxRecDepth 20000 in
theorem ggX0_billed_X0_needOneOf : GoodIn wsX0_billed wsX0_needOneOf := goodIn_ca (goodIn_r _ [5, 6, 7] (by decide +kernel) (by decide +kernel)) (goodIn_sub (fun _ h => List.mem_cons_of_mem _ (List.mem_append_right _ h)) (by decide +kernel))
set_option maxRecDepth 20000 in
theorem gX0_billed_X0_needOneOf : GoodIn wsX0_billed (va_wsS RX0 63 yX0_needOneOf wsX0_needOneOf) := goodIn_app (goodIn_of _ (by decide +kernel)) ggX0_billed_X0_needOneOf
set_option maxRecDepth 20000 in
theorem ggX0_billed_X0_at : GoodIn wsX0_billed wsX0_at := goodIn_r _ [10] (by decide +kernel) (by decide +kernel)
set_option maxRecDepth 20000 in
theorem gX0_billed_X0_at : GoodIn wsX0_billed (va_wsS RX0 79 yX0_at wsX0_at) := goodIn_app (goodIn_of _ (by decide +kernel)) ggX0_billed_X0_at
theorem dX0_billed_0 : decode cX0_billed 0 = .ok (.iload_n 1, 1) := by decide +kernel
theorem dX0_billed_1 : decode cX0_billed 1 = .ok (.iconst 4, 1) := by decide +kernel
theorem dX0_billed_2 : decode cX0_billed 2 = .ok (.invokestatic 63, 3) := by decide +kernel
theorem dX0_billed_5 : decode cX0_billed 5 = .ok (.iload_n 2, 1) := by decide +kernel
theorem dX0_billed_6 : decode cX0_billed 6 = .ok (.bipush 20, 2) := by decide +kernel
theorem dX0_billed_8 : decode cX0_billed 8 = .ok (.invokestatic 63, 3) := by decide +kernel
theorem dX0_billed_11 : decode cX0_billed 11 = .ok (.aload_n 0, 1) := by decide +kernel
theorem dX0_billed_12 : decode cX0_billed 12 = .ok (.getfield 50, 3) := by decide +kernel
theorem dX0_billed_15 : decode cX0_billed 15 = .ok (.iload_n 1, 1) := by decide +kernel
theorem dX0_billed_16 : decode cX0_billed 16 = .ok (.bipush 20, 2) := by decide +kernel
theorem dX0_billed_18 : decode cX0_billed 18 = .ok (.imul, 1) := by decide +kernel
theorem dX0_billed_19 : decode cX0_billed 19 = .ok (.iload_n 2, 1) := by decide +kernel
theorem dX0_billed_20 : decode cX0_billed 20 = .ok (.iadd, 1) := by decide +kernel
theorem dX0_billed_21 : decode cX0_billed 21 = .ok (.invokestatic 79, 3) := by decide +kernel
theorem dX0_billed_24 : decode cX0_billed 24 = .ok (.ireturn, 1) := by decide +kernel
set_option maxRecDepth 20000 in
theorem ggX0_owing_X0_needOneOf : GoodIn wsX0_owing wsX0_needOneOf := goodIn_ca (goodIn_r _ [5, 6, 7] (by decide +kernel) (by decide +kernel)) (goodIn_sub (fun _ h => List.mem_cons_of_mem _ (List.mem_append_right _ h)) (by decide +kernel))
set_option maxRecDepth 20000 in
theorem gX0_owing_X0_needOneOf : GoodIn wsX0_owing (va_wsS RX0 63 yX0_needOneOf wsX0_needOneOf) := goodIn_app (goodIn_of _ (by decide +kernel)) ggX0_owing_X0_needOneOf
set_option maxRecDepth 20000 in
theorem ggX0_owing_X0_weekPay : GoodIn wsX0_owing wsX0_weekPay := goodIn_r _ [11, 12, 13, 14, 15, 4, 16, 17, 18, 19, 20, 21, 22, 23, 24, 25, 26, 27, 28, 29, 30, 31, 32, 33, 34, 35, 36, 37, 38, 39, 40, 41, 42, 43, 44, 45, 46, 47, 48, 49, 50, 51, 52, 53, 54, 55, 56, 57, 58, 59, 60, 61, 62, 63, 64, 65, 66, 67, 68, 69, 70, 71, 72, 73, 74, 75, 76, 77, 78, 79, 80, 81, 82, 83, 84, 85, 86, 87, 88] (by decide +kernel) (by decide +kernel)
set_option maxRecDepth 20000 in
theorem gX0_owing_X0_weekPay : GoodIn wsX0_owing (wsV RX0 109 RX0 yX0_weekPay wsX0_weekPay) := goodIn_app (goodIn_of _ (by decide +kernel)) ggX0_owing_X0_weekPay
set_option maxRecDepth 20000 in
theorem ggX0_owing_X0_at : GoodIn wsX0_owing wsX0_at := goodIn_r _ [21] (by decide +kernel) (by decide +kernel)
set_option maxRecDepth 20000 in
theorem gX0_owing_X0_at : GoodIn wsX0_owing (va_wsS RX0 79 yX0_at wsX0_at) := goodIn_app (goodIn_of _ (by decide +kernel)) ggX0_owing_X0_at
theorem dX0_owing_0 : decode cX0_owing 0 = .ok (.iload_n 1, 1) := by decide +kernel
theorem dX0_owing_1 : decode cX0_owing 1 = .ok (.bipush 6, 2) := by decide +kernel
theorem dX0_owing_3 : decode cX0_owing 3 = .ok (.invokestatic 63, 3) := by decide +kernel
theorem dX0_owing_6 : decode cX0_owing 6 = .ok (.iload_n 2, 1) := by decide +kernel
theorem dX0_owing_7 : decode cX0_owing 7 = .ok (.bipush 20, 2) := by decide +kernel
theorem dX0_owing_9 : decode cX0_owing 9 = .ok (.invokestatic 63, 3) := by decide +kernel
theorem dX0_owing_12 : decode cX0_owing 12 = .ok (.aload_n 0, 1) := by decide +kernel
theorem dX0_owing_13 : decode cX0_owing 13 = .ok (.iload_n 1, 1) := by decide +kernel
theorem dX0_owing_14 : decode cX0_owing 14 = .ok (.iload_n 2, 1) := by decide +kernel
theorem dX0_owing_15 : decode cX0_owing 15 = .ok (.invokevirtual 109, 3) := by decide +kernel
theorem dX0_owing_18 : decode cX0_owing 18 = .ok (.aload_n 0, 1) := by decide +kernel
theorem dX0_owing_19 : decode cX0_owing 19 = .ok (.getfield 47, 3) := by decide +kernel
theorem dX0_owing_22 : decode cX0_owing 22 = .ok (.iload_n 1, 1) := by decide +kernel
theorem dX0_owing_23 : decode cX0_owing 23 = .ok (.bipush 20, 2) := by decide +kernel
theorem dX0_owing_25 : decode cX0_owing 25 = .ok (.imul, 1) := by decide +kernel
theorem dX0_owing_26 : decode cX0_owing 26 = .ok (.iload_n 2, 1) := by decide +kernel
theorem dX0_owing_27 : decode cX0_owing 27 = .ok (.iadd, 1) := by decide +kernel
theorem dX0_owing_28 : decode cX0_owing 28 = .ok (.invokestatic 79, 3) := by decide +kernel
theorem dX0_owing_31 : decode cX0_owing 31 = .ok (.isub, 1) := by decide +kernel
theorem dX0_owing_32 : decode cX0_owing 32 = .ok (.ireturn, 1) := by decide +kernel
set_option maxRecDepth 20000 in
theorem ggX0_toBill_X0_needOneOf : GoodIn wsX0_toBill wsX0_needOneOf := goodIn_ca (goodIn_r _ [5, 6, 7] (by decide +kernel) (by decide +kernel)) (goodIn_sub (fun _ h => List.mem_cons_of_mem _ (List.mem_append_right _ h)) (by decide +kernel))
set_option maxRecDepth 20000 in
theorem gX0_toBill_X0_needOneOf : GoodIn wsX0_toBill (va_wsS RX0 63 yX0_needOneOf wsX0_needOneOf) := goodIn_app (goodIn_of _ (by decide +kernel)) ggX0_toBill_X0_needOneOf
set_option maxRecDepth 20000 in
theorem ggX0_toBill_X0_weekCharge : GoodIn wsX0_toBill wsX0_weekCharge := goodIn_r _ [11, 12, 13, 14, 15, 4, 16, 17, 18, 19, 20, 21, 22, 23, 24, 25, 26, 27, 28, 29, 30, 31, 32, 33, 34, 35, 36, 37, 38, 39, 40, 41, 42, 43, 44, 45, 46, 47, 48, 49, 50, 51, 52, 53, 54, 55, 56, 57, 58, 59, 60, 61, 62, 63, 64, 65, 66, 67, 68, 69, 70, 71, 72, 73, 74, 75, 76, 77, 78, 79, 80, 81, 82, 83, 84, 85, 86, 87, 88, 89, 90, 91, 92, 93, 94, 95, 96, 97, 98, 99, 100, 101, 102, 103, 104, 105, 106] (by decide +kernel) (by decide +kernel)
set_option maxRecDepth 20000 in
theorem gX0_toBill_X0_weekCharge : GoodIn wsX0_toBill (wsV RX0 116 RX0 yX0_weekCharge wsX0_weekCharge) := goodIn_app (goodIn_of _ (by decide +kernel)) ggX0_toBill_X0_weekCharge
set_option maxRecDepth 20000 in
theorem ggX0_toBill_X0_at : GoodIn wsX0_toBill wsX0_at := goodIn_r _ [33] (by decide +kernel) (by decide +kernel)
set_option maxRecDepth 20000 in
theorem gX0_toBill_X0_at : GoodIn wsX0_toBill (va_wsS RX0 79 yX0_at wsX0_at) := goodIn_app (goodIn_of _ (by decide +kernel)) ggX0_toBill_X0_at
theorem dX0_toBill_0 : decode cX0_toBill 0 = .ok (.iload_n 1, 1) := by decide +kernel
theorem dX0_toBill_1 : decode cX0_toBill 1 = .ok (.iconst 4, 1) := by decide +kernel
theorem dX0_toBill_2 : decode cX0_toBill 2 = .ok (.invokestatic 63, 3) := by decide +kernel
theorem dX0_toBill_5 : decode cX0_toBill 5 = .ok (.iload_n 2, 1) := by decide +kernel
theorem dX0_toBill_6 : decode cX0_toBill 6 = .ok (.bipush 20, 2) := by decide +kernel
theorem dX0_toBill_8 : decode cX0_toBill 8 = .ok (.invokestatic 63, 3) := by decide +kernel
theorem dX0_toBill_11 : decode cX0_toBill 11 = .ok (.aload_n 0, 1) := by decide +kernel
theorem dX0_toBill_12 : decode cX0_toBill 12 = .ok (.iload_n 1, 1) := by decide +kernel
theorem dX0_toBill_13 : decode cX0_toBill 13 = .ok (.iload_n 2, 1) := by decide +kernel
theorem dX0_toBill_14 : decode cX0_toBill 14 = .ok (.invokevirtual 116, 3) := by decide +kernel
theorem dX0_toBill_17 : decode cX0_toBill 17 = .ok (.aload_n 0, 1) := by decide +kernel
theorem dX0_toBill_18 : decode cX0_toBill 18 = .ok (.getfield 50, 3) := by decide +kernel
theorem dX0_toBill_21 : decode cX0_toBill 21 = .ok (.iload_n 1, 1) := by decide +kernel
theorem dX0_toBill_22 : decode cX0_toBill 22 = .ok (.bipush 20, 2) := by decide +kernel
theorem dX0_toBill_24 : decode cX0_toBill 24 = .ok (.imul, 1) := by decide +kernel
theorem dX0_toBill_25 : decode cX0_toBill 25 = .ok (.iload_n 2, 1) := by decide +kernel
theorem dX0_toBill_26 : decode cX0_toBill 26 = .ok (.iadd, 1) := by decide +kernel
theorem dX0_toBill_27 : decode cX0_toBill 27 = .ok (.invokestatic 79, 3) := by decide +kernel
theorem dX0_toBill_30 : decode cX0_toBill 30 = .ok (.isub, 1) := by decide +kernel
theorem dX0_toBill_31 : decode cX0_toBill 31 = .ok (.ireturn, 1) := by decide +kernel
set_option maxRecDepth 20000 in
theorem ggX0_takeHoliday_X0_needOneOf : GoodIn wsX0_takeHoliday wsX0_needOneOf := goodIn_ca (goodIn_r _ [5, 6, 7] (by decide +kernel) (by decide +kernel)) (goodIn_sub (fun _ h => List.mem_cons_of_mem _ (List.mem_append_left _ (List.mem_append_left _ (List.mem_append_right _ h)))) (by decide +kernel))
set_option maxRecDepth 20000 in
theorem gX0_takeHoliday_X0_needOneOf : GoodIn wsX0_takeHoliday (va_wsS RX0 63 yX0_needOneOf wsX0_needOneOf) := goodIn_app (goodIn_of _ (by decide +kernel)) ggX0_takeHoliday_X0_needOneOf
set_option maxRecDepth 20000 in
theorem ggX0_takeHoliday_X0_needRange : GoodIn wsX0_takeHoliday wsX0_needRange := goodIn_ca (goodIn_r _ [10, 11, 12] (by decide +kernel) (by decide +kernel)) (goodIn_sub (fun _ h => List.mem_cons_of_mem _ (List.mem_append_left _ (List.mem_append_right _ h))) (by decide +kernel))
set_option maxRecDepth 20000 in
theorem gX0_takeHoliday_X0_needRange : GoodIn wsX0_takeHoliday (va_wsS RX0 67 yX0_needRange wsX0_needRange) := goodIn_app (goodIn_of _ (by decide +kernel)) ggX0_takeHoliday_X0_needRange
set_option maxRecDepth 20000 in
theorem ggX0_takeHoliday_X0_minutesLeft : GoodIn wsX0_takeHoliday wsX0_minutesLeft := goodIn_r _ [16, 17, 18, 19, 1, 20, 21, 4, 22, 31, 32, 33, 34, 35, 36, 37, 38, 39, 40, 41, 42, 43, 44, 45, 46] (by decide +kernel) (by decide +kernel)
set_option maxRecDepth 20000 in
theorem gX0_takeHoliday_X0_minutesLeft : GoodIn wsX0_takeHoliday (wsV RX0 83 RX0 yX0_minutesLeft wsX0_minutesLeft) := goodIn_app (goodIn_of _ (by decide +kernel)) ggX0_takeHoliday_X0_minutesLeft
set_option maxRecDepth 20000 in
theorem ggX0_takeHoliday_X0_needState : GoodIn wsX0_takeHoliday wsX0_needState := goodIn_ca (goodIn_r _ [25, 26, 27] (by decide +kernel) (by decide +kernel)) (goodIn_sub (fun _ h => List.mem_cons_of_mem _ (List.mem_append_right _ h)) (by decide +kernel))
set_option maxRecDepth 20000 in
theorem gX0_takeHoliday_X0_needState : GoodIn wsX0_takeHoliday (va_wsS RX0 71 yX0_needState wsX0_needState) := goodIn_app (goodIn_of _ (by decide +kernel)) ggX0_takeHoliday_X0_needState
set_option maxRecDepth 20000 in
theorem ggX0_takeHoliday_X0_at : GoodIn wsX0_takeHoliday wsX0_at := goodIn_r _ [22] (by decide +kernel) (by decide +kernel)
set_option maxRecDepth 20000 in
theorem gX0_takeHoliday_X0_at : GoodIn wsX0_takeHoliday (va_wsS RX0 79 yX0_at wsX0_at) := goodIn_app (goodIn_of _ (by decide +kernel)) ggX0_takeHoliday_X0_at
set_option maxRecDepth 20000 in
theorem ggX0_takeHoliday_X0_put : GoodIn wsX0_takeHoliday wsX0_put := goodIn_r _ [30] (by decide +kernel) (by decide +kernel)
set_option maxRecDepth 20000 in
theorem gX0_takeHoliday_X0_put : GoodIn wsX0_takeHoliday (va_wsS RX0 59 yX0_put wsX0_put) := goodIn_app (goodIn_of _ (by decide +kernel)) ggX0_takeHoliday_X0_put
theorem dX0_takeHoliday_0 : decode cX0_takeHoliday 0 = .ok (.iload_n 1, 1) := by decide +kernel
theorem dX0_takeHoliday_1 : decode cX0_takeHoliday 1 = .ok (.bipush 6, 2) := by decide +kernel
theorem dX0_takeHoliday_3 : decode cX0_takeHoliday 3 = .ok (.invokestatic 63, 3) := by decide +kernel
theorem dX0_takeHoliday_6 : decode cX0_takeHoliday 6 = .ok (.iload_n 2, 1) := by decide +kernel
theorem dX0_takeHoliday_7 : decode cX0_takeHoliday 7 = .ok (.iconst 1, 1) := by decide +kernel
theorem dX0_takeHoliday_8 : decode cX0_takeHoliday 8 = .ok (.sipush 10000, 3) := by decide +kernel
theorem dX0_takeHoliday_11 : decode cX0_takeHoliday 11 = .ok (.invokestatic 67, 3) := by decide +kernel
theorem dX0_takeHoliday_14 : decode cX0_takeHoliday 14 = .ok (.aload_n 0, 1) := by decide +kernel
theorem dX0_takeHoliday_15 : decode cX0_takeHoliday 15 = .ok (.iload_n 1, 1) := by decide +kernel
theorem dX0_takeHoliday_16 : decode cX0_takeHoliday 16 = .ok (.invokevirtual 83, 3) := by decide +kernel
theorem dX0_takeHoliday_19 : decode cX0_takeHoliday 19 = .ok (.istore_n 3, 1) := by decide +kernel
theorem dX0_takeHoliday_20 : decode cX0_takeHoliday 20 = .ok (.iload_n 2, 1) := by decide +kernel
theorem dX0_takeHoliday_21 : decode cX0_takeHoliday 21 = .ok (.iload_n 3, 1) := by decide +kernel
theorem dX0_takeHoliday_22 : decode cX0_takeHoliday 22 = .ok (.if_icmp .gt 7, 3) := by decide +kernel
theorem dX0_takeHoliday_25 : decode cX0_takeHoliday 25 = .ok (.iconst 1, 1) := by decide +kernel
theorem dX0_takeHoliday_26 : decode cX0_takeHoliday 26 = .ok (.goto 4, 3) := by decide +kernel
theorem dX0_takeHoliday_29 : decode cX0_takeHoliday 29 = .ok (.iconst 0, 1) := by decide +kernel
theorem dX0_takeHoliday_30 : decode cX0_takeHoliday 30 = .ok (.invokestatic 71, 3) := by decide +kernel
theorem dX0_takeHoliday_33 : decode cX0_takeHoliday 33 = .ok (.aload_n 0, 1) := by decide +kernel
theorem dX0_takeHoliday_34 : decode cX0_takeHoliday 34 = .ok (.getfield 53, 3) := by decide +kernel
theorem dX0_takeHoliday_37 : decode cX0_takeHoliday 37 = .ok (.iload_n 1, 1) := by decide +kernel
theorem dX0_takeHoliday_38 : decode cX0_takeHoliday 38 = .ok (.aload_n 0, 1) := by decide +kernel
theorem dX0_takeHoliday_39 : decode cX0_takeHoliday 39 = .ok (.getfield 53, 3) := by decide +kernel
theorem dX0_takeHoliday_42 : decode cX0_takeHoliday 42 = .ok (.iload_n 1, 1) := by decide +kernel
theorem dX0_takeHoliday_43 : decode cX0_takeHoliday 43 = .ok (.invokestatic 79, 3) := by decide +kernel
theorem dX0_takeHoliday_46 : decode cX0_takeHoliday 46 = .ok (.iload_n 2, 1) := by decide +kernel
theorem dX0_takeHoliday_47 : decode cX0_takeHoliday 47 = .ok (.iadd, 1) := by decide +kernel
theorem dX0_takeHoliday_48 : decode cX0_takeHoliday 48 = .ok (.invokestatic 59, 3) := by decide +kernel
theorem dX0_takeHoliday_51 : decode cX0_takeHoliday 51 = .ok (.iload_n 3, 1) := by decide +kernel
theorem dX0_takeHoliday_52 : decode cX0_takeHoliday 52 = .ok (.iload_n 2, 1) := by decide +kernel
theorem dX0_takeHoliday_53 : decode cX0_takeHoliday 53 = .ok (.isub, 1) := by decide +kernel
theorem dX0_takeHoliday_54 : decode cX0_takeHoliday 54 = .ok (.ireturn, 1) := by decide +kernel
set_option maxRecDepth 20000 in
theorem ggX0_holiday_X0_needOneOf : GoodIn wsX0_holiday wsX0_needOneOf := goodIn_ca (goodIn_r _ [4, 5, 6] (by decide +kernel) (by decide +kernel)) (goodIn_sub (fun _ h => List.mem_cons_of_mem _ (List.mem_append_right _ h)) (by decide +kernel))
set_option maxRecDepth 20000 in
theorem gX0_holiday_X0_needOneOf : GoodIn wsX0_holiday (va_wsS RX0 63 yX0_needOneOf wsX0_needOneOf) := goodIn_app (goodIn_of _ (by decide +kernel)) ggX0_holiday_X0_needOneOf
set_option maxRecDepth 20000 in
theorem ggX0_holiday_X0_minutesLeft : GoodIn wsX0_holiday wsX0_minutesLeft := goodIn_r _ [10, 11, 12, 13, 14, 15, 16, 3, 17, 18, 19, 20, 21, 22, 23, 24, 25, 26, 27, 28, 29, 30, 31, 32, 33] (by decide +kernel) (by decide +kernel)
set_option maxRecDepth 20000 in
theorem gX0_holiday_X0_minutesLeft : GoodIn wsX0_holiday (wsV RX0 83 RX0 yX0_minutesLeft wsX0_minutesLeft) := goodIn_app (goodIn_of _ (by decide +kernel)) ggX0_holiday_X0_minutesLeft
theorem dX0_holiday_0 : decode cX0_holiday 0 = .ok (.iload_n 1, 1) := by decide +kernel
theorem dX0_holiday_1 : decode cX0_holiday 1 = .ok (.bipush 6, 2) := by decide +kernel
theorem dX0_holiday_3 : decode cX0_holiday 3 = .ok (.invokestatic 63, 3) := by decide +kernel
theorem dX0_holiday_6 : decode cX0_holiday 6 = .ok (.aload_n 0, 1) := by decide +kernel
theorem dX0_holiday_7 : decode cX0_holiday 7 = .ok (.iload_n 1, 1) := by decide +kernel
theorem dX0_holiday_8 : decode cX0_holiday 8 = .ok (.invokevirtual 83, 3) := by decide +kernel
theorem dX0_holiday_11 : decode cX0_holiday 11 = .ok (.ireturn, 1) := by decide +kernel
theorem dX0_weekOf_0 : decode cX0_weekOf 0 = .ok (.iload_n 0, 1) := by decide +kernel
theorem dX0_weekOf_1 : decode cX0_weekOf 1 = .ok (.bipush 7, 2) := by decide +kernel
theorem dX0_weekOf_3 : decode cX0_weekOf 3 = .ok (.idiv, 1) := by decide +kernel
theorem dX0_weekOf_4 : decode cX0_weekOf 4 = .ok (.ireturn, 1) := by decide +kernel
set_option maxRecDepth 20000 in
theorem ggX0_isOfWorker_X0_at : GoodIn wsX0_isOfWorker wsX0_at := goodIn_r _ [6] (by decide +kernel) (by decide +kernel)
set_option maxRecDepth 20000 in
theorem gX0_isOfWorker_X0_at : GoodIn wsX0_isOfWorker (va_wsS RX0 79 yX0_at wsX0_at) := goodIn_app (goodIn_of _ (by decide +kernel)) ggX0_isOfWorker_X0_at
set_option maxRecDepth 20000 in
theorem ggX0_isOfWorker_X0_weekOf : GoodIn wsX0_isOfWorker wsX0_weekOf := goodIn_r _ [9] (by decide +kernel) (by decide +kernel)
set_option maxRecDepth 20000 in
theorem gX0_isOfWorker_X0_weekOf : GoodIn wsX0_isOfWorker (va_wsS RX0 100 yX0_weekOf wsX0_weekOf) := goodIn_app (goodIn_of _ (by decide +kernel)) ggX0_isOfWorker_X0_weekOf
theorem dX0_isOfWorker_0 : decode cX0_isOfWorker 0 = .ok (.aload_n 0, 1) := by decide +kernel
theorem dX0_isOfWorker_1 : decode cX0_isOfWorker 1 = .ok (.getfield 35, 3) := by decide +kernel
theorem dX0_isOfWorker_4 : decode cX0_isOfWorker 4 = .ok (.iload_n 1, 1) := by decide +kernel
theorem dX0_isOfWorker_5 : decode cX0_isOfWorker 5 = .ok (.invokestatic 79, 3) := by decide +kernel
theorem dX0_isOfWorker_8 : decode cX0_isOfWorker 8 = .ok (.iload_n 2, 1) := by decide +kernel
theorem dX0_isOfWorker_9 : decode cX0_isOfWorker 9 = .ok (.if_icmp .ne 22, 3) := by decide +kernel
theorem dX0_isOfWorker_12 : decode cX0_isOfWorker 12 = .ok (.aload_n 0, 1) := by decide +kernel
theorem dX0_isOfWorker_13 : decode cX0_isOfWorker 13 = .ok (.getfield 41, 3) := by decide +kernel
theorem dX0_isOfWorker_16 : decode cX0_isOfWorker 16 = .ok (.iload_n 1, 1) := by decide +kernel
theorem dX0_isOfWorker_17 : decode cX0_isOfWorker 17 = .ok (.invokestatic 79, 3) := by decide +kernel
theorem dX0_isOfWorker_20 : decode cX0_isOfWorker 20 = .ok (.invokestatic 100, 3) := by decide +kernel
theorem dX0_isOfWorker_23 : decode cX0_isOfWorker 23 = .ok (.iload_n 3, 1) := by decide +kernel
theorem dX0_isOfWorker_24 : decode cX0_isOfWorker 24 = .ok (.if_icmp .ne 7, 3) := by decide +kernel
theorem dX0_isOfWorker_27 : decode cX0_isOfWorker 27 = .ok (.iconst 1, 1) := by decide +kernel
theorem dX0_isOfWorker_28 : decode cX0_isOfWorker 28 = .ok (.goto 4, 3) := by decide +kernel
theorem dX0_isOfWorker_31 : decode cX0_isOfWorker 31 = .ok (.iconst 0, 1) := by decide +kernel
theorem dX0_isOfWorker_32 : decode cX0_isOfWorker 32 = .ok (.ireturn, 1) := by decide +kernel
set_option maxRecDepth 20000 in
theorem ggX0_isAtSite_X0_at : GoodIn wsX0_isAtSite wsX0_at := goodIn_r _ [6] (by decide +kernel) (by decide +kernel)
set_option maxRecDepth 20000 in
theorem gX0_isAtSite_X0_at : GoodIn wsX0_isAtSite (va_wsS RX0 79 yX0_at wsX0_at) := goodIn_app (goodIn_of _ (by decide +kernel)) ggX0_isAtSite_X0_at
set_option maxRecDepth 20000 in
theorem ggX0_isAtSite_X0_weekOf : GoodIn wsX0_isAtSite wsX0_weekOf := goodIn_r _ [9] (by decide +kernel) (by decide +kernel)
set_option maxRecDepth 20000 in
theorem gX0_isAtSite_X0_weekOf : GoodIn wsX0_isAtSite (va_wsS RX0 100 yX0_weekOf wsX0_weekOf) := goodIn_app (goodIn_of _ (by decide +kernel)) ggX0_isAtSite_X0_weekOf
theorem dX0_isAtSite_0 : decode cX0_isAtSite 0 = .ok (.aload_n 0, 1) := by decide +kernel
theorem dX0_isAtSite_1 : decode cX0_isAtSite 1 = .ok (.getfield 38, 3) := by decide +kernel
theorem dX0_isAtSite_4 : decode cX0_isAtSite 4 = .ok (.iload_n 1, 1) := by decide +kernel
theorem dX0_isAtSite_5 : decode cX0_isAtSite 5 = .ok (.invokestatic 79, 3) := by decide +kernel
theorem dX0_isAtSite_8 : decode cX0_isAtSite 8 = .ok (.iload_n 2, 1) := by decide +kernel
theorem dX0_isAtSite_9 : decode cX0_isAtSite 9 = .ok (.if_icmp .ne 22, 3) := by decide +kernel
theorem dX0_isAtSite_12 : decode cX0_isAtSite 12 = .ok (.aload_n 0, 1) := by decide +kernel
theorem dX0_isAtSite_13 : decode cX0_isAtSite 13 = .ok (.getfield 41, 3) := by decide +kernel
theorem dX0_isAtSite_16 : decode cX0_isAtSite 16 = .ok (.iload_n 1, 1) := by decide +kernel
theorem dX0_isAtSite_17 : decode cX0_isAtSite 17 = .ok (.invokestatic 79, 3) := by decide +kernel
theorem dX0_isAtSite_20 : decode cX0_isAtSite 20 = .ok (.invokestatic 100, 3) := by decide +kernel
theorem dX0_isAtSite_23 : decode cX0_isAtSite 23 = .ok (.iload_n 3, 1) := by decide +kernel
theorem dX0_isAtSite_24 : decode cX0_isAtSite 24 = .ok (.if_icmp .ne 7, 3) := by decide +kernel
theorem dX0_isAtSite_27 : decode cX0_isAtSite 27 = .ok (.iconst 1, 1) := by decide +kernel
theorem dX0_isAtSite_28 : decode cX0_isAtSite 28 = .ok (.goto 4, 3) := by decide +kernel
theorem dX0_isAtSite_31 : decode cX0_isAtSite 31 = .ok (.iconst 0, 1) := by decide +kernel
theorem dX0_isAtSite_32 : decode cX0_isAtSite 32 = .ok (.ireturn, 1) := by decide +kernel
set_option maxRecDepth 20000 in
theorem ggX0_hoursOnDay_X0_at : GoodIn wsX0_hoursOnDay wsX0_at := goodIn_r _ [8] (by decide +kernel) (by decide +kernel)
set_option maxRecDepth 20000 in
theorem gX0_hoursOnDay_X0_at : GoodIn wsX0_hoursOnDay (va_wsS RX0 79 yX0_at wsX0_at) := goodIn_app (goodIn_of _ (by decide +kernel)) ggX0_hoursOnDay_X0_at
theorem dX0_hoursOnDay_0 : decode cX0_hoursOnDay 0 = .ok (.iconst 0, 1) := by decide +kernel
theorem dX0_hoursOnDay_1 : decode cX0_hoursOnDay 1 = .ok (.istore_n 3, 1) := by decide +kernel
theorem dX0_hoursOnDay_2 : decode cX0_hoursOnDay 2 = .ok (.iconst 0, 1) := by decide +kernel
theorem dX0_hoursOnDay_3 : decode cX0_hoursOnDay 3 = .ok (.istore 4, 2) := by decide +kernel
theorem dX0_hoursOnDay_5 : decode cX0_hoursOnDay 5 = .ok (.iload 4, 2) := by decide +kernel
theorem dX0_hoursOnDay_7 : decode cX0_hoursOnDay 7 = .ok (.aload_n 0, 1) := by decide +kernel
theorem dX0_hoursOnDay_8 : decode cX0_hoursOnDay 8 = .ok (.getfield 32, 3) := by decide +kernel
theorem dX0_hoursOnDay_11 : decode cX0_hoursOnDay 11 = .ok (.if_icmp .ge 47, 3) := by decide +kernel
theorem dX0_hoursOnDay_14 : decode cX0_hoursOnDay 14 = .ok (.aload_n 0, 1) := by decide +kernel
theorem dX0_hoursOnDay_15 : decode cX0_hoursOnDay 15 = .ok (.getfield 35, 3) := by decide +kernel
theorem dX0_hoursOnDay_18 : decode cX0_hoursOnDay 18 = .ok (.iload 4, 2) := by decide +kernel
theorem dX0_hoursOnDay_20 : decode cX0_hoursOnDay 20 = .ok (.invokestatic 79, 3) := by decide +kernel
theorem dX0_hoursOnDay_23 : decode cX0_hoursOnDay 23 = .ok (.iload_n 1, 1) := by decide +kernel
theorem dX0_hoursOnDay_24 : decode cX0_hoursOnDay 24 = .ok (.if_icmp .ne 28, 3) := by decide +kernel
theorem dX0_hoursOnDay_27 : decode cX0_hoursOnDay 27 = .ok (.aload_n 0, 1) := by decide +kernel
theorem dX0_hoursOnDay_28 : decode cX0_hoursOnDay 28 = .ok (.getfield 41, 3) := by decide +kernel
theorem dX0_hoursOnDay_31 : decode cX0_hoursOnDay 31 = .ok (.iload 4, 2) := by decide +kernel
theorem dX0_hoursOnDay_33 : decode cX0_hoursOnDay 33 = .ok (.invokestatic 79, 3) := by decide +kernel
theorem dX0_hoursOnDay_36 : decode cX0_hoursOnDay 36 = .ok (.iload_n 2, 1) := by decide +kernel
theorem dX0_hoursOnDay_37 : decode cX0_hoursOnDay 37 = .ok (.if_icmp .ne 15, 3) := by decide +kernel
theorem dX0_hoursOnDay_40 : decode cX0_hoursOnDay 40 = .ok (.iload_n 3, 1) := by decide +kernel
theorem dX0_hoursOnDay_41 : decode cX0_hoursOnDay 41 = .ok (.aload_n 0, 1) := by decide +kernel
theorem dX0_hoursOnDay_42 : decode cX0_hoursOnDay 42 = .ok (.getfield 44, 3) := by decide +kernel
theorem dX0_hoursOnDay_45 : decode cX0_hoursOnDay 45 = .ok (.iload 4, 2) := by decide +kernel
theorem dX0_hoursOnDay_47 : decode cX0_hoursOnDay 47 = .ok (.invokestatic 79, 3) := by decide +kernel
theorem dX0_hoursOnDay_50 : decode cX0_hoursOnDay 50 = .ok (.iadd, 1) := by decide +kernel
theorem dX0_hoursOnDay_51 : decode cX0_hoursOnDay 51 = .ok (.istore_n 3, 1) := by decide +kernel
theorem dX0_hoursOnDay_52 : decode cX0_hoursOnDay 52 = .ok (.iinc 4 1, 3) := by decide +kernel
theorem dX0_hoursOnDay_55 : decode cX0_hoursOnDay 55 = .ok (.goto (-50), 3) := by decide +kernel
theorem dX0_hoursOnDay_58 : decode cX0_hoursOnDay 58 = .ok (.iload_n 3, 1) := by decide +kernel
theorem dX0_hoursOnDay_59 : decode cX0_hoursOnDay 59 = .ok (.ireturn, 1) := by decide +kernel
set_option maxRecDepth 20000 in
theorem ggX0_hoursAtSite_X0_isAtSite : GoodIn wsX0_hoursAtSite wsX0_isAtSite := goodIn_r _ [7, 8, 9, 10, 11, 6, 12, 13, 14, 15, 16, 17, 18, 19, 20, 21, 22, 23, 24, 25, 26, 27, 28, 29, 30, 31] (by decide +kernel) (by decide +kernel)
set_option maxRecDepth 20000 in
theorem gX0_hoursAtSite_X0_isAtSite : GoodIn wsX0_hoursAtSite (wsV RX0 119 RX0 yX0_isAtSite wsX0_isAtSite) := goodIn_app (goodIn_of _ (by decide +kernel)) ggX0_hoursAtSite_X0_isAtSite
set_option maxRecDepth 20000 in
theorem ggX0_hoursAtSite_X0_at : GoodIn wsX0_hoursAtSite wsX0_at := goodIn_r _ [12] (by decide +kernel) (by decide +kernel)
set_option maxRecDepth 20000 in
theorem gX0_hoursAtSite_X0_at : GoodIn wsX0_hoursAtSite (va_wsS RX0 79 yX0_at wsX0_at) := goodIn_app (goodIn_of _ (by decide +kernel)) ggX0_hoursAtSite_X0_at
theorem dX0_hoursAtSite_0 : decode cX0_hoursAtSite 0 = .ok (.iconst 0, 1) := by decide +kernel
theorem dX0_hoursAtSite_1 : decode cX0_hoursAtSite 1 = .ok (.istore_n 3, 1) := by decide +kernel
theorem dX0_hoursAtSite_2 : decode cX0_hoursAtSite 2 = .ok (.iconst 0, 1) := by decide +kernel
theorem dX0_hoursAtSite_3 : decode cX0_hoursAtSite 3 = .ok (.istore 4, 2) := by decide +kernel
theorem dX0_hoursAtSite_5 : decode cX0_hoursAtSite 5 = .ok (.iload 4, 2) := by decide +kernel
theorem dX0_hoursAtSite_7 : decode cX0_hoursAtSite 7 = .ok (.aload_n 0, 1) := by decide +kernel
theorem dX0_hoursAtSite_8 : decode cX0_hoursAtSite 8 = .ok (.getfield 32, 3) := by decide +kernel
theorem dX0_hoursAtSite_11 : decode cX0_hoursAtSite 11 = .ok (.if_icmp .ge 32, 3) := by decide +kernel
theorem dX0_hoursAtSite_14 : decode cX0_hoursAtSite 14 = .ok (.aload_n 0, 1) := by decide +kernel
theorem dX0_hoursAtSite_15 : decode cX0_hoursAtSite 15 = .ok (.iload 4, 2) := by decide +kernel
theorem dX0_hoursAtSite_17 : decode cX0_hoursAtSite 17 = .ok (.iload_n 1, 1) := by decide +kernel
theorem dX0_hoursAtSite_18 : decode cX0_hoursAtSite 18 = .ok (.iload_n 2, 1) := by decide +kernel
theorem dX0_hoursAtSite_19 : decode cX0_hoursAtSite 19 = .ok (.invokevirtual 119, 3) := by decide +kernel
theorem dX0_hoursAtSite_22 : decode cX0_hoursAtSite 22 = .ok (.ifCond .eq 15, 3) := by decide +kernel
theorem dX0_hoursAtSite_25 : decode cX0_hoursAtSite 25 = .ok (.iload_n 3, 1) := by decide +kernel
theorem dX0_hoursAtSite_26 : decode cX0_hoursAtSite 26 = .ok (.aload_n 0, 1) := by decide +kernel
theorem dX0_hoursAtSite_27 : decode cX0_hoursAtSite 27 = .ok (.getfield 44, 3) := by decide +kernel
theorem dX0_hoursAtSite_30 : decode cX0_hoursAtSite 30 = .ok (.iload 4, 2) := by decide +kernel
theorem dX0_hoursAtSite_32 : decode cX0_hoursAtSite 32 = .ok (.invokestatic 79, 3) := by decide +kernel
theorem dX0_hoursAtSite_35 : decode cX0_hoursAtSite 35 = .ok (.iadd, 1) := by decide +kernel
theorem dX0_hoursAtSite_36 : decode cX0_hoursAtSite 36 = .ok (.istore_n 3, 1) := by decide +kernel
theorem dX0_hoursAtSite_37 : decode cX0_hoursAtSite 37 = .ok (.iinc 4 1, 3) := by decide +kernel
theorem dX0_hoursAtSite_40 : decode cX0_hoursAtSite 40 = .ok (.goto (-35), 3) := by decide +kernel
theorem dX0_hoursAtSite_43 : decode cX0_hoursAtSite 43 = .ok (.iload_n 3, 1) := by decide +kernel
theorem dX0_hoursAtSite_44 : decode cX0_hoursAtSite 44 = .ok (.ireturn, 1) := by decide +kernel
set_option maxRecDepth 20000 in
theorem ggX0_minutesLeft_X0_at : GoodIn wsX0_minutesLeft wsX0_at := goodIn_r _ [8] (by decide +kernel) (by decide +kernel)
set_option maxRecDepth 20000 in
theorem gX0_minutesLeft_X0_at : GoodIn wsX0_minutesLeft (va_wsS RX0 79 yX0_at wsX0_at) := goodIn_app (goodIn_of _ (by decide +kernel)) ggX0_minutesLeft_X0_at
theorem dX0_minutesLeft_0 : decode cX0_minutesLeft 0 = .ok (.iconst 0, 1) := by decide +kernel
theorem dX0_minutesLeft_1 : decode cX0_minutesLeft 1 = .ok (.istore_n 2, 1) := by decide +kernel
theorem dX0_minutesLeft_2 : decode cX0_minutesLeft 2 = .ok (.iconst 0, 1) := by decide +kernel
theorem dX0_minutesLeft_3 : decode cX0_minutesLeft 3 = .ok (.istore_n 3, 1) := by decide +kernel
theorem dX0_minutesLeft_4 : decode cX0_minutesLeft 4 = .ok (.iload_n 3, 1) := by decide +kernel
theorem dX0_minutesLeft_5 : decode cX0_minutesLeft 5 = .ok (.aload_n 0, 1) := by decide +kernel
theorem dX0_minutesLeft_6 : decode cX0_minutesLeft 6 = .ok (.getfield 32, 3) := by decide +kernel
theorem dX0_minutesLeft_9 : decode cX0_minutesLeft 9 = .ok (.if_icmp .ge 32, 3) := by decide +kernel
theorem dX0_minutesLeft_12 : decode cX0_minutesLeft 12 = .ok (.aload_n 0, 1) := by decide +kernel
theorem dX0_minutesLeft_13 : decode cX0_minutesLeft 13 = .ok (.getfield 35, 3) := by decide +kernel
theorem dX0_minutesLeft_16 : decode cX0_minutesLeft 16 = .ok (.iload_n 3, 1) := by decide +kernel
theorem dX0_minutesLeft_17 : decode cX0_minutesLeft 17 = .ok (.invokestatic 79, 3) := by decide +kernel
theorem dX0_minutesLeft_20 : decode cX0_minutesLeft 20 = .ok (.iload_n 1, 1) := by decide +kernel
theorem dX0_minutesLeft_21 : decode cX0_minutesLeft 21 = .ok (.if_icmp .ne 14, 3) := by decide +kernel
theorem dX0_minutesLeft_24 : decode cX0_minutesLeft 24 = .ok (.iload_n 2, 1) := by decide +kernel
theorem dX0_minutesLeft_25 : decode cX0_minutesLeft 25 = .ok (.aload_n 0, 1) := by decide +kernel
theorem dX0_minutesLeft_26 : decode cX0_minutesLeft 26 = .ok (.getfield 44, 3) := by decide +kernel
theorem dX0_minutesLeft_29 : decode cX0_minutesLeft 29 = .ok (.iload_n 3, 1) := by decide +kernel
theorem dX0_minutesLeft_30 : decode cX0_minutesLeft 30 = .ok (.invokestatic 79, 3) := by decide +kernel
theorem dX0_minutesLeft_33 : decode cX0_minutesLeft 33 = .ok (.iadd, 1) := by decide +kernel
theorem dX0_minutesLeft_34 : decode cX0_minutesLeft 34 = .ok (.istore_n 2, 1) := by decide +kernel
theorem dX0_minutesLeft_35 : decode cX0_minutesLeft 35 = .ok (.iinc 3 1, 3) := by decide +kernel
theorem dX0_minutesLeft_38 : decode cX0_minutesLeft 38 = .ok (.goto (-34), 3) := by decide +kernel
theorem dX0_minutesLeft_41 : decode cX0_minutesLeft 41 = .ok (.bipush 7, 2) := by decide +kernel
theorem dX0_minutesLeft_43 : decode cX0_minutesLeft 43 = .ok (.iload_n 2, 1) := by decide +kernel
theorem dX0_minutesLeft_44 : decode cX0_minutesLeft 44 = .ok (.imul, 1) := by decide +kernel
theorem dX0_minutesLeft_45 : decode cX0_minutesLeft 45 = .ok (.aload_n 0, 1) := by decide +kernel
theorem dX0_minutesLeft_46 : decode cX0_minutesLeft 46 = .ok (.getfield 53, 3) := by decide +kernel
theorem dX0_minutesLeft_49 : decode cX0_minutesLeft 49 = .ok (.iload_n 1, 1) := by decide +kernel
theorem dX0_minutesLeft_50 : decode cX0_minutesLeft 50 = .ok (.invokestatic 79, 3) := by decide +kernel
theorem dX0_minutesLeft_53 : decode cX0_minutesLeft 53 = .ok (.isub, 1) := by decide +kernel
theorem dX0_minutesLeft_54 : decode cX0_minutesLeft 54 = .ok (.ireturn, 1) := by decide +kernel
set_option maxRecDepth 20000 in
theorem ggX0_overtimeHours_X0_fillAheadOnDay : GoodIn wsX0_overtimeHours wsX0_fillAheadOnDay := goodIn_r _ [15, 16, 3, 2, 17, 1, 18, 19, 14, 20, 21, 22, 23, 24, 25, 26, 27, 28, 29, 30, 38, 39, 40, 41, 42, 43, 44, 45, 46, 47, 48, 49, 50, 51, 52, 53] (by decide +kernel) (by decide +kernel)
set_option maxRecDepth 20000 in
theorem gX0_overtimeHours_X0_fillAheadOnDay : GoodIn wsX0_overtimeHours (wsV RX0 122 RX0 yX0_fillAheadOnDay wsX0_fillAheadOnDay) := goodIn_app (goodIn_of _ (by decide +kernel)) ggX0_overtimeHours_X0_fillAheadOnDay
set_option maxRecDepth 20000 in
theorem ggX0_overtimeHours_X0_at : GoodIn wsX0_overtimeHours wsX0_at := goodIn_r _ [20] (by decide +kernel) (by decide +kernel)
set_option maxRecDepth 20000 in
theorem gX0_overtimeHours_X0_at : GoodIn wsX0_overtimeHours (va_wsS RX0 79 yX0_at wsX0_at) := goodIn_app (goodIn_of _ (by decide +kernel)) ggX0_overtimeHours_X0_at
set_option maxRecDepth 20000 in
theorem ggX0_overtimeHours_X0_plainOfDay : GoodIn wsX0_overtimeHours wsX0_plainOfDay := goodIn_r _ [33, 8, 9, 6, 10] (by decide +kernel) (by decide +kernel)
set_option maxRecDepth 20000 in
theorem gX0_overtimeHours_X0_plainOfDay : GoodIn wsX0_overtimeHours (va_wsS RX0 126 yX0_plainOfDay wsX0_plainOfDay) := goodIn_app (goodIn_of _ (by decide +kernel)) ggX0_overtimeHours_X0_plainOfDay
set_option maxRecDepth 20000 in
theorem ggX0_overtimeHours_X0_plainByDayAhead : GoodIn wsX0_overtimeHours wsX0_plainByDayAhead := goodIn_r _ [37, 2, 18, 19, 14, 20, 31, 32, 33, 8, 9, 6, 10, 38, 39, 40, 41, 42, 43, 44, 45, 46, 47, 48, 49, 50, 51, 52, 53] (by decide +kernel) (by decide +kernel)
set_option maxRecDepth 20000 in
theorem gX0_overtimeHours_X0_plainByDayAhead : GoodIn wsX0_overtimeHours (wsV RX0 129 RX0 yX0_plainByDayAhead wsX0_plainByDayAhead) := goodIn_app (goodIn_of _ (by decide +kernel)) ggX0_overtimeHours_X0_plainByDayAhead
theorem dX0_overtimeHours_0 : decode cX0_overtimeHours 0 = .ok (.aload_n 0, 1) := by decide +kernel
theorem dX0_overtimeHours_1 : decode cX0_overtimeHours 1 = .ok (.iload_n 1, 1) := by decide +kernel
theorem dX0_overtimeHours_2 : decode cX0_overtimeHours 2 = .ok (.invokevirtual 122, 3) := by decide +kernel
theorem dX0_overtimeHours_5 : decode cX0_overtimeHours 5 = .ok (.aload_n 0, 1) := by decide +kernel
theorem dX0_overtimeHours_6 : decode cX0_overtimeHours 6 = .ok (.getfield 44, 3) := by decide +kernel
theorem dX0_overtimeHours_9 : decode cX0_overtimeHours 9 = .ok (.iload_n 1, 1) := by decide +kernel
theorem dX0_overtimeHours_10 : decode cX0_overtimeHours 10 = .ok (.invokestatic 79, 3) := by decide +kernel
theorem dX0_overtimeHours_13 : decode cX0_overtimeHours 13 = .ok (.istore_n 2, 1) := by decide +kernel
theorem dX0_overtimeHours_14 : decode cX0_overtimeHours 14 = .ok (.aload_n 0, 1) := by decide +kernel
theorem dX0_overtimeHours_15 : decode cX0_overtimeHours 15 = .ok (.getfield 56, 3) := by decide +kernel
theorem dX0_overtimeHours_18 : decode cX0_overtimeHours 18 = .ok (.aload_n 0, 1) := by decide +kernel
theorem dX0_overtimeHours_19 : decode cX0_overtimeHours 19 = .ok (.getfield 41, 3) := by decide +kernel
theorem dX0_overtimeHours_22 : decode cX0_overtimeHours 22 = .ok (.iload_n 1, 1) := by decide +kernel
theorem dX0_overtimeHours_23 : decode cX0_overtimeHours 23 = .ok (.invokestatic 79, 3) := by decide +kernel
theorem dX0_overtimeHours_26 : decode cX0_overtimeHours 26 = .ok (.bipush 7, 2) := by decide +kernel
theorem dX0_overtimeHours_28 : decode cX0_overtimeHours 28 = .ok (.irem, 1) := by decide +kernel
theorem dX0_overtimeHours_29 : decode cX0_overtimeHours 29 = .ok (.invokestatic 79, 3) := by decide +kernel
theorem dX0_overtimeHours_32 : decode cX0_overtimeHours 32 = .ok (.istore_n 3, 1) := by decide +kernel
theorem dX0_overtimeHours_33 : decode cX0_overtimeHours 33 = .ok (.iload_n 3, 1) := by decide +kernel
theorem dX0_overtimeHours_34 : decode cX0_overtimeHours 34 = .ok (.iload_n 2, 1) := by decide +kernel
theorem dX0_overtimeHours_35 : decode cX0_overtimeHours 35 = .ok (.iadd, 1) := by decide +kernel
theorem dX0_overtimeHours_36 : decode cX0_overtimeHours 36 = .ok (.invokestatic 126, 3) := by decide +kernel
theorem dX0_overtimeHours_39 : decode cX0_overtimeHours 39 = .ok (.iload_n 3, 1) := by decide +kernel
theorem dX0_overtimeHours_40 : decode cX0_overtimeHours 40 = .ok (.invokestatic 126, 3) := by decide +kernel
theorem dX0_overtimeHours_43 : decode cX0_overtimeHours 43 = .ok (.isub, 1) := by decide +kernel
theorem dX0_overtimeHours_44 : decode cX0_overtimeHours 44 = .ok (.istore 4, 2) := by decide +kernel
theorem dX0_overtimeHours_46 : decode cX0_overtimeHours 46 = .ok (.iconst 0, 1) := by decide +kernel
theorem dX0_overtimeHours_47 : decode cX0_overtimeHours 47 = .ok (.bipush 40, 2) := by decide +kernel
theorem dX0_overtimeHours_49 : decode cX0_overtimeHours 49 = .ok (.aload_n 0, 1) := by decide +kernel
theorem dX0_overtimeHours_50 : decode cX0_overtimeHours 50 = .ok (.invokevirtual 129, 3) := by decide +kernel
theorem dX0_overtimeHours_53 : decode cX0_overtimeHours 53 = .ok (.isub, 1) := by decide +kernel
theorem dX0_overtimeHours_54 : decode cX0_overtimeHours 54 = .ok (.invokestatic 133, 3) := by decide +kernel
theorem dX0_overtimeHours_57 : decode cX0_overtimeHours 57 = .ok (.istore 5, 2) := by decide +kernel
theorem dX0_overtimeHours_59 : decode cX0_overtimeHours 59 = .ok (.iload_n 2, 1) := by decide +kernel
theorem dX0_overtimeHours_60 : decode cX0_overtimeHours 60 = .ok (.iload 4, 2) := by decide +kernel
theorem dX0_overtimeHours_62 : decode cX0_overtimeHours 62 = .ok (.iload 5, 2) := by decide +kernel
theorem dX0_overtimeHours_64 : decode cX0_overtimeHours 64 = .ok (.invokestatic 138, 3) := by decide +kernel
theorem dX0_overtimeHours_67 : decode cX0_overtimeHours 67 = .ok (.isub, 1) := by decide +kernel
theorem dX0_overtimeHours_68 : decode cX0_overtimeHours 68 = .ok (.ireturn, 1) := by decide +kernel
set_option maxRecDepth 20000 in
theorem ggX0_fillAheadOnDay_X0_at : GoodIn wsX0_fillAheadOnDay wsX0_at := goodIn_r _ [9] (by decide +kernel) (by decide +kernel)
set_option maxRecDepth 20000 in
theorem gX0_fillAheadOnDay_X0_at : GoodIn wsX0_fillAheadOnDay (va_wsS RX0 79 yX0_at wsX0_at) := goodIn_app (goodIn_of _ (by decide +kernel)) ggX0_fillAheadOnDay_X0_at
set_option maxRecDepth 20000 in
theorem ggX0_fillAheadOnDay_X0_weekOf : GoodIn wsX0_fillAheadOnDay wsX0_weekOf := goodIn_r _ [12] (by decide +kernel) (by decide +kernel)
set_option maxRecDepth 20000 in
theorem gX0_fillAheadOnDay_X0_weekOf : GoodIn wsX0_fillAheadOnDay (va_wsS RX0 100 yX0_weekOf wsX0_weekOf) := goodIn_app (goodIn_of _ (by decide +kernel)) ggX0_fillAheadOnDay_X0_weekOf
set_option maxRecDepth 20000 in
theorem ggX0_fillAheadOnDay_X0_put : GoodIn wsX0_fillAheadOnDay wsX0_put := goodIn_r _ [15] (by decide +kernel) (by decide +kernel)
set_option maxRecDepth 20000 in
theorem gX0_fillAheadOnDay_X0_put : GoodIn wsX0_fillAheadOnDay (va_wsS RX0 59 yX0_put wsX0_put) := goodIn_app (goodIn_of _ (by decide +kernel)) ggX0_fillAheadOnDay_X0_put
set_option maxRecDepth 20000 in
theorem ggX0_fillAheadOnDay_X0_isOfWorker : GoodIn wsX0_fillAheadOnDay wsX0_isOfWorker := goodIn_r _ [19, 1, 2, 6, 7, 8, 9, 10, 11, 12, 20, 21, 22, 23, 24, 25, 26, 27, 28, 29, 30, 31, 32, 33, 34, 35] (by decide +kernel) (by decide +kernel)
set_option maxRecDepth 20000 in
theorem gX0_fillAheadOnDay_X0_isOfWorker : GoodIn wsX0_fillAheadOnDay (wsV RX0 87 RX0 yX0_isOfWorker wsX0_isOfWorker) := goodIn_app (goodIn_of _ (by decide +kernel)) ggX0_fillAheadOnDay_X0_isOfWorker
theorem dX0_fillAheadOnDay_0 : decode cX0_fillAheadOnDay 0 = .ok (.aload_n 0, 1) := by decide +kernel
theorem dX0_fillAheadOnDay_1 : decode cX0_fillAheadOnDay 1 = .ok (.getfield 35, 3) := by decide +kernel
theorem dX0_fillAheadOnDay_4 : decode cX0_fillAheadOnDay 4 = .ok (.iload_n 1, 1) := by decide +kernel
theorem dX0_fillAheadOnDay_5 : decode cX0_fillAheadOnDay 5 = .ok (.invokestatic 79, 3) := by decide +kernel
theorem dX0_fillAheadOnDay_8 : decode cX0_fillAheadOnDay 8 = .ok (.istore_n 2, 1) := by decide +kernel
theorem dX0_fillAheadOnDay_9 : decode cX0_fillAheadOnDay 9 = .ok (.aload_n 0, 1) := by decide +kernel
theorem dX0_fillAheadOnDay_10 : decode cX0_fillAheadOnDay 10 = .ok (.getfield 41, 3) := by decide +kernel
theorem dX0_fillAheadOnDay_13 : decode cX0_fillAheadOnDay 13 = .ok (.iload_n 1, 1) := by decide +kernel
theorem dX0_fillAheadOnDay_14 : decode cX0_fillAheadOnDay 14 = .ok (.invokestatic 79, 3) := by decide +kernel
theorem dX0_fillAheadOnDay_17 : decode cX0_fillAheadOnDay 17 = .ok (.istore_n 3, 1) := by decide +kernel
theorem dX0_fillAheadOnDay_18 : decode cX0_fillAheadOnDay 18 = .ok (.iload_n 3, 1) := by decide +kernel
theorem dX0_fillAheadOnDay_19 : decode cX0_fillAheadOnDay 19 = .ok (.invokestatic 100, 3) := by decide +kernel
theorem dX0_fillAheadOnDay_22 : decode cX0_fillAheadOnDay 22 = .ok (.istore 4, 2) := by decide +kernel
theorem dX0_fillAheadOnDay_24 : decode cX0_fillAheadOnDay 24 = .ok (.iconst 0, 1) := by decide +kernel
theorem dX0_fillAheadOnDay_25 : decode cX0_fillAheadOnDay 25 = .ok (.istore 5, 2) := by decide +kernel
theorem dX0_fillAheadOnDay_27 : decode cX0_fillAheadOnDay 27 = .ok (.iload 5, 2) := by decide +kernel
theorem dX0_fillAheadOnDay_29 : decode cX0_fillAheadOnDay 29 = .ok (.bipush 7, 2) := by decide +kernel
theorem dX0_fillAheadOnDay_31 : decode cX0_fillAheadOnDay 31 = .ok (.if_icmp .ge 19, 3) := by decide +kernel
theorem dX0_fillAheadOnDay_34 : decode cX0_fillAheadOnDay 34 = .ok (.aload_n 0, 1) := by decide +kernel
theorem dX0_fillAheadOnDay_35 : decode cX0_fillAheadOnDay 35 = .ok (.getfield 56, 3) := by decide +kernel
theorem dX0_fillAheadOnDay_38 : decode cX0_fillAheadOnDay 38 = .ok (.iload 5, 2) := by decide +kernel
theorem dX0_fillAheadOnDay_40 : decode cX0_fillAheadOnDay 40 = .ok (.iconst 0, 1) := by decide +kernel
theorem dX0_fillAheadOnDay_41 : decode cX0_fillAheadOnDay 41 = .ok (.invokestatic 59, 3) := by decide +kernel
theorem dX0_fillAheadOnDay_44 : decode cX0_fillAheadOnDay 44 = .ok (.iinc 5 1, 3) := by decide +kernel
theorem dX0_fillAheadOnDay_47 : decode cX0_fillAheadOnDay 47 = .ok (.goto (-20), 3) := by decide +kernel
theorem dX0_fillAheadOnDay_50 : decode cX0_fillAheadOnDay 50 = .ok (.iconst 0, 1) := by decide +kernel
theorem dX0_fillAheadOnDay_51 : decode cX0_fillAheadOnDay 51 = .ok (.istore 5, 2) := by decide +kernel
theorem dX0_fillAheadOnDay_53 : decode cX0_fillAheadOnDay 53 = .ok (.iload 5, 2) := by decide +kernel
theorem dX0_fillAheadOnDay_55 : decode cX0_fillAheadOnDay 55 = .ok (.aload_n 0, 1) := by decide +kernel
theorem dX0_fillAheadOnDay_56 : decode cX0_fillAheadOnDay 56 = .ok (.getfield 32, 3) := by decide +kernel
theorem dX0_fillAheadOnDay_59 : decode cX0_fillAheadOnDay 59 = .ok (.if_icmp .ge 97, 3) := by decide +kernel
theorem dX0_fillAheadOnDay_62 : decode cX0_fillAheadOnDay 62 = .ok (.aload_n 0, 1) := by decide +kernel
theorem dX0_fillAheadOnDay_63 : decode cX0_fillAheadOnDay 63 = .ok (.getfield 41, 3) := by decide +kernel
theorem dX0_fillAheadOnDay_66 : decode cX0_fillAheadOnDay 66 = .ok (.iload 5, 2) := by decide +kernel
theorem dX0_fillAheadOnDay_68 : decode cX0_fillAheadOnDay 68 = .ok (.invokestatic 79, 3) := by decide +kernel
theorem dX0_fillAheadOnDay_71 : decode cX0_fillAheadOnDay 71 = .ok (.istore 6, 2) := by decide +kernel
theorem dX0_fillAheadOnDay_73 : decode cX0_fillAheadOnDay 73 = .ok (.iload 6, 2) := by decide +kernel
theorem dX0_fillAheadOnDay_75 : decode cX0_fillAheadOnDay 75 = .ok (.iload_n 3, 1) := by decide +kernel
theorem dX0_fillAheadOnDay_76 : decode cX0_fillAheadOnDay 76 = .ok (.if_icmp .lt 15, 3) := by decide +kernel
theorem dX0_fillAheadOnDay_79 : decode cX0_fillAheadOnDay 79 = .ok (.iload 6, 2) := by decide +kernel
theorem dX0_fillAheadOnDay_81 : decode cX0_fillAheadOnDay 81 = .ok (.iload_n 3, 1) := by decide +kernel
theorem dX0_fillAheadOnDay_82 : decode cX0_fillAheadOnDay 82 = .ok (.if_icmp .ne 13, 3) := by decide +kernel
theorem dX0_fillAheadOnDay_85 : decode cX0_fillAheadOnDay 85 = .ok (.iload 5, 2) := by decide +kernel
theorem dX0_fillAheadOnDay_87 : decode cX0_fillAheadOnDay 87 = .ok (.iload_n 1, 1) := by decide +kernel
theorem dX0_fillAheadOnDay_88 : decode cX0_fillAheadOnDay 88 = .ok (.if_icmp .ge 7, 3) := by decide +kernel
theorem dX0_fillAheadOnDay_91 : decode cX0_fillAheadOnDay 91 = .ok (.iconst 1, 1) := by decide +kernel
theorem dX0_fillAheadOnDay_92 : decode cX0_fillAheadOnDay 92 = .ok (.goto 4, 3) := by decide +kernel
theorem dX0_fillAheadOnDay_95 : decode cX0_fillAheadOnDay 95 = .ok (.iconst 0, 1) := by decide +kernel
theorem dX0_fillAheadOnDay_96 : decode cX0_fillAheadOnDay 96 = .ok (.istore 7, 2) := by decide +kernel
theorem dX0_fillAheadOnDay_98 : decode cX0_fillAheadOnDay 98 = .ok (.iload 7, 2) := by decide +kernel
theorem dX0_fillAheadOnDay_100 : decode cX0_fillAheadOnDay 100 = .ok (.ifCond .eq 50, 3) := by decide +kernel
theorem dX0_fillAheadOnDay_103 : decode cX0_fillAheadOnDay 103 = .ok (.aload_n 0, 1) := by decide +kernel
theorem dX0_fillAheadOnDay_104 : decode cX0_fillAheadOnDay 104 = .ok (.iload 5, 2) := by decide +kernel
theorem dX0_fillAheadOnDay_106 : decode cX0_fillAheadOnDay 106 = .ok (.iload_n 2, 1) := by decide +kernel
theorem dX0_fillAheadOnDay_107 : decode cX0_fillAheadOnDay 107 = .ok (.iload 4, 2) := by decide +kernel
theorem dX0_fillAheadOnDay_109 : decode cX0_fillAheadOnDay 109 = .ok (.invokevirtual 87, 3) := by decide +kernel
theorem dX0_fillAheadOnDay_112 : decode cX0_fillAheadOnDay 112 = .ok (.ifCond .eq 38, 3) := by decide +kernel
theorem dX0_fillAheadOnDay_115 : decode cX0_fillAheadOnDay 115 = .ok (.iload 6, 2) := by decide +kernel
theorem dX0_fillAheadOnDay_117 : decode cX0_fillAheadOnDay 117 = .ok (.bipush 7, 2) := by decide +kernel
theorem dX0_fillAheadOnDay_119 : decode cX0_fillAheadOnDay 119 = .ok (.irem, 1) := by decide +kernel
theorem dX0_fillAheadOnDay_120 : decode cX0_fillAheadOnDay 120 = .ok (.istore 8, 2) := by decide +kernel
theorem dX0_fillAheadOnDay_122 : decode cX0_fillAheadOnDay 122 = .ok (.aload_n 0, 1) := by decide +kernel
theorem dX0_fillAheadOnDay_123 : decode cX0_fillAheadOnDay 123 = .ok (.getfield 56, 3) := by decide +kernel
theorem dX0_fillAheadOnDay_126 : decode cX0_fillAheadOnDay 126 = .ok (.iload 8, 2) := by decide +kernel
theorem dX0_fillAheadOnDay_128 : decode cX0_fillAheadOnDay 128 = .ok (.aload_n 0, 1) := by decide +kernel
theorem dX0_fillAheadOnDay_129 : decode cX0_fillAheadOnDay 129 = .ok (.getfield 56, 3) := by decide +kernel
theorem dX0_fillAheadOnDay_132 : decode cX0_fillAheadOnDay 132 = .ok (.iload 8, 2) := by decide +kernel
theorem dX0_fillAheadOnDay_134 : decode cX0_fillAheadOnDay 134 = .ok (.invokestatic 79, 3) := by decide +kernel
theorem dX0_fillAheadOnDay_137 : decode cX0_fillAheadOnDay 137 = .ok (.aload_n 0, 1) := by decide +kernel
theorem dX0_fillAheadOnDay_138 : decode cX0_fillAheadOnDay 138 = .ok (.getfield 44, 3) := by decide +kernel
theorem dX0_fillAheadOnDay_141 : decode cX0_fillAheadOnDay 141 = .ok (.iload 5, 2) := by decide +kernel
theorem dX0_fillAheadOnDay_143 : decode cX0_fillAheadOnDay 143 = .ok (.invokestatic 79, 3) := by decide +kernel
theorem dX0_fillAheadOnDay_146 : decode cX0_fillAheadOnDay 146 = .ok (.iadd, 1) := by decide +kernel
theorem dX0_fillAheadOnDay_147 : decode cX0_fillAheadOnDay 147 = .ok (.invokestatic 59, 3) := by decide +kernel
theorem dX0_fillAheadOnDay_150 : decode cX0_fillAheadOnDay 150 = .ok (.iinc 5 1, 3) := by decide +kernel
theorem dX0_fillAheadOnDay_153 : decode cX0_fillAheadOnDay 153 = .ok (.goto (-100), 3) := by decide +kernel
theorem dX0_fillAheadOnDay_156 : decode cX0_fillAheadOnDay 156 = .ok (.return_, 1) := by decide +kernel
set_option maxRecDepth 20000 in
theorem ggX0_plainByDayAhead_X0_at : GoodIn wsX0_plainByDayAhead wsX0_at := goodIn_r _ [5] (by decide +kernel) (by decide +kernel)
set_option maxRecDepth 20000 in
theorem gX0_plainByDayAhead_X0_at : GoodIn wsX0_plainByDayAhead (va_wsS RX0 79 yX0_at wsX0_at) := goodIn_app (goodIn_of _ (by decide +kernel)) ggX0_plainByDayAhead_X0_at
set_option maxRecDepth 20000 in
theorem ggX0_plainByDayAhead_X0_plainOfDay : GoodIn wsX0_plainByDayAhead wsX0_plainOfDay := goodIn_r _ [8, 9, 10, 11, 12] (by decide +kernel) (by decide +kernel)
set_option maxRecDepth 20000 in
theorem gX0_plainByDayAhead_X0_plainOfDay : GoodIn wsX0_plainByDayAhead (va_wsS RX0 126 yX0_plainOfDay wsX0_plainOfDay) := goodIn_app (goodIn_of _ (by decide +kernel)) ggX0_plainByDayAhead_X0_plainOfDay
theorem dX0_plainByDayAhead_0 : decode cX0_plainByDayAhead 0 = .ok (.iconst 0, 1) := by decide +kernel
theorem dX0_plainByDayAhead_1 : decode cX0_plainByDayAhead 1 = .ok (.istore_n 1, 1) := by decide +kernel
theorem dX0_plainByDayAhead_2 : decode cX0_plainByDayAhead 2 = .ok (.iconst 0, 1) := by decide +kernel
theorem dX0_plainByDayAhead_3 : decode cX0_plainByDayAhead 3 = .ok (.istore_n 2, 1) := by decide +kernel
theorem dX0_plainByDayAhead_4 : decode cX0_plainByDayAhead 4 = .ok (.iload_n 2, 1) := by decide +kernel
theorem dX0_plainByDayAhead_5 : decode cX0_plainByDayAhead 5 = .ok (.bipush 7, 2) := by decide +kernel
theorem dX0_plainByDayAhead_7 : decode cX0_plainByDayAhead 7 = .ok (.if_icmp .ge 23, 3) := by decide +kernel
theorem dX0_plainByDayAhead_10 : decode cX0_plainByDayAhead 10 = .ok (.iload_n 1, 1) := by decide +kernel
theorem dX0_plainByDayAhead_11 : decode cX0_plainByDayAhead 11 = .ok (.aload_n 0, 1) := by decide +kernel
theorem dX0_plainByDayAhead_12 : decode cX0_plainByDayAhead 12 = .ok (.getfield 56, 3) := by decide +kernel
theorem dX0_plainByDayAhead_15 : decode cX0_plainByDayAhead 15 = .ok (.iload_n 2, 1) := by decide +kernel
theorem dX0_plainByDayAhead_16 : decode cX0_plainByDayAhead 16 = .ok (.invokestatic 79, 3) := by decide +kernel
theorem dX0_plainByDayAhead_19 : decode cX0_plainByDayAhead 19 = .ok (.invokestatic 126, 3) := by decide +kernel
theorem dX0_plainByDayAhead_22 : decode cX0_plainByDayAhead 22 = .ok (.iadd, 1) := by decide +kernel
theorem dX0_plainByDayAhead_23 : decode cX0_plainByDayAhead 23 = .ok (.istore_n 1, 1) := by decide +kernel
theorem dX0_plainByDayAhead_24 : decode cX0_plainByDayAhead 24 = .ok (.iinc 2 1, 3) := by decide +kernel
theorem dX0_plainByDayAhead_27 : decode cX0_plainByDayAhead 27 = .ok (.goto (-23), 3) := by decide +kernel
theorem dX0_plainByDayAhead_30 : decode cX0_plainByDayAhead 30 = .ok (.iload_n 1, 1) := by decide +kernel
theorem dX0_plainByDayAhead_31 : decode cX0_plainByDayAhead 31 = .ok (.ireturn, 1) := by decide +kernel
theorem dX0_plainOfDay_0 : decode cX0_plainOfDay 0 = .ok (.bipush 8, 2) := by decide +kernel
theorem dX0_plainOfDay_2 : decode cX0_plainOfDay 2 = .ok (.iload_n 0, 1) := by decide +kernel
theorem dX0_plainOfDay_3 : decode cX0_plainOfDay 3 = .ok (.invokestatic 138, 3) := by decide +kernel
theorem dX0_plainOfDay_6 : decode cX0_plainOfDay 6 = .ok (.ireturn, 1) := by decide +kernel
set_option maxRecDepth 20000 in
theorem ggX0_isEqual_X0_weeksWorked : GoodIn wsX0_isEqual wsX0_weeksWorked := goodIn_r _ [7, 8, 9, 10, 11, 12, 13, 14, 6, 15, 16, 17, 18, 19, 20, 21, 22, 23, 24, 25, 26, 27, 28, 29, 30, 31, 32, 33, 34] (by decide +kernel) (by decide +kernel)
set_option maxRecDepth 20000 in
theorem gX0_isEqual_X0_weeksWorked : GoodIn wsX0_isEqual (wsV RX0 141 RX0 yX0_weeksWorked wsX0_weeksWorked) := goodIn_app (goodIn_of _ (by decide +kernel)) ggX0_isEqual_X0_weeksWorked
theorem dX0_isEqual_0 : decode cX0_isEqual 0 = .ok (.aload_n 0, 1) := by decide +kernel
theorem dX0_isEqual_1 : decode cX0_isEqual 1 = .ok (.iload_n 1, 1) := by decide +kernel
theorem dX0_isEqual_2 : decode cX0_isEqual 2 = .ok (.iload_n 2, 1) := by decide +kernel
theorem dX0_isEqual_3 : decode cX0_isEqual 3 = .ok (.invokevirtual 141, 3) := by decide +kernel
theorem dX0_isEqual_6 : decode cX0_isEqual 6 = .ok (.istore 4, 2) := by decide +kernel
theorem dX0_isEqual_8 : decode cX0_isEqual 8 = .ok (.iconst 0, 1) := by decide +kernel
theorem dX0_isEqual_9 : decode cX0_isEqual 9 = .ok (.istore 5, 2) := by decide +kernel
theorem dX0_isEqual_11 : decode cX0_isEqual 11 = .ok (.iconst 0, 1) := by decide +kernel
theorem dX0_isEqual_12 : decode cX0_isEqual 12 = .ok (.istore 6, 2) := by decide +kernel
theorem dX0_isEqual_14 : decode cX0_isEqual 14 = .ok (.iload_n 3, 1) := by decide +kernel
theorem dX0_isEqual_15 : decode cX0_isEqual 15 = .ok (.iconst 1, 1) := by decide +kernel
theorem dX0_isEqual_16 : decode cX0_isEqual 16 = .ok (.isub, 1) := by decide +kernel
theorem dX0_isEqual_17 : decode cX0_isEqual 17 = .ok (.istore 7, 2) := by decide +kernel
theorem dX0_isEqual_19 : decode cX0_isEqual 19 = .ok (.iload 7, 2) := by decide +kernel
theorem dX0_isEqual_21 : decode cX0_isEqual 21 = .ok (.ifCond .lt 41, 3) := by decide +kernel
theorem dX0_isEqual_24 : decode cX0_isEqual 24 = .ok (.iload 6, 2) := by decide +kernel
theorem dX0_isEqual_26 : decode cX0_isEqual 26 = .ok (.aload_n 0, 1) := by decide +kernel
theorem dX0_isEqual_27 : decode cX0_isEqual 27 = .ok (.getfield 29, 3) := by decide +kernel
theorem dX0_isEqual_30 : decode cX0_isEqual 30 = .ok (.if_icmp .gt 32, 3) := by decide +kernel
theorem dX0_isEqual_33 : decode cX0_isEqual 33 = .ok (.iload 4, 2) := by decide +kernel
theorem dX0_isEqual_35 : decode cX0_isEqual 35 = .ok (.iload 7, 2) := by decide +kernel
theorem dX0_isEqual_37 : decode cX0_isEqual 37 = .ok (.ishr, 1) := by decide +kernel
theorem dX0_isEqual_38 : decode cX0_isEqual 38 = .ok (.iconst 1, 1) := by decide +kernel
theorem dX0_isEqual_39 : decode cX0_isEqual 39 = .ok (.iand, 1) := by decide +kernel
theorem dX0_isEqual_40 : decode cX0_isEqual 40 = .ok (.iconst 1, 1) := by decide +kernel
theorem dX0_isEqual_41 : decode cX0_isEqual 41 = .ok (.if_icmp .ne 12, 3) := by decide +kernel
theorem dX0_isEqual_44 : decode cX0_isEqual 44 = .ok (.iinc 5 1, 3) := by decide +kernel
theorem dX0_isEqual_47 : decode cX0_isEqual 47 = .ok (.iconst 0, 1) := by decide +kernel
theorem dX0_isEqual_48 : decode cX0_isEqual 48 = .ok (.istore 6, 2) := by decide +kernel
theorem dX0_isEqual_50 : decode cX0_isEqual 50 = .ok (.goto 6, 3) := by decide +kernel
theorem dX0_isEqual_53 : decode cX0_isEqual 53 = .ok (.iinc 6 1, 3) := by decide +kernel
theorem dX0_isEqual_56 : decode cX0_isEqual 56 = .ok (.iinc 7 (-1), 3) := by decide +kernel
theorem dX0_isEqual_59 : decode cX0_isEqual 59 = .ok (.goto (-40), 3) := by decide +kernel
theorem dX0_isEqual_62 : decode cX0_isEqual 62 = .ok (.iload 5, 2) := by decide +kernel
theorem dX0_isEqual_64 : decode cX0_isEqual 64 = .ok (.aload_n 0, 1) := by decide +kernel
theorem dX0_isEqual_65 : decode cX0_isEqual 65 = .ok (.getfield 25, 3) := by decide +kernel
theorem dX0_isEqual_68 : decode cX0_isEqual 68 = .ok (.if_icmp .lt 7, 3) := by decide +kernel
theorem dX0_isEqual_71 : decode cX0_isEqual 71 = .ok (.iconst 1, 1) := by decide +kernel
theorem dX0_isEqual_72 : decode cX0_isEqual 72 = .ok (.goto 4, 3) := by decide +kernel
theorem dX0_isEqual_75 : decode cX0_isEqual 75 = .ok (.iconst 0, 1) := by decide +kernel
theorem dX0_isEqual_76 : decode cX0_isEqual 76 = .ok (.ireturn, 1) := by decide +kernel
set_option maxRecDepth 20000 in
theorem ggX0_weeksWorked_X0_at : GoodIn wsX0_weeksWorked wsX0_at := goodIn_r _ [9] (by decide +kernel) (by decide +kernel)
set_option maxRecDepth 20000 in
theorem gX0_weeksWorked_X0_at : GoodIn wsX0_weeksWorked (va_wsS RX0 79 yX0_at wsX0_at) := goodIn_app (goodIn_of _ (by decide +kernel)) ggX0_weeksWorked_X0_at
set_option maxRecDepth 20000 in
theorem ggX0_weeksWorked_X0_weekOf : GoodIn wsX0_weeksWorked wsX0_weekOf := goodIn_r _ [12] (by decide +kernel) (by decide +kernel)
set_option maxRecDepth 20000 in
theorem gX0_weeksWorked_X0_weekOf : GoodIn wsX0_weeksWorked (va_wsS RX0 100 yX0_weekOf wsX0_weekOf) := goodIn_app (goodIn_of _ (by decide +kernel)) ggX0_weeksWorked_X0_weekOf
theorem dX0_weeksWorked_0 : decode cX0_weeksWorked 0 = .ok (.iconst 0, 1) := by decide +kernel
theorem dX0_weeksWorked_1 : decode cX0_weeksWorked 1 = .ok (.istore_n 3, 1) := by decide +kernel
theorem dX0_weeksWorked_2 : decode cX0_weeksWorked 2 = .ok (.iconst 0, 1) := by decide +kernel
theorem dX0_weeksWorked_3 : decode cX0_weeksWorked 3 = .ok (.istore 4, 2) := by decide +kernel
theorem dX0_weeksWorked_5 : decode cX0_weeksWorked 5 = .ok (.iload 4, 2) := by decide +kernel
theorem dX0_weeksWorked_7 : decode cX0_weeksWorked 7 = .ok (.aload_n 0, 1) := by decide +kernel
theorem dX0_weeksWorked_8 : decode cX0_weeksWorked 8 = .ok (.getfield 32, 3) := by decide +kernel
theorem dX0_weeksWorked_11 : decode cX0_weeksWorked 11 = .ok (.if_icmp .ge 65, 3) := by decide +kernel
theorem dX0_weeksWorked_14 : decode cX0_weeksWorked 14 = .ok (.aload_n 0, 1) := by decide +kernel
theorem dX0_weeksWorked_15 : decode cX0_weeksWorked 15 = .ok (.getfield 35, 3) := by decide +kernel
theorem dX0_weeksWorked_18 : decode cX0_weeksWorked 18 = .ok (.iload 4, 2) := by decide +kernel
theorem dX0_weeksWorked_20 : decode cX0_weeksWorked 20 = .ok (.invokestatic 79, 3) := by decide +kernel
theorem dX0_weeksWorked_23 : decode cX0_weeksWorked 23 = .ok (.iload_n 1, 1) := by decide +kernel
theorem dX0_weeksWorked_24 : decode cX0_weeksWorked 24 = .ok (.if_icmp .ne 46, 3) := by decide +kernel
theorem dX0_weeksWorked_27 : decode cX0_weeksWorked 27 = .ok (.aload_n 0, 1) := by decide +kernel
theorem dX0_weeksWorked_28 : decode cX0_weeksWorked 28 = .ok (.getfield 38, 3) := by decide +kernel
theorem dX0_weeksWorked_31 : decode cX0_weeksWorked 31 = .ok (.iload 4, 2) := by decide +kernel
theorem dX0_weeksWorked_33 : decode cX0_weeksWorked 33 = .ok (.invokestatic 79, 3) := by decide +kernel
theorem dX0_weeksWorked_36 : decode cX0_weeksWorked 36 = .ok (.iload_n 2, 1) := by decide +kernel
theorem dX0_weeksWorked_37 : decode cX0_weeksWorked 37 = .ok (.if_icmp .ne 33, 3) := by decide +kernel
theorem dX0_weeksWorked_40 : decode cX0_weeksWorked 40 = .ok (.aload_n 0, 1) := by decide +kernel
theorem dX0_weeksWorked_41 : decode cX0_weeksWorked 41 = .ok (.getfield 44, 3) := by decide +kernel
theorem dX0_weeksWorked_44 : decode cX0_weeksWorked 44 = .ok (.iload 4, 2) := by decide +kernel
theorem dX0_weeksWorked_46 : decode cX0_weeksWorked 46 = .ok (.invokestatic 79, 3) := by decide +kernel
theorem dX0_weeksWorked_49 : decode cX0_weeksWorked 49 = .ok (.iconst 1, 1) := by decide +kernel
theorem dX0_weeksWorked_50 : decode cX0_weeksWorked 50 = .ok (.if_icmp .lt 20, 3) := by decide +kernel
theorem dX0_weeksWorked_53 : decode cX0_weeksWorked 53 = .ok (.iload_n 3, 1) := by decide +kernel
theorem dX0_weeksWorked_54 : decode cX0_weeksWorked 54 = .ok (.iconst 1, 1) := by decide +kernel
theorem dX0_weeksWorked_55 : decode cX0_weeksWorked 55 = .ok (.aload_n 0, 1) := by decide +kernel
theorem dX0_weeksWorked_56 : decode cX0_weeksWorked 56 = .ok (.getfield 41, 3) := by decide +kernel
theorem dX0_weeksWorked_59 : decode cX0_weeksWorked 59 = .ok (.iload 4, 2) := by decide +kernel
theorem dX0_weeksWorked_61 : decode cX0_weeksWorked 61 = .ok (.invokestatic 79, 3) := by decide +kernel
theorem dX0_weeksWorked_64 : decode cX0_weeksWorked 64 = .ok (.invokestatic 100, 3) := by decide +kernel
theorem dX0_weeksWorked_67 : decode cX0_weeksWorked 67 = .ok (.ishl, 1) := by decide +kernel
theorem dX0_weeksWorked_68 : decode cX0_weeksWorked 68 = .ok (.ior, 1) := by decide +kernel
theorem dX0_weeksWorked_69 : decode cX0_weeksWorked 69 = .ok (.istore_n 3, 1) := by decide +kernel
theorem dX0_weeksWorked_70 : decode cX0_weeksWorked 70 = .ok (.iinc 4 1, 3) := by decide +kernel
theorem dX0_weeksWorked_73 : decode cX0_weeksWorked 73 = .ok (.goto (-68), 3) := by decide +kernel
theorem dX0_weeksWorked_76 : decode cX0_weeksWorked 76 = .ok (.iload_n 3, 1) := by decide +kernel
theorem dX0_weeksWorked_77 : decode cX0_weeksWorked 77 = .ok (.ireturn, 1) := by decide +kernel
set_option maxRecDepth 20000 in
theorem ggX0_rateThere_X0_isEqual : GoodIn wsX0_rateThere wsX0_isEqual := goodIn_r _ [7, 8, 9, 10, 11, 12, 6, 13, 14, 15, 16, 17, 18, 19, 20, 21, 22, 23, 24, 25, 26, 27, 28, 29, 30, 31, 32, 33, 34, 35, 36, 37, 38, 39, 40] (by decide +kernel) (by decide +kernel)
set_option maxRecDepth 20000 in
theorem gX0_rateThere_X0_isEqual : GoodIn wsX0_rateThere (wsV RX0 94 RX0 yX0_isEqual wsX0_isEqual) := goodIn_app (goodIn_of _ (by decide +kernel)) ggX0_rateThere_X0_isEqual
set_option maxRecDepth 20000 in
theorem ggX0_rateThere_X0_at : GoodIn wsX0_rateThere wsX0_at := goodIn_r _ [21] (by decide +kernel) (by decide +kernel)
set_option maxRecDepth 20000 in
theorem gX0_rateThere_X0_at : GoodIn wsX0_rateThere (va_wsS RX0 79 yX0_at wsX0_at) := goodIn_app (goodIn_of _ (by decide +kernel)) ggX0_rateThere_X0_at
theorem dX0_rateThere_0 : decode cX0_rateThere 0 = .ok (.aload_n 0, 1) := by decide +kernel
theorem dX0_rateThere_1 : decode cX0_rateThere 1 = .ok (.iload_n 1, 1) := by decide +kernel
theorem dX0_rateThere_2 : decode cX0_rateThere 2 = .ok (.iload_n 2, 1) := by decide +kernel
theorem dX0_rateThere_3 : decode cX0_rateThere 3 = .ok (.iload_n 3, 1) := by decide +kernel
theorem dX0_rateThere_4 : decode cX0_rateThere 4 = .ok (.invokevirtual 94, 3) := by decide +kernel
theorem dX0_rateThere_7 : decode cX0_rateThere 7 = .ok (.ifCond .eq 14, 3) := by decide +kernel
theorem dX0_rateThere_10 : decode cX0_rateThere 10 = .ok (.aload_n 0, 1) := by decide +kernel
theorem dX0_rateThere_11 : decode cX0_rateThere 11 = .ok (.getfield 13, 3) := by decide +kernel
theorem dX0_rateThere_14 : decode cX0_rateThere 14 = .ok (.iload_n 2, 1) := by decide +kernel
theorem dX0_rateThere_15 : decode cX0_rateThere 15 = .ok (.invokestatic 79, 3) := by decide +kernel
theorem dX0_rateThere_18 : decode cX0_rateThere 18 = .ok (.goto 11, 3) := by decide +kernel
theorem dX0_rateThere_21 : decode cX0_rateThere 21 = .ok (.aload_n 0, 1) := by decide +kernel
theorem dX0_rateThere_22 : decode cX0_rateThere 22 = .ok (.getfield 9, 3) := by decide +kernel
theorem dX0_rateThere_25 : decode cX0_rateThere 25 = .ok (.iload_n 2, 1) := by decide +kernel
theorem dX0_rateThere_26 : decode cX0_rateThere 26 = .ok (.invokestatic 79, 3) := by decide +kernel
theorem dX0_rateThere_29 : decode cX0_rateThere 29 = .ok (.ireturn, 1) := by decide +kernel
set_option maxRecDepth 20000 in
theorem ggX0_shiftPay_X0_overtimeHours : GoodIn wsX0_shiftPay wsX0_overtimeHours := goodIn_r _ [9, 1, 10, 4, 11, 12, 13, 14, 15, 16, 17, 18, 19, 20, 8, 21, 2, 22, 23, 24, 25, 26, 27, 28, 29, 30, 31, 32, 33, 34, 35, 36, 37, 38, 39, 40, 41, 42, 59, 60, 61, 62, 63, 64, 65, 66, 67, 68, 69, 70, 71, 72, 73, 74] (by decide +kernel) (by decide +kernel)
set_option maxRecDepth 20000 in
theorem gX0_shiftPay_X0_overtimeHours : GoodIn wsX0_shiftPay (wsV RX0 91 RX0 yX0_overtimeHours wsX0_overtimeHours) := goodIn_app (goodIn_of _ (by decide +kernel)) ggX0_shiftPay_X0_overtimeHours
set_option maxRecDepth 20000 in
theorem ggX0_shiftPay_X0_at : GoodIn wsX0_shiftPay wsX0_at := goodIn_r _ [25] (by decide +kernel) (by decide +kernel)
set_option maxRecDepth 20000 in
theorem gX0_shiftPay_X0_at : GoodIn wsX0_shiftPay (va_wsS RX0 79 yX0_at wsX0_at) := goodIn_app (goodIn_of _ (by decide +kernel)) ggX0_shiftPay_X0_at
set_option maxRecDepth 20000 in
theorem ggX0_shiftPay_X0_weekOf : GoodIn wsX0_shiftPay wsX0_weekOf := goodIn_r _ [28] (by decide +kernel) (by decide +kernel)
set_option maxRecDepth 20000 in
theorem gX0_shiftPay_X0_weekOf : GoodIn wsX0_shiftPay (va_wsS RX0 100 yX0_weekOf wsX0_weekOf) := goodIn_app (goodIn_of _ (by decide +kernel)) ggX0_shiftPay_X0_weekOf
set_option maxRecDepth 20000 in
theorem ggX0_shiftPay_X0_rateThere : GoodIn wsX0_shiftPay wsX0_rateThere := goodIn_r _ [46, 47, 48, 49, 50, 51, 8, 52, 53, 54, 55, 56, 57, 58, 22, 2, 3, 1, 4, 23, 24, 25, 26, 27, 28, 59, 60, 61, 62, 63, 64, 65, 66, 67, 68, 69, 70, 71, 72, 73, 74] (by decide +kernel) (by decide +kernel)
set_option maxRecDepth 20000 in
theorem gX0_shiftPay_X0_rateThere : GoodIn wsX0_shiftPay (wsV RX0 112 RX0 yX0_rateThere wsX0_rateThere) := goodIn_app (goodIn_of _ (by decide +kernel)) ggX0_shiftPay_X0_rateThere
theorem dX0_shiftPay_0 : decode cX0_shiftPay 0 = .ok (.aload_n 0, 1) := by decide +kernel
theorem dX0_shiftPay_1 : decode cX0_shiftPay 1 = .ok (.iload_n 1, 1) := by decide +kernel
theorem dX0_shiftPay_2 : decode cX0_shiftPay 2 = .ok (.invokevirtual 91, 3) := by decide +kernel
theorem dX0_shiftPay_5 : decode cX0_shiftPay 5 = .ok (.istore_n 2, 1) := by decide +kernel
theorem dX0_shiftPay_6 : decode cX0_shiftPay 6 = .ok (.aload_n 0, 1) := by decide +kernel
theorem dX0_shiftPay_7 : decode cX0_shiftPay 7 = .ok (.getfield 44, 3) := by decide +kernel
theorem dX0_shiftPay_10 : decode cX0_shiftPay 10 = .ok (.iload_n 1, 1) := by decide +kernel
theorem dX0_shiftPay_11 : decode cX0_shiftPay 11 = .ok (.invokestatic 79, 3) := by decide +kernel
theorem dX0_shiftPay_14 : decode cX0_shiftPay 14 = .ok (.iload_n 2, 1) := by decide +kernel
theorem dX0_shiftPay_15 : decode cX0_shiftPay 15 = .ok (.isub, 1) := by decide +kernel
theorem dX0_shiftPay_16 : decode cX0_shiftPay 16 = .ok (.istore_n 3, 1) := by decide +kernel
theorem dX0_shiftPay_17 : decode cX0_shiftPay 17 = .ok (.aload_n 0, 1) := by decide +kernel
theorem dX0_shiftPay_18 : decode cX0_shiftPay 18 = .ok (.aload_n 0, 1) := by decide +kernel
theorem dX0_shiftPay_19 : decode cX0_shiftPay 19 = .ok (.getfield 35, 3) := by decide +kernel
theorem dX0_shiftPay_22 : decode cX0_shiftPay 22 = .ok (.iload_n 1, 1) := by decide +kernel
theorem dX0_shiftPay_23 : decode cX0_shiftPay 23 = .ok (.invokestatic 79, 3) := by decide +kernel
theorem dX0_shiftPay_26 : decode cX0_shiftPay 26 = .ok (.aload_n 0, 1) := by decide +kernel
theorem dX0_shiftPay_27 : decode cX0_shiftPay 27 = .ok (.getfield 38, 3) := by decide +kernel
theorem dX0_shiftPay_30 : decode cX0_shiftPay 30 = .ok (.iload_n 1, 1) := by decide +kernel
theorem dX0_shiftPay_31 : decode cX0_shiftPay 31 = .ok (.invokestatic 79, 3) := by decide +kernel
theorem dX0_shiftPay_34 : decode cX0_shiftPay 34 = .ok (.aload_n 0, 1) := by decide +kernel
theorem dX0_shiftPay_35 : decode cX0_shiftPay 35 = .ok (.getfield 41, 3) := by decide +kernel
theorem dX0_shiftPay_38 : decode cX0_shiftPay 38 = .ok (.iload_n 1, 1) := by decide +kernel
theorem dX0_shiftPay_39 : decode cX0_shiftPay 39 = .ok (.invokestatic 79, 3) := by decide +kernel
theorem dX0_shiftPay_42 : decode cX0_shiftPay 42 = .ok (.invokestatic 100, 3) := by decide +kernel
theorem dX0_shiftPay_45 : decode cX0_shiftPay 45 = .ok (.invokevirtual 112, 3) := by decide +kernel
theorem dX0_shiftPay_48 : decode cX0_shiftPay 48 = .ok (.istore 4, 2) := by decide +kernel
theorem dX0_shiftPay_50 : decode cX0_shiftPay 50 = .ok (.iconst 2, 1) := by decide +kernel
theorem dX0_shiftPay_51 : decode cX0_shiftPay 51 = .ok (.iload_n 3, 1) := by decide +kernel
theorem dX0_shiftPay_52 : decode cX0_shiftPay 52 = .ok (.imul, 1) := by decide +kernel
theorem dX0_shiftPay_53 : decode cX0_shiftPay 53 = .ok (.iconst 3, 1) := by decide +kernel
theorem dX0_shiftPay_54 : decode cX0_shiftPay 54 = .ok (.iload_n 2, 1) := by decide +kernel
theorem dX0_shiftPay_55 : decode cX0_shiftPay 55 = .ok (.imul, 1) := by decide +kernel
theorem dX0_shiftPay_56 : decode cX0_shiftPay 56 = .ok (.iadd, 1) := by decide +kernel
theorem dX0_shiftPay_57 : decode cX0_shiftPay 57 = .ok (.iload 4, 2) := by decide +kernel
theorem dX0_shiftPay_59 : decode cX0_shiftPay 59 = .ok (.imul, 1) := by decide +kernel
theorem dX0_shiftPay_60 : decode cX0_shiftPay 60 = .ok (.iconst 2, 1) := by decide +kernel
theorem dX0_shiftPay_61 : decode cX0_shiftPay 61 = .ok (.idiv, 1) := by decide +kernel
theorem dX0_shiftPay_62 : decode cX0_shiftPay 62 = .ok (.ireturn, 1) := by decide +kernel
set_option maxRecDepth 20000 in
theorem ggX0_weekPay_X0_isOfWorker : GoodIn wsX0_weekPay wsX0_isOfWorker := goodIn_r _ [6, 7, 8, 9, 10, 5, 11, 12, 13, 14, 63, 64, 65, 66, 67, 68, 69, 70, 71, 72, 73, 74, 75, 76, 77, 78] (by decide +kernel) (by decide +kernel)
set_option maxRecDepth 20000 in
theorem gX0_weekPay_X0_isOfWorker : GoodIn wsX0_weekPay (wsV RX0 87 RX0 yX0_isOfWorker wsX0_isOfWorker) := goodIn_app (goodIn_of _ (by decide +kernel)) ggX0_weekPay_X0_isOfWorker
set_option maxRecDepth 20000 in
theorem ggX0_weekPay_X0_shiftPay : GoodIn wsX0_weekPay wsX0_shiftPay := goodIn_r _ [18, 19, 7, 20, 8, 21, 22, 23, 5, 24, 25, 26, 27, 28, 29, 30, 31, 32, 33, 34, 35, 36, 1, 9, 10, 11, 12, 13, 14, 37, 38, 39, 2, 3, 4, 6, 40, 41, 42, 43, 44, 45, 46, 47, 48, 49, 50, 51, 52, 53, 54, 55, 56, 57, 58, 59, 60, 61, 62, 63, 64, 65, 66, 67, 68, 69, 70, 71, 72, 73, 74, 75, 76, 77, 78] (by decide +kernel) (by decide +kernel)
set_option maxRecDepth 20000 in
theorem gX0_weekPay_X0_shiftPay : GoodIn wsX0_weekPay (wsV RX0 97 RX0 yX0_shiftPay wsX0_shiftPay) := goodIn_app (goodIn_of _ (by decide +kernel)) ggX0_weekPay_X0_shiftPay
theorem dX0_weekPay_0 : decode cX0_weekPay 0 = .ok (.iconst 0, 1) := by decide +kernel
theorem dX0_weekPay_1 : decode cX0_weekPay 1 = .ok (.istore_n 3, 1) := by decide +kernel
theorem dX0_weekPay_2 : decode cX0_weekPay 2 = .ok (.iconst 0, 1) := by decide +kernel
theorem dX0_weekPay_3 : decode cX0_weekPay 3 = .ok (.istore 4, 2) := by decide +kernel
theorem dX0_weekPay_5 : decode cX0_weekPay 5 = .ok (.iload 4, 2) := by decide +kernel
theorem dX0_weekPay_7 : decode cX0_weekPay 7 = .ok (.aload_n 0, 1) := by decide +kernel
theorem dX0_weekPay_8 : decode cX0_weekPay 8 = .ok (.getfield 32, 3) := by decide +kernel
theorem dX0_weekPay_11 : decode cX0_weekPay 11 = .ok (.if_icmp .ge 29, 3) := by decide +kernel
theorem dX0_weekPay_14 : decode cX0_weekPay 14 = .ok (.aload_n 0, 1) := by decide +kernel
theorem dX0_weekPay_15 : decode cX0_weekPay 15 = .ok (.iload 4, 2) := by decide +kernel
theorem dX0_weekPay_17 : decode cX0_weekPay 17 = .ok (.iload_n 1, 1) := by decide +kernel
theorem dX0_weekPay_18 : decode cX0_weekPay 18 = .ok (.iload_n 2, 1) := by decide +kernel
theorem dX0_weekPay_19 : decode cX0_weekPay 19 = .ok (.invokevirtual 87, 3) := by decide +kernel
theorem dX0_weekPay_22 : decode cX0_weekPay 22 = .ok (.ifCond .eq 12, 3) := by decide +kernel
theorem dX0_weekPay_25 : decode cX0_weekPay 25 = .ok (.iload_n 3, 1) := by decide +kernel
theorem dX0_weekPay_26 : decode cX0_weekPay 26 = .ok (.aload_n 0, 1) := by decide +kernel
theorem dX0_weekPay_27 : decode cX0_weekPay 27 = .ok (.iload 4, 2) := by decide +kernel
theorem dX0_weekPay_29 : decode cX0_weekPay 29 = .ok (.invokevirtual 97, 3) := by decide +kernel
theorem dX0_weekPay_32 : decode cX0_weekPay 32 = .ok (.iadd, 1) := by decide +kernel
theorem dX0_weekPay_33 : decode cX0_weekPay 33 = .ok (.istore_n 3, 1) := by decide +kernel
theorem dX0_weekPay_34 : decode cX0_weekPay 34 = .ok (.iinc 4 1, 3) := by decide +kernel
theorem dX0_weekPay_37 : decode cX0_weekPay 37 = .ok (.goto (-32), 3) := by decide +kernel
theorem dX0_weekPay_40 : decode cX0_weekPay 40 = .ok (.iload_n 3, 1) := by decide +kernel
theorem dX0_weekPay_41 : decode cX0_weekPay 41 = .ok (.ireturn, 1) := by decide +kernel
set_option maxRecDepth 20000 in
theorem ggX0_marginAt_X0_hoursAtSite : GoodIn wsX0_marginAt wsX0_hoursAtSite := goodIn_r _ [8, 9, 10, 11, 12, 13, 7, 14, 15, 16, 17, 18, 19, 20, 21, 22, 23, 24, 25, 26, 27, 28, 29, 30, 31, 32, 33, 34, 35, 36, 37, 38] (by decide +kernel) (by decide +kernel)
set_option maxRecDepth 20000 in
theorem gX0_marginAt_X0_hoursAtSite : GoodIn wsX0_marginAt (wsV RX0 144 RX0 yX0_hoursAtSite wsX0_hoursAtSite) := goodIn_app (goodIn_of _ (by decide +kernel)) ggX0_marginAt_X0_hoursAtSite
set_option maxRecDepth 20000 in
theorem ggX0_marginAt_X0_at : GoodIn wsX0_marginAt wsX0_at := goodIn_r _ [19] (by decide +kernel) (by decide +kernel)
set_option maxRecDepth 20000 in
theorem gX0_marginAt_X0_at : GoodIn wsX0_marginAt (va_wsS RX0 79 yX0_at wsX0_at) := goodIn_app (goodIn_of _ (by decide +kernel)) ggX0_marginAt_X0_at
theorem dX0_marginAt_0 : decode cX0_marginAt 0 = .ok (.aload_n 0, 1) := by decide +kernel
theorem dX0_marginAt_1 : decode cX0_marginAt 1 = .ok (.iload_n 1, 1) := by decide +kernel
theorem dX0_marginAt_2 : decode cX0_marginAt 2 = .ok (.iload_n 2, 1) := by decide +kernel
theorem dX0_marginAt_3 : decode cX0_marginAt 3 = .ok (.invokevirtual 144, 3) := by decide +kernel
theorem dX0_marginAt_6 : decode cX0_marginAt 6 = .ok (.aload_n 0, 1) := by decide +kernel
theorem dX0_marginAt_7 : decode cX0_marginAt 7 = .ok (.getfield 22, 3) := by decide +kernel
theorem dX0_marginAt_10 : decode cX0_marginAt 10 = .ok (.iload_n 1, 1) := by decide +kernel
theorem dX0_marginAt_11 : decode cX0_marginAt 11 = .ok (.invokestatic 79, 3) := by decide +kernel
theorem dX0_marginAt_14 : decode cX0_marginAt 14 = .ok (.if_icmp .lt 7, 3) := by decide +kernel
theorem dX0_marginAt_17 : decode cX0_marginAt 17 = .ok (.iconst 1, 1) := by decide +kernel
theorem dX0_marginAt_18 : decode cX0_marginAt 18 = .ok (.goto 4, 3) := by decide +kernel
theorem dX0_marginAt_21 : decode cX0_marginAt 21 = .ok (.iconst 0, 1) := by decide +kernel
theorem dX0_marginAt_22 : decode cX0_marginAt 22 = .ok (.istore_n 3, 1) := by decide +kernel
theorem dX0_marginAt_23 : decode cX0_marginAt 23 = .ok (.iload_n 3, 1) := by decide +kernel
theorem dX0_marginAt_24 : decode cX0_marginAt 24 = .ok (.ifCond .eq 14, 3) := by decide +kernel
theorem dX0_marginAt_27 : decode cX0_marginAt 27 = .ok (.aload_n 0, 1) := by decide +kernel
theorem dX0_marginAt_28 : decode cX0_marginAt 28 = .ok (.getfield 19, 3) := by decide +kernel
theorem dX0_marginAt_31 : decode cX0_marginAt 31 = .ok (.iload_n 1, 1) := by decide +kernel
theorem dX0_marginAt_32 : decode cX0_marginAt 32 = .ok (.invokestatic 79, 3) := by decide +kernel
theorem dX0_marginAt_35 : decode cX0_marginAt 35 = .ok (.goto 11, 3) := by decide +kernel
theorem dX0_marginAt_38 : decode cX0_marginAt 38 = .ok (.aload_n 0, 1) := by decide +kernel
theorem dX0_marginAt_39 : decode cX0_marginAt 39 = .ok (.getfield 16, 3) := by decide +kernel
theorem dX0_marginAt_42 : decode cX0_marginAt 42 = .ok (.iload_n 1, 1) := by decide +kernel
theorem dX0_marginAt_43 : decode cX0_marginAt 43 = .ok (.invokestatic 79, 3) := by decide +kernel
theorem dX0_marginAt_46 : decode cX0_marginAt 46 = .ok (.ireturn, 1) := by decide +kernel
theorem dX0_chargeFor_0 : decode cX0_chargeFor 0 = .ok (.iload_n 0, 1) := by decide +kernel
theorem dX0_chargeFor_1 : decode cX0_chargeFor 1 = .ok (.bipush 100, 2) := by decide +kernel
theorem dX0_chargeFor_3 : decode cX0_chargeFor 3 = .ok (.iload_n 1, 1) := by decide +kernel
theorem dX0_chargeFor_4 : decode cX0_chargeFor 4 = .ok (.iadd, 1) := by decide +kernel
theorem dX0_chargeFor_5 : decode cX0_chargeFor 5 = .ok (.imul, 1) := by decide +kernel
theorem dX0_chargeFor_6 : decode cX0_chargeFor 6 = .ok (.bipush 100, 2) := by decide +kernel
theorem dX0_chargeFor_8 : decode cX0_chargeFor 8 = .ok (.idiv, 1) := by decide +kernel
theorem dX0_chargeFor_9 : decode cX0_chargeFor 9 = .ok (.ireturn, 1) := by decide +kernel
set_option maxRecDepth 20000 in
theorem ggX0_weekCharge_X0_marginAt : GoodIn wsX0_weekCharge wsX0_marginAt := goodIn_r _ [6, 7, 8, 9, 10, 11, 12, 5, 13, 1, 14, 15, 16, 17, 18, 19, 20, 21, 22, 23, 24, 25, 26, 81, 82, 83, 84, 85, 86, 87, 88, 89, 90, 91, 92, 93, 94, 95, 96] (by decide +kernel) (by decide +kernel)
set_option maxRecDepth 20000 in
theorem gX0_weekCharge_X0_marginAt : GoodIn wsX0_weekCharge (wsV RX0 103 RX0 yX0_marginAt wsX0_marginAt) := goodIn_app (goodIn_of _ (by decide +kernel)) ggX0_weekCharge_X0_marginAt
set_option maxRecDepth 20000 in
theorem ggX0_weekCharge_X0_isAtSite : GoodIn wsX0_weekCharge wsX0_isAtSite := goodIn_r _ [18, 19, 20, 21, 22, 5, 23, 24, 25, 26, 81, 82, 83, 84, 85, 86, 87, 88, 89, 90, 91, 92, 93, 94, 95, 96] (by decide +kernel) (by decide +kernel)
set_option maxRecDepth 20000 in
theorem gX0_weekCharge_X0_isAtSite : GoodIn wsX0_weekCharge (wsV RX0 119 RX0 yX0_isAtSite wsX0_isAtSite) := goodIn_app (goodIn_of _ (by decide +kernel)) ggX0_weekCharge_X0_isAtSite
set_option maxRecDepth 20000 in
theorem ggX0_weekCharge_X0_shiftPay : GoodIn wsX0_weekCharge wsX0_shiftPay := goodIn_r _ [30, 14, 31, 19, 20, 32, 33, 34, 5, 35, 36, 37, 38, 39, 40, 41, 42, 43, 44, 45, 46, 47, 1, 21, 22, 23, 24, 25, 26, 48, 49, 50, 51, 52, 53, 54, 55, 56, 57, 58, 59, 60, 61, 62, 63, 64, 65, 66, 67, 68, 69, 70, 71, 72, 73, 74, 75, 76, 77, 81, 82, 83, 84, 85, 86, 87, 88, 89, 90, 91, 92, 93, 94, 95, 96] (by decide +kernel) (by decide +kernel)
set_option maxRecDepth 20000 in
theorem gX0_weekCharge_X0_shiftPay : GoodIn wsX0_weekCharge (wsV RX0 97 RX0 yX0_shiftPay wsX0_shiftPay) := goodIn_app (goodIn_of _ (by decide +kernel)) ggX0_weekCharge_X0_shiftPay
set_option maxRecDepth 20000 in
theorem ggX0_weekCharge_X0_chargeFor : GoodIn wsX0_weekCharge wsX0_chargeFor := goodIn_r _ [80] (by decide +kernel) (by decide +kernel)
set_option maxRecDepth 20000 in
theorem gX0_weekCharge_X0_chargeFor : GoodIn wsX0_weekCharge (va_wsS RX0 106 yX0_chargeFor wsX0_chargeFor) := goodIn_app (goodIn_of _ (by decide +kernel)) ggX0_weekCharge_X0_chargeFor
theorem dX0_weekCharge_0 : decode cX0_weekCharge 0 = .ok (.aload_n 0, 1) := by decide +kernel
theorem dX0_weekCharge_1 : decode cX0_weekCharge 1 = .ok (.iload_n 1, 1) := by decide +kernel
theorem dX0_weekCharge_2 : decode cX0_weekCharge 2 = .ok (.iload_n 2, 1) := by decide +kernel
theorem dX0_weekCharge_3 : decode cX0_weekCharge 3 = .ok (.invokevirtual 103, 3) := by decide +kernel
theorem dX0_weekCharge_6 : decode cX0_weekCharge 6 = .ok (.istore_n 3, 1) := by decide +kernel
theorem dX0_weekCharge_7 : decode cX0_weekCharge 7 = .ok (.iconst 0, 1) := by decide +kernel
theorem dX0_weekCharge_8 : decode cX0_weekCharge 8 = .ok (.istore 4, 2) := by decide +kernel
theorem dX0_weekCharge_10 : decode cX0_weekCharge 10 = .ok (.iconst 0, 1) := by decide +kernel
theorem dX0_weekCharge_11 : decode cX0_weekCharge 11 = .ok (.istore 5, 2) := by decide +kernel
theorem dX0_weekCharge_13 : decode cX0_weekCharge 13 = .ok (.iload 5, 2) := by decide +kernel
theorem dX0_weekCharge_15 : decode cX0_weekCharge 15 = .ok (.aload_n 0, 1) := by decide +kernel
theorem dX0_weekCharge_16 : decode cX0_weekCharge 16 = .ok (.getfield 32, 3) := by decide +kernel
theorem dX0_weekCharge_19 : decode cX0_weekCharge 19 = .ok (.if_icmp .ge 35, 3) := by decide +kernel
theorem dX0_weekCharge_22 : decode cX0_weekCharge 22 = .ok (.aload_n 0, 1) := by decide +kernel
theorem dX0_weekCharge_23 : decode cX0_weekCharge 23 = .ok (.iload 5, 2) := by decide +kernel
theorem dX0_weekCharge_25 : decode cX0_weekCharge 25 = .ok (.iload_n 1, 1) := by decide +kernel
theorem dX0_weekCharge_26 : decode cX0_weekCharge 26 = .ok (.iload_n 2, 1) := by decide +kernel
theorem dX0_weekCharge_27 : decode cX0_weekCharge 27 = .ok (.invokevirtual 119, 3) := by decide +kernel
theorem dX0_weekCharge_30 : decode cX0_weekCharge 30 = .ok (.ifCond .eq 18, 3) := by decide +kernel
theorem dX0_weekCharge_33 : decode cX0_weekCharge 33 = .ok (.iload 4, 2) := by decide +kernel
theorem dX0_weekCharge_35 : decode cX0_weekCharge 35 = .ok (.aload_n 0, 1) := by decide +kernel
theorem dX0_weekCharge_36 : decode cX0_weekCharge 36 = .ok (.iload 5, 2) := by decide +kernel
theorem dX0_weekCharge_38 : decode cX0_weekCharge 38 = .ok (.invokevirtual 97, 3) := by decide +kernel
theorem dX0_weekCharge_41 : decode cX0_weekCharge 41 = .ok (.iload_n 3, 1) := by decide +kernel
theorem dX0_weekCharge_42 : decode cX0_weekCharge 42 = .ok (.invokestatic 106, 3) := by decide +kernel
theorem dX0_weekCharge_45 : decode cX0_weekCharge 45 = .ok (.iadd, 1) := by decide +kernel
theorem dX0_weekCharge_46 : decode cX0_weekCharge 46 = .ok (.istore 4, 2) := by decide +kernel
theorem dX0_weekCharge_48 : decode cX0_weekCharge 48 = .ok (.iinc 5 1, 3) := by decide +kernel
theorem dX0_weekCharge_51 : decode cX0_weekCharge 51 = .ok (.goto (-38), 3) := by decide +kernel
theorem dX0_weekCharge_54 : decode cX0_weekCharge 54 = .ok (.iload 4, 2) := by decide +kernel
theorem dX0_weekCharge_56 : decode cX0_weekCharge 56 = .ok (.ireturn, 1) := by decide +kernel
theorem dX0_needOneOf_0 : decode cX0_needOneOf 0 = .ok (.iload_n 0, 1) := by decide +kernel
theorem dX0_needOneOf_1 : decode cX0_needOneOf 1 = .ok (.ifCond .lt 8, 3) := by decide +kernel
theorem dX0_needOneOf_4 : decode cX0_needOneOf 4 = .ok (.iload_n 0, 1) := by decide +kernel
theorem dX0_needOneOf_5 : decode cX0_needOneOf 5 = .ok (.iload_n 1, 1) := by decide +kernel
theorem dX0_needOneOf_6 : decode cX0_needOneOf 6 = .ok (.if_icmp .lt 13, 3) := by decide +kernel
theorem dX0_needOneOf_9 : decode cX0_needOneOf 9 = .ok (.new 147, 3) := by decide +kernel
theorem dX0_needOneOf_12 : decode cX0_needOneOf 12 = .ok (.dup, 1) := by decide +kernel
theorem dX0_needOneOf_13 : decode cX0_needOneOf 13 = .ok (.ldc 149, 2) := by decide +kernel
theorem dX0_needOneOf_15 : decode cX0_needOneOf 15 = .ok (.invokespecial 151, 3) := by decide +kernel
theorem dX0_needOneOf_18 : decode cX0_needOneOf 18 = .ok (.athrow, 1) := by decide +kernel
theorem dX0_needOneOf_19 : decode cX0_needOneOf 19 = .ok (.return_, 1) := by decide +kernel
theorem dX0_needRange_0 : decode cX0_needRange 0 = .ok (.iload_n 0, 1) := by decide +kernel
theorem dX0_needRange_1 : decode cX0_needRange 1 = .ok (.iload_n 1, 1) := by decide +kernel
theorem dX0_needRange_2 : decode cX0_needRange 2 = .ok (.if_icmp .lt 8, 3) := by decide +kernel
theorem dX0_needRange_5 : decode cX0_needRange 5 = .ok (.iload_n 0, 1) := by decide +kernel
theorem dX0_needRange_6 : decode cX0_needRange 6 = .ok (.iload_n 2, 1) := by decide +kernel
theorem dX0_needRange_7 : decode cX0_needRange 7 = .ok (.if_icmp .le 13, 3) := by decide +kernel
theorem dX0_needRange_10 : decode cX0_needRange 10 = .ok (.new 154, 3) := by decide +kernel
theorem dX0_needRange_13 : decode cX0_needRange 13 = .ok (.dup, 1) := by decide +kernel
theorem dX0_needRange_14 : decode cX0_needRange 14 = .ok (.ldc 156, 2) := by decide +kernel
theorem dX0_needRange_16 : decode cX0_needRange 16 = .ok (.invokespecial 158, 3) := by decide +kernel
theorem dX0_needRange_19 : decode cX0_needRange 19 = .ok (.athrow, 1) := by decide +kernel
theorem dX0_needRange_20 : decode cX0_needRange 20 = .ok (.return_, 1) := by decide +kernel
theorem dX0_needState_0 : decode cX0_needState 0 = .ok (.iload_n 0, 1) := by decide +kernel
theorem dX0_needState_1 : decode cX0_needState 1 = .ok (.ifCond .ne 13, 3) := by decide +kernel
theorem dX0_needState_4 : decode cX0_needState 4 = .ok (.new 159, 3) := by decide +kernel
theorem dX0_needState_7 : decode cX0_needState 7 = .ok (.dup, 1) := by decide +kernel
theorem dX0_needState_8 : decode cX0_needState 8 = .ok (.ldc 161, 2) := by decide +kernel
theorem dX0_needState_10 : decode cX0_needState 10 = .ok (.invokespecial 163, 3) := by decide +kernel
theorem dX0_needState_13 : decode cX0_needState 13 = .ok (.athrow, 1) := by decide +kernel
theorem dX0_needState_14 : decode cX0_needState 14 = .ok (.return_, 1) := by decide +kernel
theorem dX0_at_0 : decode cX0_at 0 = .ok (.iload_n 1, 1) := by decide +kernel
theorem dX0_at_1 : decode cX0_at 1 = .ok (.ifCond .lt 15, 3) := by decide +kernel
theorem dX0_at_4 : decode cX0_at 4 = .ok (.iload_n 1, 1) := by decide +kernel
theorem dX0_at_5 : decode cX0_at 5 = .ok (.aload_n 0, 1) := by decide +kernel
theorem dX0_at_6 : decode cX0_at 6 = .ok (.arraylength, 1) := by decide +kernel
theorem dX0_at_7 : decode cX0_at 7 = .ok (.if_icmp .ge 9, 3) := by decide +kernel
theorem dX0_at_10 : decode cX0_at 10 = .ok (.aload_n 0, 1) := by decide +kernel
theorem dX0_at_11 : decode cX0_at 11 = .ok (.iload_n 1, 1) := by decide +kernel
theorem dX0_at_12 : decode cX0_at 12 = .ok (.iaload, 1) := by decide +kernel
theorem dX0_at_13 : decode cX0_at 13 = .ok (.goto 4, 3) := by decide +kernel
theorem dX0_at_16 : decode cX0_at 16 = .ok (.iconst 0, 1) := by decide +kernel
theorem dX0_at_17 : decode cX0_at 17 = .ok (.ireturn, 1) := by decide +kernel
theorem dX0_put_0 : decode cX0_put 0 = .ok (.iload_n 1, 1) := by decide +kernel
theorem dX0_put_1 : decode cX0_put 1 = .ok (.ifCond .lt 13, 3) := by decide +kernel
theorem dX0_put_4 : decode cX0_put 4 = .ok (.iload_n 1, 1) := by decide +kernel
theorem dX0_put_5 : decode cX0_put 5 = .ok (.aload_n 0, 1) := by decide +kernel
theorem dX0_put_6 : decode cX0_put 6 = .ok (.arraylength, 1) := by decide +kernel
theorem dX0_put_7 : decode cX0_put 7 = .ok (.if_icmp .ge 7, 3) := by decide +kernel
theorem dX0_put_10 : decode cX0_put 10 = .ok (.aload_n 0, 1) := by decide +kernel
theorem dX0_put_11 : decode cX0_put 11 = .ok (.iload_n 1, 1) := by decide +kernel
theorem dX0_put_12 : decode cX0_put 12 = .ok (.iload_n 2, 1) := by decide +kernel
theorem dX0_put_13 : decode cX0_put 13 = .ok (.iastore, 1) := by decide +kernel
theorem dX0_put_14 : decode cX0_put 14 = .ok (.return_, 1) := by decide +kernel
end
section
/-! 'throw new E(text)' once more: what is thrown is a new cell (the row is the printed one's, with its end told more closely) -/
section T1
variable {p : Program} {l : Launch} {e : Env} {R : Room} {s : State} {m : MethodId} {args : Array Value} {below : List Frame} {meth : Method} {c : Code} {H : Heap} {locs : List Loc} {cells slots : Nat}
variable {free : Addr → Prop} {ls : Array Slot} {rest : List Value}
variable {Qc : Array Value → State → Outcome → State → Prop} {XC : String → State → State → Prop}
theorem vx_throwS1 {cc : ByteArray} {pc : Nat} (hexec : p.tables.exec = Jvm.exec) (hb : c.code = cc) (hl : l.stackTraces = false) {own cls text : String} {names : List String} {ik is ic mc ms sa : Nat} {A : Nat → Prop}
    (hown : s.vm.findClass own = some m.cls) (hcls : Bundle.fit cls = true) (hnames : ∀ n ∈ names, Bundle.fit n = true)
    (hk : (Cond.classLink own ik cls).before args s = true) (hini : (Cond.initialized cls).before args s = true) (hstr : vk_R own is text sa s) (hat : ∀ w ∈ vx_atS own ic cls names, w.before args s = true)
    (hgood : ∀ w ∈ Cond.classLink own ik cls :: Cond.initialized cls :: vx_atS own ic cls names, vx_ot w = true)
    (hU : vx_Zq Bundle.tN "UNASSIGNED_STACK" Bundle.steD A s s.heap) (hN : vx_Zq Bundle.tN "SUPPRESSED_SENTINEL" Bundle.listD A s s.heap) (hS : va_S A s.heap H locs) (hsize : ls.size = c.maxLocals)
    (d0 : decode cc pc = .ok (.new ik, 3)) (d3 : decode cc (pc + 3) = .ok (.dup, 1)) (d4 : decode cc (pc + 4) = .ok (.ldc is, 2)) (d6 : decode cc (pc + 6) = .ok (.invokespecial ic, 3)) (d9 : decode cc (pc + 9) = .ok (.athrow, 1))
    (hout : ∀ x ∈ c.exceptionTable.toList, covers x (pc + 9) = false)
    (hRframes : names.length + 3 < R.frames) (hRlocals : (rest.map fun v => v.category).sum + (13 * (names.length + 1) + 43) ≤ R.locals) (hRcells : cells + 1 ≤ R.cells) (hRslots : slots + 6 ≤ R.slots) (hlocks : meth.locks = false)
    (hx : ∀ t : State, s.vm.Alike t.vm → H.size + 1 ≤ t.heap.size → (∀ q : Nat, q < H.size → t.heap[q]? = H[q]?) → XC cls s t)
    (hf : ∀ z ∈ locs, free z.base) (hc : cells + 1 ≤ mc) (hs : slots + 6 ≤ ms) :
    W p l e R s m args below meth c H locs cells slots (vx_MQ below Qc XC args s mc ms free) (F0 m pc ls rest) := by
  intro T hT X
  have htr : e.platform.stackTraces = false := (show e.platform.stackTraces = l.stackTraces by rw [X.admits.platform]).trans hl
  have Y := vx_rebase X (R' := { frames := R.frames, locals := R.locals, cells := 1, slots := 6 }) (Nat.le_refl _) (Nat.le_refl _) hRcells hRslots
  obtain ⟨s', hA⟩ : ∃ z, z = (T.setVm s.vm).setFrames (.invoking m args :: below) := ⟨_, rfl⟩
  rw [← hA] at Y
  have hvm : s'.vm = s.vm := by rw [hA]; rfl
  have hhp : s'.heap = H := by rw [hA]; exact hT
  have hW0 : s.WarmedH s'.vm := by rw [hvm]; exact State.WarmedH.refl s
  have hat' : ∀ w ∈ vx_atS own ic cls names, w.before args s' = true := fun w hw => vx_ot_at hW0 hvm.symm (hgood w (List.mem_cons_of_mem _ (List.mem_cons_of_mem _ hw))) (hat w hw)
  have hk' : (Cond.classLink own ik cls).before args s' = true := vx_ot_at hW0 hvm.symm (hgood _ List.mem_cons_self) hk
  have hini' : (Cond.initialized cls).before args s' = true := vx_ot_at hW0 hvm.symm (hgood _ (List.mem_cons_of_mem _ List.mem_cons_self)) hini
  have hU' : vx_Zq Bundle.tN "UNASSIGNED_STACK" Bundle.steD A s' s'.heap := by rw [hhp]; exact vx_Zq.moved hW0.alike (hU.kept hS.2.1)
  have hN' : vx_Zq Bundle.tN "SUPPRESSED_SENTINEL" Bundle.listD A s' s'.heap := by rw [hhp]; exact vx_Zq.moved hW0.alike (hN.kept hS.2.1)
  have h : ∀ w ∈ Bundle.ownAtoms own ic cls names, w.before args s' = true := vx_own hat' (vx_isRefq hU'.1) (vx_isRefq hN'.1) hU'.2.word hN'.2.word
  have hown' : s'.vm.findClass own = some m.cls := by rw [hvm]; exact hown
  have hins : (Cond.instantiable cls 6).before args s' = true := h _ (by simp [Bundle.ownAtoms])
  obtain ⟨vm₁, cX, kX, hfX, hkX, -, -, X₁, st1⟩ := Y.newCold hexec (own := own) (C := cls) (index := ik) (n := 6) hown' hk' hins hini'
    (g := F0 m pc ls rest) rfl (by rw [hb]; exact d0) (Nat.le_refl _) (Nat.le_refl _)
  generalize hT1 : (T.setVm vm₁).pushCell { cls := cX, slots := kX.instanceTypes.map defaultValue, vm := .none } = T1 at X₁ st1
  have hcat : (Value.ref T.heap.size).category = 1 := rfl
  have hcellA : T1.heap[T.heap.size]? = some (freshCell cX kX) := by rw [← hT1]; exact State.heap_pushCell_size _ _
  have d3' : decode c.code (pc + 3) = .ok (.dup, 1) := by rw [hb]; exact d3
  have d4' : decode c.code (pc + 4) = .ok (.ldc is, 2) := by rw [hb]; exact d4
  have hstr' : vk_R own is text sa s' := vk_R.warm hW0 hstr
  obtain ⟨U, hsteps, hrun, hend, hW, hsame, ce, hce, hO⟩ := X₁.ctorThrowS hexec htr (own := own) (cls := cls) (names := names) (ic := ic) hown' hcls hnames h (fun x hx => nomatch hx) hfX hkX hcellA (by rw [hhp, hT]; exact Nat.le_refl _) (msg := .ref sa) rfl
    (g := { method := m, pc := pc + 6, locals := ls, stack := .ref sa :: .ref T.heap.size :: .ref T.heap.size :: rest, locked := none }) rfl hsize rfl rfl (rest := rest) rfl
    (by rw [hb]; exact d6) (by rw [hb]; exact d9) hout hRframes (by simp only [List.map_cons, List.sum_cons, hcat]; omega) hlocks
  obtain ⟨f1, f2⟩ := vx_frame hsame
  rw [hhp] at f1 f2
  have hWs : s.WarmedH U.vm := State.WarmedH.trans hW0 hW
  have hcl : s.vm.findClass cls = some ce.cls := by
    have h9 := hO.cls
    rw [hvm] at h9
    exact h9
  have hall : s.sameButNew ({ U with vm := s.vm } : State) locs mc ms := by
    subst hA
    obtain ⟨e1, e2⟩ := hsame
    rw [State.setFrames_setFrames] at e1
    have h2 : (T.setVm s.vm).sameButNew ({ U with vm := s.vm } : State) [] (0 + 1) (0 + 6) := ⟨e1, e2⟩
    have h3 := X.same.trans h2
    rw [List.append_nil] at h3
    exact h3.mono hc hs
  refine ⟨U, ?_, .threw T.heap.size, hrun, hend, Or.inr ⟨T.heap.size, rfl, cls, ce, locs, hx U hWs.alike (by have h9 := (Array.getElem?_eq_some_iff.mp hce).1; rw [hT] at h9; exact h9) (fun q hq => f2 q hq (fun z hz => nomatch hz)), hce, hO.vm, hcl, hWs, hall, hf⟩⟩
  refine st1 _ ?_
  show Steps p.tables e below (T1.setTop { method := m, pc := pc + 3, locals := ls, stack := .ref T.heap.size :: rest, locked := none }) _
  jvm_step X₁.here [X₁.here.top, hexec, d3', Value.category]
  exact X₁.ldcString hexec (own := own) (text := text) (index := is) (a := sa) hown' hstr'.1 hstr'.2
    (g := { method := m, pc := pc + 4, locals := ls, stack := .ref T.heap.size :: .ref T.heap.size :: rest, locked := none }) rfl d4' _ hsteps
end T1
end
section
/-! FRAME: the worlds of the two classes, and the kinds of contract that this claim's methods have -/
abbrev fsX (a : Nat → Nat) (F : Nat → Nat → Int32) : List Value := [.ref (a 0), .ref (a 1), .ref (a 2), .ref (a 3), .ref (a 4), .int (F 5 0), .int (F 6 0), .int (F 7 0), .ref (a 8), .ref (a 9), .ref (a 10), .ref (a 11), .ref (a 12), .ref (a 13), .ref (a 14), .ref (a 15)]
/-- the class' object, its rows; g: the row aheadOnDay -/
abbrev wX (a : Nat → Nat) (cA : ClassId) (F : Nat → Nat → Int32) (g : Nat → Int32) : va_W := [(a 16, .inr (0, fsX a F)), (a 0, .inl (cA, 4, .inl (F 0))), (a 1, .inl (cA, 4, .inl (F 1))), (a 2, .inl (cA, 4, .inl (F 2))), (a 3, .inl (cA, 4, .inl (F 3))), (a 4, .inl (cA, 4, .inl (F 4))), (a 8, .inl (cA, 80, .inl (F 8))), (a 9, .inl (cA, 80, .inl (F 9))), (a 10, .inl (cA, 80, .inl (F 10))), (a 11, .inl (cA, 80, .inl (F 11))), (a 12, .inl (cA, 120, .inl (F 12))), (a 13, .inl (cA, 80, .inl (F 13))), (a 14, .inl (cA, 6, .inl (F 14))), (a 15, .inl (cA, 7, .inl g))]
/-- a row of the state is written at one place -/
def fUp (F : Nat → Nat → Int32) (k j : Nat) (v : Int32) : Nat → Nat → Int32 := fun b => if b = k then upd (F b) j v else F b
abbrev KA (D : va_G) (cA : ClassId) (U : State) : Prop := va_K D vwCl [(cA, .int)] U
/-- a read that answers v; the heap stays -/
def Rd (l : Launch) (D : va_G) (cA : ClassId) (w : va_W) (y : MethodName) (ws : List Cond) (rm : Room) (As : List Value) (v : Int32) : Prop :=
  Met l y ws rm (va_Pc As (fun U => va_P D vwCl w U.heap ∧ KA D cA U)) (vp_Si (fun r => r = v)) 0 0 (fun _ => False)
/-- the same without an answer -/
def Ru (l : Launch) (D : va_G) (cA : ClassId) (w : va_W) (y : MethodName) (ws : List Cond) (rm : Room) (As : List Value) : Prop :=
  Met l y ws rm (va_Pc As (fun U => va_P D vwCl w U.heap ∧ KA D cA U)) (va_Sv (fun _ => True)) 0 0 (fun _ => False)
abbrev WB {S : Type} (D : va_G) (cA : ClassId) (w : S → va_W) (A : Nat → Prop) : S → State → Prop := fun u t => va_P D vwCl (w u) t.heap ∧ KA D cA t ∧ va_D A (w u)
abbrev WP (D : va_G) (cA : ClassId) (w0 : va_W) (sz : Nat) (As : List Value) : Array Value → State → Prop := va_Pc As (fun U => U.heap.size = sz ∧ va_P D vwCl w0 U.heap ∧ KA D cA U ∧ va_D (fun _ => True) w0)
/-- a write that answers r and leaves the world w u, post r u -/
def Wi (l : Launch) (D : va_G) (cA : ClassId) {S : Type} (w0 : va_W) (w : S → va_W) (y : MethodName) (ws : List Cond) (rm : Room) (As : List Value) (post : Int32 → S → Prop) : Prop :=
  ∀ sz : Nat, Met l y ws rm (WP D cA w0 sz As) (va_Qi post (WB D cA w (va_A w0 sz)) (va_A w0 sz)) 0 0 (va_A w0 sz)
def Wv (l : Launch) (D : va_G) (cA : ClassId) {S : Type} (w0 : va_W) (w : S → va_W) (y : MethodName) (ws : List Cond) (rm : Room) (As : List Value) (post : S → Prop) : Prop :=
  ∀ sz : Nat, Met l y ws rm (WP D cA w0 sz As) (va_Qv post (WB D cA w (va_A w0 sz)) (va_A w0 sz)) 0 0 (va_A w0 sz)
def eI : String := "java/lang/IndexOutOfBoundsException"
def eA : String := "java/lang/IllegalArgumentException"
def eS : String := "java/lang/IllegalStateException"
def iS (c : String) : MethodName := ⟨c, "<init>", "(Ljava/lang/String;)V"⟩
/-- what a throw needs of the start: two statics of Throwable, the three texts, what can be cast, what is declared -/
def ZU (U : State) : Prop := vx_Zq Bundle.tN "UNASSIGNED_STACK" Bundle.steD (fun q => U.heap.size ≤ q) U U.heap ∧ vx_Zq Bundle.tN "SUPPRESSED_SENTINEL" Bundle.listD (fun q => U.heap.size ≤ q) U U.heap ∧ (∃ a1 : Nat, vk_R RX0 149 "there is no such worker, site, shift or week" a1 U) ∧ (∃ a2 : Nat, vk_R RX0 156 "an argument is out of range" a2 U) ∧ (∃ a3 : Nat, vk_R RX0 161 "the shifts and holidays so far do not allow this" a3 U) ∧
  va_Nw (.castable eI eI) U ∧ va_Nw (.castable eA eA) U ∧ va_Nw (.castable eS eS) U ∧ va_Nw (.declares (iS "java/lang/RuntimeException")) U ∧ va_Nw (.declares (iS "java/lang/Exception")) U ∧ va_Nw (.declares (iS "java/lang/Throwable")) U
/-- thrown: an E, and what was there stays -/
def xSame (E : String) : String → State → State → Prop := fun E' st t => E' = E ∧ st.heap.size + 1 ≤ t.heap.size ∧ ∀ q : Nat, q < st.heap.size → t.heap[q]? = st.heap[q]?
def noQ : Array Value → State → Outcome → State → Prop := fun _ _ _ _ => False
/-- it throws an E -/
def Bx (l : Launch) (D : va_G) (cA : ClassId) (w : va_W) (y : MethodName) (ws : List Cond) (rm : Room) (As : List Value) (E : String) : Prop :=
  ∀ sz : Nat, vx_Met l y ws rm (va_Pc As (fun U => U.heap.size = sz ∧ va_P D vwCl w U.heap ∧ KA D cA U ∧ ZU U)) noQ (xSame E) 1 6 (fun q => sz ≤ q)
theorem ZU.moved {u U : State} (hh : U.heap = u.heap) (hvm : u.vm.Alike U.vm) (hR : ∀ (k : Nat) (tx : String) (a : Nat), vk_R RX0 k tx a u → vk_R RX0 k tx a U) (hC : ∀ c t : String, va_Nw (.castable c t) u → va_Nw (.castable c t) U) (hd : ∀ x : MethodName, va_Nw (.declares x) u → va_Nw (.declares x) U) (h : ZU u) : ZU U := by
  obtain ⟨h1, h2, ⟨a1, h3⟩, ⟨a2, h4⟩, ⟨a3, h5⟩, h6, h7, h8, h9, h10, h11⟩ := h
  refine ⟨?_, ?_, ⟨a1, hR _ _ _ h3⟩, ⟨a2, hR _ _ _ h4⟩, ⟨a3, hR _ _ _ h5⟩, hC _ _ h6, hC _ _ h7, hC _ _ h8, hd _ h9, hd _ h10, hd _ h11⟩
  · rw [hh]; exact vx_Zq.moved hvm h1
  · rw [hh]; exact vx_Zq.moved hvm h2
theorem ZU.same {u U : State} (hh : U.heap = u.heap) (hvm : u.vm = U.vm) (h : ZU u) : ZU U :=
  ZU.moved hh (by rw [hvm]; exact Vm.Alike.refl U.vm) (fun k tx a h9 => vk_R.same hvm.symm h9) (fun c t h9 => va_Nw.same rfl hvm h9) (fun x h9 => va_Nw.same rfl hvm h9) h
theorem ZU.warm {s U : State} (hh : U.heap = s.heap) (hW : s.WarmedH U.vm) (h : ZU s) : ZU U :=
  ZU.moved hh hW.alike (fun k tx a h9 => vk_R.warm hW h9) (fun c t h9 => va_Nw.warmC hW h9) (fun x h9 => va_Nw.warmD hW h9) h
section ENTRY
variable {l : Launch} {D : va_G} {cA : ClassId} {y : MethodName} {ws ws' : List Cond} {rm : Room} {As : List Value} {cc : ByteArray} {maxL : Nat}
theorem Rd.of {w : va_W} {v : Int32} (hy : plainName y.cls = true) (hw : ws = Cond.code y cc maxL (some .int) :: ws') (hn : (lg_sl As).length ≤ maxL)
    (body : ∀ (p : Program) (e : Env) (s : State) (m : MethodId) (args : Array Value) (below : List Frame) (meth : Method) (c : Code) (ls : Array Slot) (Q : State → Prop), p.tables.exec = Jvm.exec → c.code = cc → (∀ w ∈ ws, w.before args s = true) → s.vm.findClass y.cls = some m.cls → c.maxLocals = maxL → KA D cA s → va_P D vwCl w s.heap → lv_has ls maxL (lv_args 0 As) → (∀ (pc : Nat) (ls : Array Slot) (v' : Int32), decode cc pc = .ok (.ireturn, 1) → v' = v → W p l e rm s m args below meth c s.heap [] 0 0 Q (F0 m pc ls [.int v'])) →
      W p l e rm s m args below meth c s.heap [] 0 0 Q (F0 m 0 ls [])) : Rd l D cA w y ws rm As v := by
  refine Met.ofW (cc := cc) (maxL := maxL) (ret := (some .int)) hy hw ?_
  intro p e s m args below meth c s₁ B hml hv
  obtain ⟨rfl, hP, hK⟩ := hv
  rw [lg_entry_eq]
  exact body p e s m _ below meth c _ _ B.exec B.bytes (atoms_spec (ws := ws) B.pre) (findClass_of_methodNamed B.named) hml hK hP (lv_entry As (n := maxL) hn)
    (fun pc ls v' hd hv' => by subst hv'; exact W.iret (v := v') B.exec B.bytes B.returns (fun t ht hW => ⟨v', rfl, rfl, ht⟩) (fun _ h => nomatch h) hd B.notSynchronized)
theorem Rd.ofz {w : va_W} {v : Int32} (hy : plainName y.cls = true) (hw : ws = Cond.code y cc maxL (some .boolean) :: ws') (hn : (lg_sl As).length ≤ maxL)
    (body : ∀ (p : Program) (e : Env) (s : State) (m : MethodId) (args : Array Value) (below : List Frame) (meth : Method) (c : Code) (ls : Array Slot) (Q : State → Prop), p.tables.exec = Jvm.exec → c.code = cc → (∀ w ∈ ws, w.before args s = true) → s.vm.findClass y.cls = some m.cls → c.maxLocals = maxL → KA D cA s → va_P D vwCl w s.heap → lv_has ls maxL (lv_args 0 As) → (∀ (pc : Nat) (ls : Array Slot) (v' : Int32), decode cc pc = .ok (.ireturn, 1) → v' = v → (v' = 0 ∨ v' = 1) → W p l e rm s m args below meth c s.heap [] 0 0 Q (F0 m pc ls [.int v'])) →
      W p l e rm s m args below meth c s.heap [] 0 0 Q (F0 m 0 ls [])) : Rd l D cA w y ws rm As v := by
  refine Met.ofW (cc := cc) (maxL := maxL) (ret := (some .boolean)) hy hw ?_
  intro p e s m args below meth c s₁ B hml hv
  obtain ⟨rfl, hP, hK⟩ := hv
  rw [lg_entry_eq]
  exact body p e s m _ below meth c _ _ B.exec B.bytes (atoms_spec (ws := ws) B.pre) (findClass_of_methodNamed B.named) hml hK hP (lv_entry As (n := maxL) hn)
    (fun pc ls v' hd hv' hz => by subst hv'; exact W.zret (v := v') B.exec B.bytes B.returns (by rcases hz with h | h <;> subst h <;> rfl) (fun t ht hW => ⟨v', rfl, rfl, ht⟩) (fun _ h => nomatch h) hd B.notSynchronized)
theorem Ru.of {w : va_W} (hy : plainName y.cls = true) (hw : ws = Cond.code y cc maxL none :: ws') (hn : (lg_sl As).length ≤ maxL)
    (body : ∀ (p : Program) (e : Env) (s : State) (m : MethodId) (args : Array Value) (below : List Frame) (meth : Method) (c : Code) (ls : Array Slot) (Q : State → Prop), p.tables.exec = Jvm.exec → c.code = cc → (∀ w ∈ ws, w.before args s = true) → s.vm.findClass y.cls = some m.cls → c.maxLocals = maxL → KA D cA s → va_P D vwCl w s.heap → lv_has ls maxL (lv_args 0 As) → (∀ (pc : Nat) (ls : Array Slot), decode cc pc = .ok (.return_, 1) → W p l e rm s m args below meth c s.heap [] 0 0 Q (F0 m pc ls [])) →
      W p l e rm s m args below meth c s.heap [] 0 0 Q (F0 m 0 ls [])) : Ru l D cA w y ws rm As := by
  refine Met.ofW (cc := cc) (maxL := maxL) (ret := none) hy hw ?_
  intro p e s m args below meth c s₁ B hml hv
  obtain ⟨rfl, hP, hK⟩ := hv
  rw [lg_entry_eq]
  exact body p e s m _ below meth c _ _ B.exec B.bytes (atoms_spec (ws := ws) B.pre) (findClass_of_methodNamed B.named) hml hK hP (lv_entry As (n := maxL) hn)
    (fun pc ls hd => W.vret B.exec B.bytes B.returns (fun t ht hW => ⟨rfl, trivial, ht⟩) (fun _ h => nomatch h) hd B.notSynchronized)
theorem Wi.of {S : Type} {w0 : va_W} {w : S → va_W} {post : Int32 → S → Prop} (hy : plainName y.cls = true) (hw : ws = Cond.code y cc maxL (some .int) :: ws') (hn : (lg_sl As).length ≤ maxL)
    (body : ∀ (p : Program) (e : Env) (s : State) (m : MethodId) (args : Array Value) (below : List Frame) (meth : Method) (c : Code) (ls : Array Slot) (A : Nat → Prop) (Q : State → Prop), p.tables.exec = Jvm.exec → c.code = cc → (∀ w ∈ ws, w.before args s = true) → s.vm.findClass y.cls = some m.cls → c.maxLocals = maxL → KA D cA s → va_P D vwCl w0 s.heap → va_D A w0 → (∀ q : Nat, s.heap.size ≤ q → A q) → va_S A s.heap s.heap [] → lv_has ls maxL (lv_args 0 As) → (∀ (pc : Nat) (ls : Array Slot) (v : Int32) (u : S) (H : Heap) (locs : List Loc), decode cc pc = .ok (.ireturn, 1) → va_P D vwCl (w u) H → va_D A (w u) → va_S A s.heap H locs → post v u → W p l e rm s m args below meth c H locs 0 0 Q (F0 m pc ls [.int v])) →
      W p l e rm s m args below meth c s.heap [] 0 0 Q (F0 m 0 ls [])) : Wi l D cA w0 w y ws rm As post := by
  intro sz
  refine Met.ofW (cc := cc) (maxL := maxL) (ret := (some .int)) hy hw ?_
  intro p e s m args below meth c s₁ B hml hv
  obtain ⟨rfl, hsz, hP, hK, hD⟩ := hv
  subst hsz
  rw [lg_entry_eq]
  exact body p e s m _ below meth c _ _ _ B.exec B.bytes (atoms_spec (ws := ws) B.pre) (findClass_of_methodNamed B.named) hml hK hP hD.self (fun q h => Or.inr h) va_S.rf (lv_entry As (n := maxL) hn)
    (fun pc ls v u H locs hd hP hD hS hpost => W.iret (v := v) B.exec B.bytes B.returns (fun t ht hW => ⟨⟨v, u, rfl, hpost, by rw [ht]; exact hP, va_K.moved hW.alike hK, hD⟩, hS.F ht⟩) hS.2.2 hd B.notSynchronized)
theorem Wi.ofz {S : Type} {w0 : va_W} {w : S → va_W} {post : Int32 → S → Prop} (hy : plainName y.cls = true) (hw : ws = Cond.code y cc maxL (some .boolean) :: ws') (hn : (lg_sl As).length ≤ maxL)
    (body : ∀ (p : Program) (e : Env) (s : State) (m : MethodId) (args : Array Value) (below : List Frame) (meth : Method) (c : Code) (ls : Array Slot) (A : Nat → Prop) (Q : State → Prop), p.tables.exec = Jvm.exec → c.code = cc → (∀ w ∈ ws, w.before args s = true) → s.vm.findClass y.cls = some m.cls → c.maxLocals = maxL → KA D cA s → va_P D vwCl w0 s.heap → va_D A w0 → (∀ q : Nat, s.heap.size ≤ q → A q) → va_S A s.heap s.heap [] → lv_has ls maxL (lv_args 0 As) → (∀ (pc : Nat) (ls : Array Slot) (v : Int32) (u : S) (H : Heap) (locs : List Loc), decode cc pc = .ok (.ireturn, 1) → va_P D vwCl (w u) H → va_D A (w u) → va_S A s.heap H locs → post v u → (v = 0 ∨ v = 1) → W p l e rm s m args below meth c H locs 0 0 Q (F0 m pc ls [.int v])) →
      W p l e rm s m args below meth c s.heap [] 0 0 Q (F0 m 0 ls [])) : Wi l D cA w0 w y ws rm As post := by
  intro sz
  refine Met.ofW (cc := cc) (maxL := maxL) (ret := (some .boolean)) hy hw ?_
  intro p e s m args below meth c s₁ B hml hv
  obtain ⟨rfl, hsz, hP, hK, hD⟩ := hv
  subst hsz
  rw [lg_entry_eq]
  exact body p e s m _ below meth c _ _ _ B.exec B.bytes (atoms_spec (ws := ws) B.pre) (findClass_of_methodNamed B.named) hml hK hP hD.self (fun q h => Or.inr h) va_S.rf (lv_entry As (n := maxL) hn)
    (fun pc ls v u H locs hd hP hD hS hpost hz => W.zret (v := v) B.exec B.bytes B.returns (by rcases hz with h | h <;> subst h <;> rfl) (fun t ht hW => ⟨⟨v, u, rfl, hpost, by rw [ht]; exact hP, va_K.moved hW.alike hK, hD⟩, hS.F ht⟩) hS.2.2 hd B.notSynchronized)
theorem Wv.of {S : Type} {w0 : va_W} {w : S → va_W} {post : S → Prop} (hy : plainName y.cls = true) (hw : ws = Cond.code y cc maxL none :: ws') (hn : (lg_sl As).length ≤ maxL)
    (body : ∀ (p : Program) (e : Env) (s : State) (m : MethodId) (args : Array Value) (below : List Frame) (meth : Method) (c : Code) (ls : Array Slot) (A : Nat → Prop) (Q : State → Prop), p.tables.exec = Jvm.exec → c.code = cc → (∀ w ∈ ws, w.before args s = true) → s.vm.findClass y.cls = some m.cls → c.maxLocals = maxL → KA D cA s → va_P D vwCl w0 s.heap → va_D A w0 → (∀ q : Nat, s.heap.size ≤ q → A q) → va_S A s.heap s.heap [] → lv_has ls maxL (lv_args 0 As) → (∀ (pc : Nat) (ls : Array Slot) (u : S) (H : Heap) (locs : List Loc), decode cc pc = .ok (.return_, 1) → va_P D vwCl (w u) H → va_D A (w u) → va_S A s.heap H locs → post u → W p l e rm s m args below meth c H locs 0 0 Q (F0 m pc ls [])) →
      W p l e rm s m args below meth c s.heap [] 0 0 Q (F0 m 0 ls [])) : Wv l D cA w0 w y ws rm As post := by
  intro sz
  refine Met.ofW (cc := cc) (maxL := maxL) (ret := none) hy hw ?_
  intro p e s m args below meth c s₁ B hml hv
  obtain ⟨rfl, hsz, hP, hK, hD⟩ := hv
  subst hsz
  rw [lg_entry_eq]
  exact body p e s m _ below meth c _ _ _ B.exec B.bytes (atoms_spec (ws := ws) B.pre) (findClass_of_methodNamed B.named) hml hK hP hD.self (fun q h => Or.inr h) va_S.rf (lv_entry As (n := maxL) hn)
    (fun pc ls u H locs hd hP hD hS hpost => W.vret B.exec B.bytes B.returns (fun t ht hW => ⟨⟨u, rfl, hpost, by rw [ht]; exact hP, va_K.moved hW.alike hK, hD⟩, hS.F ht⟩) hS.2.2 hd B.notSynchronized)
theorem Bx.of {w : va_W} {E : String} {ret : Option FieldType} (hy : plainName y.cls = true) (hw : ws = Cond.code y cc maxL ret :: ws') (hn : (lg_sl As).length ≤ maxL)
    (body : ∀ (p : Program) (e : Env) (s : State) (m : MethodId) (args : Array Value) (below : List Frame) (meth : Method) (c : Code) (ls : Array Slot), p.tables.exec = Jvm.exec → c.code = cc → (∀ w ∈ ws, w.before args s = true) → s.vm.findClass y.cls = some m.cls → c.maxLocals = maxL → KA D cA s → va_P D vwCl w s.heap → lv_has ls maxL (lv_args 0 As) → (∀ x ∈ c.exceptionTable.toList, False) → meth.locks = false → ZU s →
      W p l e rm s m args below meth c s.heap [] 0 0 (vx_MQ below noQ (xSame E) args s 1 6 (fun q => s.heap.size ≤ q)) (F0 m 0 ls [])) : Bx l D cA w y ws rm As E := by
  intro sz
  refine vx_ofW (cc := cc) (maxL := maxL) (ret := ret) hy hw ?_
  intro p e s m args below meth c s₁ B hml htab hv
  obtain ⟨rfl, hsz, hP, hK, hZ⟩ := hv
  subst hsz
  rw [lg_entry_eq]
  exact body p e s m _ below meth c _ B.exec B.bytes (atoms_spec (ws := ws) B.pre) (findClass_of_methodNamed B.named) hml hK hP (lv_entry As (n := maxL) hn) htab B.notSynchronized hZ
end ENTRY
section ROWS
variable {p : Program} {l : Launch} {e : Env} {R : Room} {s : State} {m : MethodId} {args : Array Value} {below : List Frame} {meth : Method} {c : Code} {H : Heap} {locs : List Loc} {cells slots : Nat} {Q : State → Prop}
variable {cc : ByteArray} {pc : Nat} {ls : Array Slot} {rest st0 : List Value} {D : va_G} {cA : ClassId} {A0 : Nat → Prop} {H0 : Heap}
variable {nL maxL n index : Nat} {Ts ws : List Cond} {own C : String} {y : MethodName} {bytes : ByteArray} {ret : Option FieldType} {rm : Room} {w : va_W} {As : List Value} {v : Int32} {b q0 ci : Nat} {fs : List Value} {q : vw_C}
theorem PreRd (hK : KA D cA s) (hP : va_P D vwCl w H) : PreS s H (va_Pc As (fun U => va_P D vwCl w U.heap ∧ KA D cA U)) As :=
  ⟨fun a U g mk z => by obtain ⟨z0, zP, zK⟩ := z; exact ⟨z0, zP, va_K.moved (u := U) (U := U.calling g mk a) (Vm.Alike.refl U.vm) zK⟩, fun U hU hW => ⟨rfl, by rw [hU]; exact hP, va_K.moved hW.alike hK⟩⟩
theorem Rd.callS (S : CallFix p m c cc nL s args Ts own) (hM : Rd l D cA w y ws rm As v) (cw : CallB R s args own index y bytes maxL ret ws rm 0 0 n ∧ (Cond.static y).before args s = true) (hK : KA D cA s) (hP : va_P D vwCl w H) (hst : st0 = As.reverse ++ rest) (hn : As.length = n) (hls : ls.size = nL) (hrm : (rest.map fun v => v.category).sum ≤ 8) (hdg : decode cc pc = .ok (.invokestatic index, 3)) (hf : cells ≤ R.cells ∧ slots ≤ R.slots)
    (kk : W p l e R s m args below meth c H locs cells slots Q (F0 m (pc + 3) ls (.int v :: rest))) : W p l e R s m args below meth c H locs cells slots Q (F0 m pc ls st0) :=
  vp_callSi (W.runS S hM cw (PreRd hK hP) rfl hn hls hst (lv_room hrm) hdg ⟨hf.1, hf.2⟩) (fun r hr => by subst hr; exact kk)
theorem Ru.callS (S : CallFix p m c cc nL s args Ts own) (hM : Ru l D cA w y ws rm As) (cw : CallB R s args own index y bytes maxL ret ws rm 0 0 n ∧ (Cond.static y).before args s = true) (hK : KA D cA s) (hP : va_P D vwCl w H) (hst : st0 = As.reverse ++ rest) (hn : As.length = n) (hls : ls.size = nL) (hrm : (rest.map fun v => v.category).sum ≤ 8) (hdg : decode cc pc = .ok (.invokestatic index, 3)) (hf : cells ≤ R.cells ∧ slots ≤ R.slots)
    (kk : W p l e R s m args below meth c H locs cells slots Q (F0 m (pc + 3) ls rest)) : W p l e R s m args below meth c H locs cells slots Q (F0 m pc ls st0) :=
  va_csv (W.runS S hM cw (PreRd hK hP) rfl hn hls hst (lv_room hrm) hdg ⟨hf.1, hf.2⟩) (fun _ => kk)
theorem Rd.callV (S : CallFix p m c cc nL s args Ts own) (hM : Rd l D cA w y ws rm (.ref b :: As) v) (cw : CallW R s args own C index y bytes maxL ret ws rm 0 0 n) (hK : KA D cA s) (hP : va_P D vwCl w H) (he : w[q0]? = some (b, .inr (ci, fs))) (hc : vwCl[ci]? = some q) (hC : q.1 = C) (hst : st0 = As.reverse ++ .ref b :: rest) (hn : As.length = n) (hls : ls.size = nL) (hrm : (rest.map fun v => v.category).sum ≤ 8) (hdg : decode cc pc = .ok (.invokevirtual index, 3)) (hf : cells ≤ R.cells ∧ slots ≤ R.slots)
    (kk : W p l e R s m args below meth c H locs cells slots Q (F0 m (pc + 3) ls (.int v :: rest))) : W p l e R s m args below meth c H locs cells slots Q (F0 m pc ls st0) := by
  subst hC
  exact vp_callSi (W.runV S hM cw ⟨(PreRd (As := .ref b :: As) hK hP).1, va_recv hK hP hc he, (PreRd (As := .ref b :: As) hK hP).2⟩ rfl hn hls hst (lv_room hrm) hdg ⟨hf.1, hf.2⟩) (fun r hr => by subst hr; exact kk)
theorem PreWr {wc w0 : va_W} (isC : List Nat) (hC : isC.map (fun i => wc[i]?) = w0.map some) (hnd : va_nd isC = true) (hK : KA D cA s) (hP : va_P D vwCl wc H) (hD : va_D A0 wc) : PreS s H (WP D cA w0 H.size As) As := by
  have hD' : va_D (fun _ => True) w0 := (hD.sub isC hnd hC).weaken (fun _ _ _ _ => trivial)
  have hP' : va_P D vwCl w0 H := by
    intro k z hk
    have h1 : (isC.map (fun i => wc[i]?))[k]? = some (some z) := by rw [hC, List.getElem?_map, hk]; rfl
    rw [List.getElem?_map] at h1
    cases hi : isC[k]? with
    | none => rw [hi] at h1; cases h1
    | some i => rw [hi] at h1; exact hP i z (Option.some.inj h1)
  exact ⟨fun a U g mk z => by obtain ⟨z0, z1, zP, zK, zD⟩ := z; exact ⟨z0, z1, zP, va_K.moved (u := U) (U := U.calling g mk a) (Vm.Alike.refl U.vm) zK, zD⟩, fun U hU hW => ⟨rfl, by rw [hU], by rw [hU]; exact hP', va_K.moved hW.alike hK, hD'⟩⟩
theorem Wi.callV {S9 : Type} {wc wr w0 : va_W} {ww : S9 → va_W} {post : Int32 → S9 → Prop} (isC isR : List Nat) (S : CallFix p m c cc nL s args Ts own) (hM : Wi l D cA w0 ww y ws rm (.ref b :: As) post) (cw : CallW R s args own C index y bytes maxL ret ws rm 0 0 n) (hK : KA D cA s) (hP : va_P D vwCl wc H) (hD : va_D A0 wc) (hS : va_S A0 H0 H locs) (hA : ∀ q : Nat, H0.size ≤ q → A0 q)
    (hC : isC.map (fun i => wc[i]?) = w0.map some) (hR : isR.map (fun i => wc[i]?) = wr.map some) (hnC : va_nd isC = true) (hnR : va_nd isR = true) (hdis : ∀ i ∈ isR, i ∉ isC)
    (he : wc[q0]? = some (b, .inr (ci, fs))) (hc : vwCl[ci]? = some q) (hC9 : q.1 = C) (hst : st0 = As.reverse ++ .ref b :: rest) (hn : As.length = n) (hls : ls.size = nL) (hrm : (rest.map fun v => v.category).sum ≤ 8) (hdg : decode cc pc = .ok (.invokevirtual index, 3)) (hf : cells ≤ R.cells ∧ slots ≤ R.slots)
    (kk : ∀ (r : Int32) (u : S9) (H1 : Heap) (locs1 : List Loc), post r u → va_P D vwCl (wr ++ ww u) H1 → va_D A0 (wr ++ ww u) → va_S A0 H0 H1 locs1 → W p l e R s m args below meth c H1 locs1 cells slots Q (F0 m (pc + 3) ls (.int r :: rest))) : W p l e R s m args below meth c H locs cells slots Q (F0 m pc ls st0) := by
  subst hC9
  have hF := va_free hD hS hA isC hC
  have hpre := PreWr (As := .ref b :: As) isC hC hnC hK hP hD
  refine va_calli (va_runV S (hM H.size) cw ⟨hpre.1, va_recv hK hP hc he, hpre.2⟩ rfl hn hls hst (lv_room hrm) hdg ⟨hf.1, hf.2⟩) hS (fun q _ h => hF q h) hF (fun r u t H1 locs1 ht hvm hw hB hz1 hk1 hS1 => ?_)
  obtain ⟨hP1, hK1, hD1⟩ := hB
  rw [ht] at hP1
  obtain ⟨hP2, hD2⟩ := va_join hP hD isC isR hC hR hnR hdis hk1 hF hP1 hD1
  exact kk r u H1 locs1 hw hP2 hD2 hS1
theorem Wv.callV {S9 : Type} {wc wr w0 : va_W} {ww : S9 → va_W} {post : S9 → Prop} (isC isR : List Nat) (S : CallFix p m c cc nL s args Ts own) (hM : Wv l D cA w0 ww y ws rm (.ref b :: As) post) (cw : CallW R s args own C index y bytes maxL ret ws rm 0 0 n) (hK : KA D cA s) (hP : va_P D vwCl wc H) (hD : va_D A0 wc) (hS : va_S A0 H0 H locs) (hA : ∀ q : Nat, H0.size ≤ q → A0 q)
    (hC : isC.map (fun i => wc[i]?) = w0.map some) (hR : isR.map (fun i => wc[i]?) = wr.map some) (hnC : va_nd isC = true) (hnR : va_nd isR = true) (hdis : ∀ i ∈ isR, i ∉ isC)
    (he : wc[q0]? = some (b, .inr (ci, fs))) (hc : vwCl[ci]? = some q) (hC9 : q.1 = C) (hst : st0 = As.reverse ++ .ref b :: rest) (hn : As.length = n) (hls : ls.size = nL) (hrm : (rest.map fun v => v.category).sum ≤ 8) (hdg : decode cc pc = .ok (.invokevirtual index, 3)) (hf : cells ≤ R.cells ∧ slots ≤ R.slots)
    (kk : ∀ (u : S9) (H1 : Heap) (locs1 : List Loc), post u → va_P D vwCl (wr ++ ww u) H1 → va_D A0 (wr ++ ww u) → va_S A0 H0 H1 locs1 → W p l e R s m args below meth c H1 locs1 cells slots Q (F0 m (pc + 3) ls rest)) : W p l e R s m args below meth c H locs cells slots Q (F0 m pc ls st0) := by
  subst hC9
  have hF := va_free hD hS hA isC hC
  have hpre := PreWr (As := .ref b :: As) isC hC hnC hK hP hD
  refine va_callv (va_runV S (hM H.size) cw ⟨hpre.1, va_recv hK hP hc he, hpre.2⟩ rfl hn hls hst (lv_room hrm) hdg ⟨hf.1, hf.2⟩) hS (fun q _ h => hF q h) hF (fun u t H1 locs1 ht hvm hw hB hz1 hk1 hS1 => ?_)
  obtain ⟨hP1, hK1, hD1⟩ := hB
  rw [ht] at hP1
  obtain ⟨hP2, hD2⟩ := va_join hP hD isC isR hC hR hnR hdis hk1 hF hP1 hD1
  exact kk u H1 locs1 hw hP2 hD2 hS1
theorem Wv.callS {S9 : Type} {wc wr w0 : va_W} {ww : S9 → va_W} {post : S9 → Prop} (isC isR : List Nat) (S : CallFix p m c cc nL s args Ts own) (hM : Wv l D cA w0 ww y ws rm As post) (cw : CallB R s args own index y bytes maxL ret ws rm 0 0 n ∧ (Cond.static y).before args s = true) (hK : KA D cA s) (hP : va_P D vwCl wc H) (hD : va_D A0 wc) (hS : va_S A0 H0 H locs) (hA : ∀ q : Nat, H0.size ≤ q → A0 q)
    (hC : isC.map (fun i => wc[i]?) = w0.map some) (hR : isR.map (fun i => wc[i]?) = wr.map some) (hnC : va_nd isC = true) (hnR : va_nd isR = true) (hdis : ∀ i ∈ isR, i ∉ isC)
    (hst : st0 = As.reverse ++ rest) (hn : As.length = n) (hls : ls.size = nL) (hrm : (rest.map fun v => v.category).sum ≤ 8) (hdg : decode cc pc = .ok (.invokestatic index, 3)) (hf : cells ≤ R.cells ∧ slots ≤ R.slots)
    (kk : ∀ (u : S9) (H1 : Heap) (locs1 : List Loc), post u → va_P D vwCl (wr ++ ww u) H1 → va_D A0 (wr ++ ww u) → va_S A0 H0 H1 locs1 → W p l e R s m args below meth c H1 locs1 cells slots Q (F0 m (pc + 3) ls rest)) : W p l e R s m args below meth c H locs cells slots Q (F0 m pc ls st0) := by
  have hF := va_free hD hS hA isC hC
  have hpre := PreWr (As := As) isC hC hnC hK hP hD
  refine va_callv (va_runS S (hM H.size) cw hpre rfl hn hls hst (lv_room hrm) hdg ⟨hf.1, hf.2⟩) hS (fun q _ h => hF q h) hF (fun u t H1 locs1 ht hvm hw hB hz1 hk1 hS1 => ?_)
  obtain ⟨hP1, hK1, hD1⟩ := hB
  rw [ht] at hP1
  obtain ⟨hP2, hD2⟩ := va_join hP hD isC isR hC hR hnR hdis hk1 hF hP1 hD1
  exact kk u H1 locs1 hw hP2 hD2 hS1
/-- a callee that throws E, in a method that has written nothing: it throws E too -/
theorem PreBx {sz : Nat} (hsz : s.heap.size = sz) (hK : KA D cA s) (hP : va_P D vwCl w s.heap) (hZ : ZU s) : PreS s s.heap (va_Pc As (fun U => U.heap.size = sz ∧ va_P D vwCl w U.heap ∧ KA D cA U ∧ ZU U)) As :=
  ⟨fun a U g mk z => by obtain ⟨z0, z1, zP, zK, zZ⟩ := z; exact ⟨z0, z1, zP, va_K.moved (u := U) (U := U.calling g mk a) (Vm.Alike.refl U.vm) zK, ZU.same (u := U) (U := U.calling g mk a) rfl rfl zZ⟩,
    fun U hU hW => ⟨rfl, by rw [hU]; exact hsz, by rw [hU]; exact hP, va_K.moved hW.alike hK, ZU.warm hU hW hZ⟩⟩
theorem Bx.out {E : String} {XQ : State → Outcome → State → Prop} (htab : ∀ x ∈ c.exceptionTable.toList, False) (hlocks : meth.locks = false)
    (hr : vx_Run p l e R s m args below meth c s.heap [] 0 0 1 6 (F0 m pc ls st0) rest XQ (xSame E) (fun q => s.heap.size ≤ q)) (hXQ : ∀ a o t, ¬ XQ a o t) : W p l e R s m args below meth c s.heap [] 0 0 (vx_MQ below noQ (xSame E) args s 1 6 (fun q => s.heap.size ≤ q)) (F0 m pc ls st0) := by
  intro T hT X
  rcases hr T hT X with ⟨v, st₀, t, T', L, h0, X', hL, e1, e2, hq, st⟩ | ⟨q, st₀, t, T', L, E', ce, h0, X', hL, e1, e2, ⟨rfl, hz, hk⟩, hce, hcv, hcl, st⟩
  · exact absurd hq (hXQ _ _ _)
  · rw [h0] at hz hk
    obtain ⟨t2, a1, b1⟩ := vx_out (rest := rest) (pc := pc) (ls := ls) (below := below) (Qc := noQ) (XC := xSame E') (free := fun q => s.heap.size ≤ q) (mc := 1) (ms := 6) (fun x hx => (htab x hx).elim) hlocks (by rw [e1]; exact hce) hcv hcl
      (fun t9 ht9 hvm9 => ⟨rfl, by rw [ht9, e1]; exact hz, fun q9 hq9 => by rw [ht9, e1]; exact hk q9 hq9⟩) (fun z hz9 => by
        rcases List.mem_append.mp hz9 with h | h
        · cases h
        · exact hL z h) (Nat.le_refl _) (Nat.le_refl _) T' rfl X'
    exact ⟨t2, st.trans a1, b1⟩
theorem Bx.thruS {E : String} (S : CallFix p m c cc nL s args Ts own) (htab : ∀ x ∈ c.exceptionTable.toList, False) (hlocks : meth.locks = false) (hM : Bx l D cA w y ws rm As E) (cw : CallB R s args own index y bytes maxL ret ws rm 1 6 n ∧ (Cond.static y).before args s = true) (hK : KA D cA s) (hP : va_P D vwCl w s.heap) (hZ : ZU s) (hst : st0 = As.reverse ++ rest) (hn : As.length = n) (hls : ls.size = nL) (hrm : (rest.map fun v => v.category).sum ≤ 8) (hdg : decode cc pc = .ok (.invokestatic index, 3)) (hf : 1 ≤ R.cells ∧ 6 ≤ R.slots) :
    W p l e R s m args below meth c s.heap [] 0 0 (vx_MQ below noQ (xSame E) args s 1 6 (fun q => s.heap.size ≤ q)) (F0 m pc ls st0) :=
  Bx.out htab hlocks (vx_runS S (hM s.heap.size) cw (PreBx rfl hK hP hZ) rfl hn hls hst (lv_room hrm) hdg ⟨by rw [Nat.zero_add]; exact hf.1, by rw [Nat.zero_add]; exact hf.2⟩) (fun _ _ _ h => h)
end ROWS
end
section
/-! SPECS: what the methods answer, as functions of the state F and the number N of shifts -/
def ps (f : Nat → Int32) : Nat → Int32
  | 0 => 0
  | n + 1 => ps f n + f n
def tOn (F : Nat → Nat → Int32) (w d : Int32) : Nat → Int32 := fun i => if F 8 i = w ∧ F 10 i = d then F 11 i else 0
def tAt (F : Nat → Nat → Int32) (t k : Int32) : Nat → Int32 := fun i => if F 9 i = t ∧ F 10 i / 7 = k then F 11 i else 0
def tWk (F : Nat → Nat → Int32) (w k : Int32) : Nat → Int32 := fun i => if F 8 i = w ∧ F 10 i / 7 = k then F 11 i else 0
def tEr (F : Nat → Nat → Int32) (w : Int32) : Nat → Int32 := fun i => if F 8 i = w then 7 * F 11 i else 0
def tHr (F : Nat → Nat → Int32) (w : Int32) : Nat → Int32 := fun i => if F 8 i = w then F 11 i else 0
/-- worked: a shift of at least an hour there in that week, among the first n -/
def wkd (F : Nat → Nat → Int32) (w t k : Int32) : Nat → Bool
  | 0 => false
  | n + 1 => wkd F w t k n || decide (F 8 n = w ∧ F 9 n = t ∧ F 10 n / 7 = k ∧ 0 < F 11 n)
/-- going back from week k: weeks worked so far wo, missed one after the other mi -/
def eqL (b : Nat → Bool) (gap : Int32) : Nat → Int32 → Int32 → Int32
  | 0, wo, _ => wo
  | k + 1, wo, mi => if mi ≤ gap then (if b k = true then eqL b gap k (wo + 1) 0 else eqL b gap k wo (mi + 1)) else wo
def sEqV (F : Nat → Nat → Int32) (N : Nat) (w t : Int32) (k : Nat) : Int32 := eqL (fun j => wkd F w t (nI j) N) (F 6 0) k 0 0
/-- an hour's sheet h on top of (normal in the week, before on the day): what of it is normal -/
def ovIts (no be h : Int32) : Int32 := if h < (if (if be < 8 then 8 - be else 0) < 40 - no then (if be < 8 then 8 - be else 0) else 40 - no) then h else (if (if be < 8 then 8 - be else 0) < 40 - no then (if be < 8 then 8 - be else 0) else 40 - no)
abbrev ovT (F : Nat → Nat → Int32) (one : Nat) (day : Int32) (i : Nat) : Prop := F 8 i = F 8 one ∧ F 10 i = day ∧ (day < F 10 one ∨ nI i ≤ nI one)
def ovStep (F : Nat → Nat → Int32) (one : Nat) (day : Int32) (i : Nat) (z : Int32 × Int32 × Int32) : Int32 × Int32 × Int32 :=
  if ovT F one day i then (z.1 + ovIts z.1 z.2.1 (F 11 i), z.2.1 + F 11 i, F 11 i - ovIts z.1 z.2.1 (F 11 i)) else z
/-- a day: (normal, before, over) behind the first n shifts -/
def ovDay (F : Nat → Nat → Int32) (one : Nat) (day : Int32) (z : Int32 × Int32 × Int32) : Nat → Int32 × Int32 × Int32
  | 0 => z
  | n + 1 => ovStep F one day n (ovDay F one day z n)
/-- the week up to the k-th day from day d0: (normal, over) -/
def ovWk (F : Nat → Nat → Int32) (N one d0 : Nat) : Nat → Int32 × Int32
  | 0 => (0, 0)
  | k + 1 => ((ovDay F one (nI (d0 + k)) ((ovWk F N one d0 k).1, 0, (ovWk F N one d0 k).2) N).1, (ovDay F one (nI (d0 + k)) ((ovWk F N one d0 k).1, 0, (ovWk F N one d0 k).2) N).2.2)
def dayN (F : Nat → Nat → Int32) (i : Nat) : Nat := (F 10 i).toNatClampNeg
def sOv (F : Nat → Nat → Int32) (N one : Nat) : Int32 := (ovWk F N one (7 * (dayN F one / 7)) (dayN F one % 7 + 1)).2
def sRt (F : Nat → Nat → Int32) (N i : Nat) : Int32 := if F 5 0 ≤ sEqV F N (F 8 i) (F 9 i) (dayN F i / 7) then F 1 (F 9 i).toNatClampNeg else F 0 (F 9 i).toNatClampNeg
def sPy (F : Nat → Nat → Int32) (N i : Nat) : Int32 := (2 * (F 11 i - sOv F N i) + 3 * sOv F N i) * sRt F N i / 2
def sMg (F : Nat → Nat → Int32) (N : Nat) (t k : Int32) : Int32 := if F 4 t.toNatClampNeg ≤ ps (tAt F t k) N then F 3 t.toNatClampNeg else F 2 t.toNatClampNeg
def sCh (F : Nat → Nat → Int32) (N i : Nat) : Int32 := sPy F N i * (100 + sMg F N (F 9 i) (F 10 i / 7)) / 100
def tPw (F : Nat → Nat → Int32) (N : Nat) (w k : Int32) : Nat → Int32 := fun i => if F 8 i = w ∧ F 10 i / 7 = k then sPy F N i else 0
def tCt (F : Nat → Nat → Int32) (N : Nat) (t k : Int32) : Nat → Int32 := fun i => if F 9 i = t ∧ F 10 i / 7 = k then sCh F N i else 0
/-- what every state keeps -/
def wf (F : Nat → Nat → Int32) (N : Nat) : Prop := N ≤ 80 ∧ F 7 0 = nI N ∧ ∀ i, i < N → (∃ w, w < 6 ∧ F 8 i = nI w) ∧ (∃ t, t < 4 ∧ F 9 i = nI t) ∧ (∃ d, d < 140 ∧ F 10 i = nI d) ∧ ∃ h, h ≤ 16 ∧ F 11 i = nI h
/-! small facts -/
theorem ps_s (f : Nat → Int32) (n : Nat) : ps f (n + 1) = ps f n + f n := rfl
theorem ps_0 (f : Nat → Int32) : ps f 0 = 0 := rfl
theorem i32_a0 (x : Int32) : x + 0 = x := Int32.add_zero x
theorem br_ge {x : Int32} {N i : Nat} (e : x = nI N) (hN : N ≤ 140) (hi : i ≤ N) : x ≤ nI i ↔ i = N := by
  rw [e, nI_leI (by omega) (by omega)]; omega
theorem br_lt {i N : Nat} (hN : N ≤ 140) (hi : i ≤ N) : nI N ≤ nI i ↔ i = N := br_ge rfl hN hi
theorem wf.n {F : Nat → Nat → Int32} {N : Nat} (h : wf F N) : N ≤ 80 := h.1
theorem wf.c {F : Nat → Nat → Int32} {N : Nat} (h : wf F N) : F 7 0 = nI N := h.2.1
theorem wf.day {F : Nat → Nat → Int32} {N i : Nat} (h : wf F N) (hi : i < N) : dayN F i < 140 ∧ F 10 i = nI (dayN F i) := by
  obtain ⟨d, h1, h2⟩ := (h.2.2 i hi).2.2.1
  have e : dayN F i = d := by unfold dayN; rw [h2]; exact nI_clamp (by omega)
  rw [e]; exact ⟨h1, h2⟩
theorem wf.week {F : Nat → Nat → Int32} {N i : Nat} (h : wf F N) (hi : i < N) : F 10 i / 7 = nI (dayN F i / 7) := by
  obtain ⟨h1, h2⟩ := h.day hi
  rw [h2]; exact pk_div (d := 7) (by omega) (by omega) (by omega)
theorem wf.site {F : Nat → Nat → Int32} {N i : Nat} (h : wf F N) (hi : i < N) : (F 9 i).toNatClampNeg < 4 ∧ F 9 i = nI (F 9 i).toNatClampNeg := by
  obtain ⟨t, h1, h2⟩ := (h.2.2 i hi).2.1
  have e : (F 9 i).toNatClampNeg = t := by rw [h2]; exact nI_clamp (by omega)
  rw [e]; exact ⟨h1, h2⟩
theorem wf.wkr {F : Nat → Nat → Int32} {N i : Nat} (h : wf F N) (hi : i < N) : (F 8 i).toNatClampNeg < 6 ∧ F 8 i = nI (F 8 i).toNatClampNeg := by
  obtain ⟨t, h1, h2⟩ := (h.2.2 i hi).1
  have e : (F 8 i).toNatClampNeg = t := by rw [h2]; exact nI_clamp (by omega)
  rw [e]; exact ⟨h1, h2⟩
theorem wf.hrs {F : Nat → Nat → Int32} {N i : Nat} (h : wf F N) (hi : i < N) : (F 11 i).toNatClampNeg ≤ 16 ∧ F 11 i = nI (F 11 i).toNatClampNeg := by
  obtain ⟨t, h1, h2⟩ := (h.2.2 i hi).2.2.2
  have e : (F 11 i).toNatClampNeg = t := by rw [h2]; exact nI_clamp (by omega)
  rw [e]; exact ⟨h1, h2⟩
section ROWS2
variable {p : Program} {l : Launch} {e : Env} {R : Room} {s : State} {m : MethodId} {args : Array Value} {below : List Frame} {meth : Method} {c : Code} {H : Heap} {locs : List Loc} {cells slots : Nat} {Q : State → Prop}
variable {cc : ByteArray} {pc : Nat} {ls : Array Slot} {rest : List Value} {D : va_G} {cA : ClassId} {A0 : Nat → Prop} {H0 : Heap} {w : va_W} {b n j : Nat} {f : Nat → Int32} {i x : Int32}
theorem ri_ald (hx : p.tables.exec = Jvm.exec) (hb : c.code = cc) (hK : KA D cA s) (hP : va_P D vwCl w H) (q0 : Nat) (ha : w[q0]? = some (b, .inl (cA, n, .inl f))) (ei : i = nI j) (hj : j < n) (hn : n ≤ 120) (hdg : decode cc pc = .ok (.iaload, 1))
    (kk : W p l e R s m args below meth c H locs cells slots Q (F0 m (pc + 1) ls (.int (f j) :: rest))) : W p l e R s m args below meth c H locs cells slots Q (F0 m pc ls (.int i :: .ref b :: rest)) := by
  subst ei
  refine va_iald hx hb hK hP q0 0 ha rfl (vp_in_nI hj (by omega)) hdg ?_
  rw [nI_clamp (by omega)]
  exact kk
theorem ri_ast (hx : p.tables.exec = Jvm.exec) (hb : c.code = cc) (hK : KA D cA s) (hP : va_P D vwCl w H) (hD : va_D A0 w) (hS : va_S A0 H0 H locs) (q0 : Nat) (ha : w[q0]? = some (b, .inl (cA, n, .inl f))) (ei : i = nI j) (hj : j < n) (hn : n ≤ 120) (hdg : decode cc pc = .ok (.iastore, 1))
    (kk : ∀ (H1 : Heap) (locs1 : List Loc), va_P D vwCl (w.set q0 (b, .inl (cA, n, .inl (upd f j x)))) H1 → va_D A0 (w.set q0 (b, .inl (cA, n, .inl (upd f j x)))) → va_S A0 H0 H1 locs1 → W p l e R s m args below meth c H1 locs1 cells slots Q (F0 m (pc + 1) ls rest)) : W p l e R s m args below meth c H locs cells slots Q (F0 m pc ls (.int x :: .int i :: .ref b :: rest)) := by
  subst ei
  refine va_iast hx hb hK hP hD hS q0 0 ha rfl (vp_in_nI hj (by omega)) hdg ?_
  rw [nI_clamp (by omega)]
  exact kk
end ROWS2
end
section
/-! NUMBERS: overtime in natural numbers -/
def sN (f : Nat → Nat) : Nat → Nat
  | 0 => 0
  | n + 1 => sN f n + f n
theorem sN_s (f : Nat → Nat) (n : Nat) : sN f (n + 1) = sN f n + f n := rfl
theorem sN_congr {f g : Nat → Nat} {n : Nat} (h : ∀ i, i < n → f i = g i) : sN f n = sN g n := by
  induction n with
  | zero => rfl
  | succ n ih => rw [sN_s, sN_s, ih (fun i hi => h i (by omega)), h n (by omega)]
theorem sN_le {f : Nat → Nat} {c n : Nat} (h : ∀ i, i < n → f i ≤ c) : sN f n ≤ c * n := by
  induction n with
  | zero => exact Nat.zero_le _
  | succ n ih =>
    rw [sN_s, Nat.mul_succ]
    exact Nat.add_le_add (ih (fun i hi => h i (by omega))) (h n (by omega))
theorem sN_cut {f : Nat → Nat} {m n : Nat} (hm : m ≤ n) (h : ∀ i, m ≤ i → i < n → f i = 0) : sN f n = sN f m := by
  induction n with
  | zero => rw [Nat.le_zero.mp hm]
  | succ n ih =>
    rcases Nat.lt_or_ge n m with q | q
    · rw [show m = n + 1 by omega]
    · rw [sN_s, h n q (by omega), Nat.add_zero]
      exact ih q (fun i h1 h2 => h i h1 (by omega))
theorem ps_nI {f : Nat → Int32} {p : Nat → Nat} {n : Nat} (h : ∀ i, i < n → f i = nI (p i)) : ps f n = nI (sN p n) := by
  induction n with
  | zero => exact nI_0.symm
  | succ n ih => rw [ps_s, sN_s, ih (fun i hi => h i (by omega)), h n (by omega), nI_add]
theorem ps_congr {f g : Nat → Int32} {n : Nat} (h : ∀ i, i < n → f i = g i) : ps f n = ps g n := by
  induction n with
  | zero => rfl
  | succ n ih => rw [ps_s, ps_s, ih (fun i hi => h i (by omega)), h n (by omega)]
def hrN (F : Nat → Nat → Int32) (i : Nat) : Nat := (F 11 i).toNatClampNeg
def tD (F : Nat → Nat → Int32) (w : Int32) (d : Nat) : Nat → Nat := fun i => if F 8 i = w ∧ dayN F i = d then hrN F i else 0
/-- a worker's hours on day d among the first n shifts -/
def dhw (F : Nat → Nat → Int32) (w : Int32) (d n : Nat) : Nat := sN (tD F w d) n
theorem tD_le {F : Nat → Nat → Int32} {N : Nat} (hW : wf F N) (w : Int32) (d : Nat) {i : Nat} (hi : i < N) : tD F w d i ≤ 16 := by
  unfold tD
  by_cases h : F 8 i = w ∧ dayN F i = d
  · rw [if_pos h]; exact (hW.hrs hi).1
  · rw [if_neg h]; exact Nat.zero_le _
theorem dhw_le {F : Nat → Nat → Int32} {N : Nat} (hW : wf F N) (w : Int32) (d : Nat) {n : Nat} (hn : n ≤ N) : dhw F w d n ≤ 1280 := by
  have h1 : sN (tD F w d) n ≤ 16 * n := sN_le (fun i hi => tD_le hW w d (by omega))
  have h2 := hW.n
  unfold dhw; omega
theorem dhw_s (F : Nat → Nat → Int32) (w : Int32) (d n : Nat) : dhw F w d (n + 1) = dhw F w d n + tD F w d n := rfl
theorem iflt {x y : Nat} (hx : x < 2 ^ 31) (hy : y < 2 ^ 31) : (if nI x < nI y then nI x else nI y) = nI (min x y) := by
  by_cases h : x < y
  · rw [if_pos ((nI_ltI hx hy).mpr h), Nat.min_eq_left (by omega)]
  · rw [if_neg (fun z => h ((nI_ltI hx hy).mp z)), Nat.min_eq_right (by omega)]
theorem m8 {b : Nat} (hb : b ≤ 3000) : (if nI b < 8 then 8 - nI b else 0) = nI (8 - b) := by
  by_cases h : b < 8
  · rw [if_pos (show nI b < 8 from nI_lt (a := b) (b := 8) h (by omega))]; exact pk_sub (a := 8) (b := b) (by omega)
  · rw [if_neg (show ¬ nI b < 8 from nI_nlt (a := b) (b := 8) (by omega) (by omega)), show 8 - b = 0 by omega]; rfl
/-- of h hours: normal ones, behind a normal ones in the week and b on the day -/
def itsN (a b h : Nat) : Nat := min h (min (8 - b) (40 - a))
theorem its_nI {a b h : Nat} (ha : a ≤ 40) (hb : b ≤ 3000) (hh : h ≤ 16) : ovIts (nI a) (nI b) (nI h) = nI (itsN a b h) := by
  have e2 : (40 : Int32) - nI a = nI (40 - a) := pk_sub (a := 40) (b := a) ha
  unfold ovIts itsN
  rw [m8 hb, e2, iflt (by omega) (by omega), iflt (by omega) (by omega)]
theorem wf.hn {F : Nat → Nat → Int32} {N i : Nat} (h : wf F N) (hi : i < N) : F 11 i = nI (hrN F i) ∧ hrN F i ≤ 16 := ⟨(h.hrs hi).2, (h.hrs hi).1⟩
theorem wf.dayE {F : Nat → Nat → Int32} {N i d : Nat} (h : wf F N) (hi : i < N) (hd : d < 1000) : F 10 i = nI d ↔ dayN F i = d := by
  obtain ⟨h1, h2⟩ := h.day hi
  rw [h2, nI_eq (by omega) (by omega)]
/-- a day of the week's walk: what is normal and what came before -/
theorem day_inv {F : Nat → Nat → Int32} {N one d n0 : Nat} (hW : wf F N) (ho : one < N) (hn0 : n0 ≤ 40) (z : Int32) (hd : d ≤ dayN F one) :
    ∀ n, n ≤ N → (d < dayN F one ∨ n ≤ one) → (ovDay F one (nI d) (nI n0, 0, z) n).1 = nI (min 40 (n0 + min 8 (dhw F (F 8 one) d n))) ∧ (ovDay F one (nI d) (nI n0, 0, z) n).2.1 = nI (dhw F (F 8 one) d n) := by
  have hD := (hW.day ho).1
  intro n
  induction n with
  | zero =>
    intro _ _
    refine ⟨?_, rfl⟩
    show nI n0 = nI (min 40 (n0 + min 8 0))
    rw [show min 40 (n0 + min 8 0) = n0 by omega]
  | succ n ih =>
    intro hn hc
    obtain ⟨i1, i2⟩ := ih (by omega) (by omega)
    have hb := dhw_le hW (F 8 one) d (n := n) (by omega)
    obtain ⟨eh, hh⟩ := hW.hn (i := n) (by omega)
    show (ovStep F one (nI d) n (ovDay F one (nI d) (nI n0, 0, z) n)).1 = _ ∧ (ovStep F one (nI d) n (ovDay F one (nI d) (nI n0, 0, z) n)).2.1 = _
    rw [dhw_s]
    by_cases hq : F 8 n = F 8 one ∧ dayN F n = d
    · have hT : ovT F one (nI d) n := by
        refine ⟨hq.1, (hW.dayE (by omega) (by omega)).mpr hq.2, ?_⟩
        rcases hc with h | h
        · left; rw [(hW.day ho).2]; exact nI_lt h (by omega)
        · right; exact nI_le (by omega) (by have := hW.n; omega)
      have e9 : ovStep F one (nI d) n (ovDay F one (nI d) (nI n0, 0, z) n) = ((ovDay F one (nI d) (nI n0, 0, z) n).1 + ovIts (ovDay F one (nI d) (nI n0, 0, z) n).1 (ovDay F one (nI d) (nI n0, 0, z) n).2.1 (F 11 n), (ovDay F one (nI d) (nI n0, 0, z) n).2.1 + F 11 n, F 11 n - ovIts (ovDay F one (nI d) (nI n0, 0, z) n).1 (ovDay F one (nI d) (nI n0, 0, z) n).2.1 (F 11 n)) := if_pos hT
      have et : tD F (F 8 one) d n = hrN F n := if_pos hq
      rw [e9, i1, i2, eh, et, its_nI (by omega) (by omega) hh]
      refine ⟨?_, nI_add _ _⟩
      show nI _ + nI _ = _
      rw [nI_add]
      unfold itsN
      congr 1
      omega
    · have hT : ¬ ovT F one (nI d) n := fun h => hq ⟨h.1, (hW.dayE (by omega) (by omega)).mp h.2.1⟩
      have e9 : ovStep F one (nI d) n (ovDay F one (nI d) (nI n0, 0, z) n) = ovDay F one (nI d) (nI n0, 0, z) n := if_neg hT
      have et : tD F (F 8 one) d n = 0 := if_neg hq
      rw [e9, et]
      exact ⟨i1, i2⟩
/-- normal by day in the week's first r days -/
def wkS (F : Nat → Nat → Int32) (w : Int32) (N d0 r : Nat) : Nat := sN (fun j => min 8 (dhw F w (d0 + j) N)) r
theorem wk_inv {F : Nat → Nat → Int32} {N one d0 : Nat} (hW : wf F N) (ho : one < N) : ∀ k, d0 + k ≤ dayN F one → (ovWk F N one d0 k).1 = nI (min 40 (wkS F (F 8 one) N d0 k)) := by
  intro k
  induction k with
  | zero => intro _; rfl
  | succ k ih =>
    intro hk
    have h1 := ih (by omega)
    show (ovDay F one (nI (d0 + k)) ((ovWk F N one d0 k).1, 0, (ovWk F N one d0 k).2) N).1 = _
    rw [h1, (day_inv hW ho (Nat.min_le_left _ _) _ (by omega) N (Nat.le_refl _) (Or.inl (by omega))).1]
    unfold wkS
    rw [sN_s]
    congr 1
    omega
theorem day_tail {F : Nat → Nat → Int32} {N one : Nat} (hW : wf F N) (ho : one < N) (z : Int32 × Int32 × Int32) : ∀ n, one + 1 + n ≤ N → ovDay F one (F 10 one) z (one + 1 + n) = ovDay F one (F 10 one) z (one + 1) := by
  intro n
  induction n with
  | zero => intro _; rfl
  | succ n ih =>
    intro hn
    rw [← ih (by omega)]
    have h9 : ¬ ovT F one (F 10 one) (one + 1 + n) := by
      intro h
      rcases h.2.2 with q | q
      · exact absurd q Int32.lt_irrefl
      · have := hW.n
        have q2 := (nI_leI (a := one + 1 + n) (b := one) (by omega) (by omega)).mp q
        omega
    exact if_neg h9
/-- the reference's overtime in natural numbers -/
theorem sOv_nI {F : Nat → Nat → Int32} {N one : Nat} (hW : wf F N) (ho : one < N) :
    sOv F N one = nI (hrN F one - itsN (min 40 (wkS F (F 8 one) N (7 * (dayN F one / 7)) (dayN F one % 7) + min 8 (dhw F (F 8 one) (dayN F one) one))) (dhw F (F 8 one) (dayN F one) one) (hrN F one)) := by
  obtain ⟨hD, eD⟩ := hW.day ho
  obtain ⟨eh, hh⟩ := hW.hn ho
  have hb := dhw_le hW (F 8 one) (dayN F one) (n := one) (by omega)
  have hsum : 7 * (dayN F one / 7) + dayN F one % 7 = dayN F one := by omega
  unfold sOv
  show (ovDay F one (nI (7 * (dayN F one / 7) + dayN F one % 7)) ((ovWk F N one (7 * (dayN F one / 7)) (dayN F one % 7)).1, 0, (ovWk F N one (7 * (dayN F one / 7)) (dayN F one % 7)).2) N).2.2 = _
  rw [wk_inv hW ho _ (by omega), hsum]
  generalize (ovWk F N one (7 * (dayN F one / 7)) (dayN F one % 7)).2 = z
  generalize wkS F (F 8 one) N (7 * (dayN F one / 7)) (dayN F one % 7) = S
  obtain ⟨i1, i2⟩ := day_inv (n0 := min 40 S) hW ho (Nat.min_le_left _ _) z (Nat.le_refl _) one (by omega) (Or.inr (Nat.le_refl _))
  have hT : ovT F one (nI (dayN F one)) one := ⟨rfl, eD, Or.inr Int32.le_rfl⟩
  have e8 : ovDay F one (nI (dayN F one)) (nI (min 40 S), 0, z) N = ovDay F one (nI (dayN F one)) (nI (min 40 S), 0, z) (one + 1) := by
    rw [← eD]
    have h9 := day_tail hW ho (nI (min 40 S), 0, z) (N - (one + 1)) (by omega)
    rw [show one + 1 + (N - (one + 1)) = N by omega] at h9
    exact h9
  rw [e8]
  show (ovStep F one (nI (dayN F one)) one (ovDay F one (nI (dayN F one)) (nI (min 40 S), 0, z) one)).2.2 = _
  have e9 : ovStep F one (nI (dayN F one)) one (ovDay F one (nI (dayN F one)) (nI (min 40 S), 0, z) one) = ((ovDay F one (nI (dayN F one)) (nI (min 40 S), 0, z) one).1 + ovIts (ovDay F one (nI (dayN F one)) (nI (min 40 S), 0, z) one).1 (ovDay F one (nI (dayN F one)) (nI (min 40 S), 0, z) one).2.1 (F 11 one), (ovDay F one (nI (dayN F one)) (nI (min 40 S), 0, z) one).2.1 + F 11 one, F 11 one - ovIts (ovDay F one (nI (dayN F one)) (nI (min 40 S), 0, z) one).1 (ovDay F one (nI (dayN F one)) (nI (min 40 S), 0, z) one).2.1 (F 11 one)) := if_pos hT
  rw [e9, i1, i2, eh, its_nI (by omega) (by omega) hh]
  show nI _ - nI _ = _
  rw [pk_sub (by unfold itsN; omega)]
  congr 2
  unfold itsN
  omega
end
section
/-! PURE LEMMAS: the class' ways of computing against the reference's -/
def wksM (F : Nat → Nat → Int32) (w t : Int32) : Nat → Int32
  | 0 => 0
  | n + 1 => if F 8 n = w ∧ F 9 n = t ∧ 1 ≤ F 11 n then wksM F w t n ||| (1 <<< (F 10 n / 7 &&& 31)) else wksM F w t n
theorem wks_s (F : Nat → Nat → Int32) (w t : Int32) (n : Nat) : wksM F w t (n + 1) = if F 8 n = w ∧ F 9 n = t ∧ 1 ≤ F 11 n then wksM F w t n ||| (1 <<< (F 10 n / 7 &&& 31)) else wksM F w t n := rfl
theorem eqL_s (b : Nat → Bool) (gap : Int32) (k : Nat) (wo mi : Int32) : eqL b gap (k + 1) wo mi = if mi ≤ gap then (if b k = true then eqL b gap k (wo + 1) 0 else eqL b gap k wo (mi + 1)) else wo := rfl
abbrev ahT (F : Nat → Nat → Int32) (one j i : Nat) : Prop := (F 10 i < F 10 one ∨ (F 10 i = F 10 one ∧ nI i < nI one)) ∧ (F 8 i = F 8 one ∧ F 10 i / 7 = F 10 one / 7) ∧ dayN F i % 7 = j
def tAh (F : Nat → Nat → Int32) (one j : Nat) : Nat → Int32 := fun i => if ahT F one j i then F 11 i else 0
theorem i32_m1 (x : Int32) : x + Int32.ofInt (-1) = x - 1 := by rw [Int32.sub_eq_add_neg]; rfl
theorem z_upd {g : Nat → Int32} {i : Nat} (inv : ∀ j, j < i → g j = 0) : ∀ j, j < i + 1 → upd g i 0 j = 0 := by
  intro j h
  by_cases e : j = i
  · subst e; exact pk_us
  · exact (pk_un e).trans (inv j (by omega))
theorem ah_skip {F : Nat → Nat → Int32} {one i : Nat} {g : Nat → Int32} (inv : ∀ j, j < 7 → g j = ps (tAh F one j) i) (hn : ∀ j, ¬ ahT F one j i) : ∀ j, j < 7 → g j = ps (tAh F one j) (i + 1) := by
  intro j h
  rw [ps_s, inv j h]; unfold tAh; rw [if_neg (hn j), i32_a0]
theorem ah_upd {F : Nat → Nat → Int32} {one i : Nat} {g : Nat → Int32} (inv : ∀ j, j < 7 → g j = ps (tAh F one j) i) (hc : F 10 i < F 10 one ∨ (F 10 i = F 10 one ∧ nI i < nI one)) (hq : F 8 i = F 8 one ∧ F 10 i / 7 = F 10 one / 7) :
    ∀ j, j < 7 → upd g (dayN F i % 7) (g (dayN F i % 7) + F 11 i) j = ps (tAh F one j) (i + 1) := by
  intro j h
  rw [ps_s]
  by_cases e : j = dayN F i % 7
  · have h9 : tAh F one j i = F 11 i := if_pos ⟨hc, hq, e.symm⟩
    rw [h9, ← inv j h, e]; exact pk_us
  · have h9 : tAh F one j i = 0 := if_neg (fun z => e z.2.2.symm)
    rw [h9, i32_a0, ← inv j h]; exact pk_un e
theorem nI_or (a b : Nat) : nI a ||| nI b = nI (a ||| b) := by
  apply Int32.toBitVec_inj.1
  show BitVec.ofNat 32 a ||| BitVec.ofNat 32 b = BitVec.ofNat 32 (a ||| b)
  apply BitVec.eq_of_getLsbD_eq
  intro i hi
  simp [hi]
theorem sh_amt : ∀ k, k < 20 → ((nI k &&& 31).toBitVec.smod 32).toNat = k := by decide +kernel
theorem one_shl {q : Nat} (hq : q < 20) : (1 : Int32) <<< (nI q &&& 31) = nI (2 ^ q) := by
  have h := pk_shlN (n := 1) (nI q &&& 31) q (sh_amt q hq) (by rw [Nat.one_mul]; exact Nat.pow_lt_pow_right (by omega) (by omega))
  rw [Nat.one_mul] at h
  exact h
theorem wks_nat {F : Nat → Nat → Int32} {N : Nat} (hW : wf F N) (w t : Int32) : ∀ n, n ≤ N → ∃ M : Nat, M < 2 ^ 20 ∧ wksM F w t n = nI M ∧ ∀ k, k < 20 → M.testBit k = wkd F w t (nI k) n := by
  intro n
  induction n with
  | zero => intro _; exact ⟨0, by decide, rfl, fun k _ => Nat.zero_testBit k⟩
  | succ n ih =>
    intro hn
    obtain ⟨M, h1, h2, h3⟩ := ih (by omega)
    obtain ⟨hd, ed⟩ := hW.day (i := n) (by omega)
    have ew := hW.week (i := n) (by omega)
    obtain ⟨eh, hh⟩ := hW.hn (i := n) (by omega)
    have h01 : 1 ≤ F 11 n ↔ 0 < F 11 n := by
      rw [eh]
      exact (nI_leI (a := 1) (by omega) (by omega)).trans (nI_ltI (a := 0) (by omega) (by omega)).symm
    rw [wks_s]
    by_cases hq : F 8 n = w ∧ F 9 n = t ∧ 1 ≤ F 11 n
    · rw [if_pos hq, h2, ew, one_shl (by omega), nI_or]
      refine ⟨_, Nat.or_lt_two_pow h1 (Nat.pow_lt_pow_right (by omega) (by omega)), rfl, fun k hk => ?_⟩
      rw [Nat.testBit_or, h3 k hk, Nat.testBit_two_pow]
      show (wkd F w t (nI k) n || decide (dayN F n / 7 = k)) = (wkd F w t (nI k) n || decide (F 8 n = w ∧ F 9 n = t ∧ F 10 n / 7 = nI k ∧ 0 < F 11 n))
      congr 1
      apply decide_eq_decide.mpr
      rw [ew, nI_eq (by omega) (by omega)]
      exact ⟨fun z => ⟨hq.1, hq.2.1, z, h01.mp hq.2.2⟩, fun z => z.2.2.1⟩
    · rw [if_neg hq]
      refine ⟨M, h1, h2, fun k hk => ?_⟩
      rw [h3 k hk]
      show _ = (wkd F w t (nI k) n || decide (F 8 n = w ∧ F 9 n = t ∧ F 10 n / 7 = nI k ∧ 0 < F 11 n))
      rw [decide_eq_false (fun z => hq ⟨z.1, z.2.1, h01.mpr z.2.2.2⟩), Bool.or_false]
theorem wks_bit {F : Nat → Nat → Int32} {N : Nat} (hW : wf F N) (w t : Int32) {k : Nat} (hk : k < 20) : ((wksM F w t N >>> (nI k &&& 31)) &&& 1 = 1) ↔ wkd F w t (nI k) N = true := by
  obtain ⟨M, h1, h2, h3⟩ := wks_nat hW w t N (Nat.le_refl _)
  rw [h2, ← h3 k hk, pk_shrN (n := M) (by omega) (nI k &&& 31) k (sh_amt k hk), pk_andN (n := M / 2 ^ k) (Nat.lt_of_le_of_lt (Nat.div_le_self _ _) (by omega)) (m := 1) 1 (by decide)]
  rw [Nat.testBit_eq_decide_div_mod_eq]
  have h9 : nI (M / 2 ^ k % 2 ^ 1) = 1 ↔ M / 2 ^ k % 2 ^ 1 = 1 := nI_eq (b := 1) (Nat.lt_of_lt_of_le (Nat.mod_lt _ (by decide)) (by decide)) (by omega)
  rw [h9]
  simp
theorem iteN {P Q : Prop} (dP : Decidable P) (dQ : Decidable Q) (h : P ↔ Q) (x : Nat) : @ite Nat P dP x 0 = @ite Nat Q dQ x 0 := by
  by_cases z : P
  · rw [if_pos z, if_pos (h.mp z)]
  · rw [if_neg z, if_neg (fun y => z (h.mpr y))]
theorem ah_iff {F : Nat → Nat → Int32} {N one i j : Nat} (hW : wf F N) (ho : one < N) (hi : i < N) : ahT F one j i ↔ ((dayN F i < dayN F one ∨ (dayN F i = dayN F one ∧ i < one)) ∧ (F 8 i = F 8 one ∧ dayN F i / 7 = dayN F one / 7) ∧ dayN F i % 7 = j) := by
  obtain ⟨h1, e1⟩ := hW.day hi
  obtain ⟨h2, e2⟩ := hW.day ho
  have hN := hW.n
  have a1 : F 10 i < F 10 one ↔ dayN F i < dayN F one := by rw [e1, e2, nI_ltI (by omega) (by omega)]
  have a2 : F 10 i = F 10 one ↔ dayN F i = dayN F one := by rw [e1, e2, nI_eq (by omega) (by omega)]
  have a3 : nI i < nI one ↔ i < one := nI_ltI (by omega) (by omega)
  have a4 : F 10 i / 7 = F 10 one / 7 ↔ dayN F i / 7 = dayN F one / 7 := by rw [hW.week hi, hW.week ho, nI_eq (by omega) (by omega)]
  unfold ahT
  rw [a1, a2, a3, a4]
def aH (F : Nat → Nat → Int32) (one N j : Nat) : Nat := sN (fun i => if ahT F one j i then hrN F i else 0) N
theorem tAh_nI {F : Nat → Nat → Int32} {N one : Nat} (hW : wf F N) (j : Nat) : ps (tAh F one j) N = nI (aH F one N j) := by
  refine ps_nI (fun i hi => ?_)
  unfold tAh
  by_cases h : ahT F one j i
  · rw [if_pos h, if_pos h]; exact (hW.hn hi).1
  · rw [if_neg h, if_neg h]; rfl
theorem aH_lt {F : Nat → Nat → Int32} {N one j : Nat} (hW : wf F N) (ho : one < N) (hj : j < dayN F one % 7) : aH F one N j = dhw F (F 8 one) (7 * (dayN F one / 7) + j) N := by
  refine sN_congr (fun i hi => iteN _ _ ?_ _)
  rw [ah_iff hW ho hi]
  constructor
  · intro h; exact ⟨h.2.1.1, by omega⟩
  · intro h; exact ⟨Or.inl (by omega), ⟨h.1, by omega⟩, by omega⟩
theorem aH_eq {F : Nat → Nat → Int32} {N one : Nat} (hW : wf F N) (ho : one < N) : aH F one N (dayN F one % 7) = dhw F (F 8 one) (dayN F one) one := by
  have h1 : aH F one N (dayN F one % 7) = sN (fun i => if ahT F one (dayN F one % 7) i then hrN F i else 0) one := by
    refine sN_cut (by omega) (fun i h1 h2 => if_neg (fun h => ?_))
    rw [ah_iff hW ho h2] at h
    omega
  rw [h1]
  refine sN_congr (fun i hi => iteN _ _ ?_ _)
  rw [ah_iff hW ho (by omega)]
  constructor
  · intro h; exact ⟨h.2.1.1, by omega⟩
  · intro h; exact ⟨Or.inr ⟨h.2, hi⟩, ⟨h.1, by rw [h.2]⟩, by rw [h.2]⟩
theorem aH_gt {F : Nat → Nat → Int32} {N one j : Nat} (hW : wf F N) (ho : one < N) (hj : dayN F one % 7 < j) : aH F one N j = 0 := by
  have h1 : aH F one N j = sN (fun i => if ahT F one j i then hrN F i else 0) 0 := by
    refine sN_cut (Nat.zero_le _) (fun i h1 h2 => if_neg (fun h => ?_))
    rw [ah_iff hW ho h2] at h
    omega
  rw [h1]; rfl
theorem iflt8 {x : Nat} (hx : x < 2 ^ 31) : (if nI x < 8 then nI x else 8) = nI (min x 8) := iflt (y := 8) hx (by omega)
theorem ov_eq {F : Nat → Nat → Int32} {N one : Nat} (hW : wf F N) (h1 : one < N) {g : Nat → Int32} (hg : ∀ j, j < 7 → g j = ps (tAh F one j) N) {sd S own : Int32} (esd : sd = g (dayN F one % 7)) (eS : S = ps (fun i => if g i < 8 then g i else 8) 7) (eo : own = F 11 one) :
    own - (if (if 0 < 40 - S then 40 - S else 0) < ((if sd + own < 8 then sd + own else 8) - (if sd < 8 then sd else 8)) then (if 0 < 40 - S then 40 - S else 0) else ((if sd + own < 8 then sd + own else 8) - (if sd < 8 then sd else 8))) = sOv F N one := by
  obtain ⟨eh, hh⟩ := hW.hn h1
  have hr : dayN F one % 7 < 7 := Nat.mod_lt _ (by omega)
  have hb := dhw_le hW (F 8 one) (dayN F one) (n := one) (by omega)
  have hgA : ∀ j, j < 7 → g j = nI (aH F one N j) := fun j hj => (hg j hj).trans (tAh_nI hW j)
  have hA : ∀ j, j < 7 → aH F one N j ≤ 1280 := by
    intro j hj
    rcases Nat.lt_trichotomy j (dayN F one % 7) with q | q | q
    · rw [aH_lt hW h1 q]; exact dhw_le hW _ _ (Nat.le_refl _)
    · rw [q, aH_eq hW h1]; exact hb
    · rw [aH_gt hW h1 q]; exact Nat.zero_le _
  have eS2 : S = nI (sN (fun j => min 8 (aH F one N j)) 7) := by
    rw [eS]
    refine ps_nI (fun j hj => ?_)
    have h9 := hA j hj
    show (if g j < 8 then g j else 8) = _
    rw [hgA j hj, Nat.min_comm]
    exact iflt (y := 8) (by omega) (by omega)
  have eT : sN (fun j => min 8 (aH F one N j)) 7 = wkS F (F 8 one) N (7 * (dayN F one / 7)) (dayN F one % 7) + min 8 (dhw F (F 8 one) (dayN F one) one) := by
    have c1 : sN (fun j => min 8 (aH F one N j)) 7 = sN (fun j => min 8 (aH F one N j)) (dayN F one % 7 + 1) := sN_cut (by omega) (fun j q1 q2 => by rw [aH_gt hW h1 (by omega)]; rfl)
    rw [c1, sN_s, aH_eq hW h1]
    congr 1
    exact sN_congr (fun j hj => by rw [aH_lt hW h1 hj])
  rw [sOv_nI hW h1, esd, hgA _ hr, aH_eq hW h1, eS2, eT, eo, eh]
  have hT : wkS F (F 8 one) N (7 * (dayN F one / 7)) (dayN F one % 7) ≤ 8 * (dayN F one % 7) := sN_le (fun j _ => Nat.min_le_left _ _)
  generalize wkS F (F 8 one) N (7 * (dayN F one / 7)) (dayN F one % 7) = W9 at hT ⊢
  generalize dhw F (F 8 one) (dayN F one) one = b at hb ⊢
  generalize hrN F one = h at hh ⊢
  have e40 : (if 0 < 40 - nI (W9 + min 8 b) then 40 - nI (W9 + min 8 b) else 0) = nI (40 - (W9 + min 8 b)) := by
    rcases Nat.lt_or_ge 40 (W9 + min 8 b) with q | q
    · have h9 : (40 : Int32) - nI (W9 + min 8 b) < 0 := pk_sneg (a := 40) (by omega) q
      rw [if_neg (fun z => absurd h9 (Int32.lt_asymm z)), show 40 - (W9 + min 8 b) = 0 by omega]; rfl
    · have h9 : (40 : Int32) - nI (W9 + min 8 b) = nI (40 - (W9 + min 8 b)) := pk_sub (a := 40) q
      rw [h9]
      by_cases z : 0 < 40 - (W9 + min 8 b)
      · rw [if_pos (show (0 : Int32) < nI (40 - (W9 + min 8 b)) from nI_lt (a := 0) z (by omega))]
      · rw [if_neg (show ¬ (0 : Int32) < nI (40 - (W9 + min 8 b)) from nI_nlt (a := 0) (b := 40 - (W9 + min 8 b)) (by omega) (by omega)), show 40 - (W9 + min 8 b) = 0 by omega]; rfl
  have eP : (if nI b + nI h < 8 then nI b + nI h else 8) - (if nI b < 8 then nI b else 8) = nI (min (b + h) 8 - min b 8) := by
    rw [nI_add, iflt8 (x := b + h) (by omega), iflt8 (x := b) (by omega)]
    exact pk_sub (by omega)
  rw [e40, eP, iflt (by omega) (by omega), pk_sub (by omega)]
  unfold itsN
  congr 1
  omega
theorem rem7 {F : Nat → Nat → Int32} {N i : Nat} (hW : wf F N) (h : i < N) : F 10 i - F 10 i / 7 * 7 = nI (dayN F i % 7) := by
  obtain ⟨h1, h2⟩ := hW.day h
  rw [h2]
  have e : dayN F i = (nI (dayN F i)).toNatClampNeg := (nI_clamp (by omega)).symm
  exact pk_rem (d := 7) (by omega) (by omega) (by omega)
theorem P_upd {D : va_G} {A : Nat → Prop} {H H1 : Heap} {w : va_W} {k b : Nat} {e0 e1 : va_E} (hP : va_P D vwCl w H) (hD : va_D A w) (hk : w[k]? = some (b, e0)) (h1 : va_at D vwCl (b, e1) H1) (hkeep : ∀ q : Nat, q < H.size → q ≠ b → H1[q]? = H[q]?) : va_P D vwCl (w.set k (b, e1)) H1 := by
  intro i z hz
  have hlt : k < w.length := (List.getElem?_eq_some_iff.mp hk).1
  by_cases hi : i = k
  · subst hi
    rw [List.getElem?_set_self hlt] at hz
    cases hz
    exact h1
  · rw [List.getElem?_set_ne (fun h => hi h.symm)] at hz
    exact (hP i z hz).kept (hkeep z.1 (hP i z hz).lt (fun h => hi (hD.1 i k z (b, e0) hz hk h)))
end
section
/-! HOUR BY HOUR: the class' payByHours against the pay of the shifts -/
def tDy (F : Nat → Nat → Int32) (N : Nat) (w : Int32) (d : Nat) : Nat → Int32 := fun q => if F 8 q = w ∧ F 10 q = nI d then sPy F N q else 0
theorem ps_add (a b : Nat → Int32) (n : Nat) : ps (fun j => a j + b j) n = ps a n + ps b n := by
  induction n with
  | zero => rfl
  | succ n ih =>
    rw [ps_s, ps_s, ps_s, ih]
    simp only [Int32.add_assoc]
    congr 1
    rw [← Int32.add_assoc, ← Int32.add_assoc, Int32.add_comm (ps b n)]
theorem ps_zero (n : Nat) : ps (fun _ => 0) n = 0 := by
  induction n with
  | zero => rfl
  | succ n ih => rw [ps_s, ih]; rfl
theorem ps_swap (f : Nat → Nat → Int32) (m n : Nat) : ps (fun j => ps (fun q => f j q) n) m = ps (fun q => ps (fun j => f j q) m) n := by
  induction n with
  | zero => exact ps_zero m
  | succ n ih =>
    rw [ps_s, ← ih]
    exact ps_add (fun j => ps (fun q => f j q) n) (fun j => f j n) m
theorem ps_one (v : Int32) (r : Nat) : ∀ n, ps (fun j => if j = r then v else 0) n = if r < n then v else 0 := by
  intro n
  induction n with
  | zero => rfl
  | succ n ih =>
    rw [ps_s, ih]
    rcases Nat.lt_trichotomy r n with q | q | q
    · rw [if_pos q, if_neg (by omega), if_pos (by omega), i32_a0]
    · rw [if_neg (by omega), if_pos q.symm, if_pos (by omega), Int32.zero_add]
    · rw [if_neg (by omega), if_neg (by omega), if_neg (by omega)]; rfl
theorem pbh_sum {F : Nat → Nat → Int32} {N K : Nat} (hW : wf F N) (hK : K < 20) (w : Int32) : ps (fun j => ps (tDy F N w (7 * K + j)) N) 7 = ps (tPw F N w (nI K)) N := by
  refine (ps_swap (fun j q => tDy F N w (7 * K + j) q) 7 N).trans (ps_congr (fun q hq => ?_))
  have hd := hW.day hq
  show ps (fun j => tDy F N w (7 * K + j) q) 7 = tPw F N w (nI K) q
  unfold tDy tPw
  by_cases h : F 8 q = w ∧ F 10 q / 7 = nI K
  · rw [if_pos h]
    have h7 : dayN F q / 7 = K := by
      have := h.2
      rw [hW.week hq, nI_eq (by omega) (by omega)] at this
      exact this
    have h9 := ps_one (sPy F N q) (dayN F q % 7) 7
    rw [if_pos (by omega)] at h9
    refine Eq.trans (ps_congr (g := fun j => if j = dayN F q % 7 then sPy F N q else 0) (fun j hj => ?_)) h9
    show (if F 8 q = w ∧ F 10 q = nI (7 * K + j) then sPy F N q else 0) = (if j = dayN F q % 7 then sPy F N q else 0)
    by_cases e : j = dayN F q % 7
    · rw [if_pos e, if_pos ⟨h.1, (hW.dayE hq (by omega)).mpr (by omega)⟩]
    · rw [if_neg e, if_neg (fun z => e (by have := (hW.dayE hq (by omega)).mp z.2; omega))]
  · rw [if_neg h]
    have h9 : ps (fun j => if F 8 q = w ∧ F 10 q = nI (7 * K + j) then sPy F N q else 0) 7 = ps (fun _ => 0) 7 := by
      refine ps_congr (fun j hj => if_neg (fun z => h ⟨z.1, ?_⟩))
      rw [hW.week hq, (hW.dayE hq (by omega)).mp z.2]
      congr 1
      omega
    rw [h9, ps_zero]
theorem mulc (c k : Nat) (rt : Int32) : nI c * rt + nI k * rt = nI (c + k) * rt := by rw [← nI_add, Int32.add_mul]
theorem hr_o {P0 b0 u : Nat} {v4 v7 v11 rt : Int32} (e4 : v4 = nI (P0 + itsN P0 b0 u)) (e7 : v7 = nI (b0 + u)) (e11 : v11 = nI (2 * itsN P0 b0 u + 3 * (u - itsN P0 b0 u)) * rt) (hP : P0 ≤ 40) (hb : b0 ≤ 1280) (hu : u ≤ 16) (hc : 8 ≤ v7 ∨ ¬ v4 < 40) :
    v4 = nI (P0 + itsN P0 b0 (u + 1)) ∧ v11 + 3 * rt = nI (2 * itsN P0 b0 (u + 1) + 3 * (u + 1 - itsN P0 b0 (u + 1))) * rt := by
  have h1 : itsN P0 b0 u ≤ u := Nat.min_le_left _ _
  have hs : itsN P0 b0 (u + 1) = itsN P0 b0 u := by
    rcases hc with h | h
    · rw [e7] at h
      have h2 : 8 ≤ b0 + u := (nI_leI (a := 8) (by omega) (by omega)).mp h
      unfold itsN; omega
    · rw [e4] at h
      have h2 : ¬ P0 + itsN P0 b0 u < 40 := fun z => h (nI_lt (b := 40) z (by omega))
      unfold itsN at h2 ⊢; omega
  rw [hs]
  refine ⟨e4, ?_⟩
  rw [e11, show u + 1 - itsN P0 b0 u = (u - itsN P0 b0 u) + 1 by omega]
  refine (mulc _ 3 rt).trans ?_
  congr 2
theorem hr_p {P0 b0 u : Nat} {v4 v7 v11 rt : Int32} (e4 : v4 = nI (P0 + itsN P0 b0 u)) (e7 : v7 = nI (b0 + u)) (e11 : v11 = nI (2 * itsN P0 b0 u + 3 * (u - itsN P0 b0 u)) * rt) (hP : P0 ≤ 40) (hb : b0 ≤ 1280) (hu : u ≤ 16) (h7 : ¬ 8 ≤ v7) (h4 : v4 < 40) :
    v4 + 1 = nI (P0 + itsN P0 b0 (u + 1)) ∧ v11 + 2 * rt = nI (2 * itsN P0 b0 (u + 1) + 3 * (u + 1 - itsN P0 b0 (u + 1))) * rt := by
  have h1 : itsN P0 b0 u ≤ u := Nat.min_le_left _ _
  have hs : itsN P0 b0 (u + 1) = itsN P0 b0 u + 1 := by
    rw [e7] at h7
    rw [e4] at h4
    have h2 : ¬ 8 ≤ b0 + u := fun z => h7 (nI_le (a := 8) z (by omega))
    have h3 : P0 + itsN P0 b0 u < 40 := (nI_ltI (b := 40) (by omega) (by omega)).mp h4
    unfold itsN at h3 ⊢; omega
  rw [hs]
  refine ⟨by rw [e4]; exact nI_1 _, ?_⟩
  rw [e11, show u + 1 - (itsN P0 b0 u + 1) = u - itsN P0 b0 u by omega]
  refine (mulc _ 2 rt).trans ?_
  congr 2
  omega
/-- the hours of one shift, gone through, are its pay -/
theorem hr_e {F : Nat → Nat → Int32} {N q K i : Nat} {w v11 rt : Int32} (hW : wf F N) (hq : q < N) (hi : i < 7) (ew : F 8 q = w) (ed : dayN F q = 7 * K + i)
    (ert : rt = (if F 5 0 ≤ sEqV F N w (F 9 q) K then F 1 (F 9 q).toNatClampNeg else F 0 (F 9 q).toNatClampNeg))
    (e11 : v11 = nI (2 * itsN (min 40 (wkS F w N (7 * K) i + min 8 (dhw F w (7 * K + i) q))) (dhw F w (7 * K + i) q) (hrN F q) + 3 * (hrN F q - itsN (min 40 (wkS F w N (7 * K) i + min 8 (dhw F w (7 * K + i) q))) (dhw F w (7 * K + i) q) (hrN F q))) * rt) :
    v11 / 2 = sPy F N q := by
  obtain ⟨eh, hh⟩ := hW.hn hq
  have e1 : dayN F q / 7 = K := by omega
  have e2 : dayN F q % 7 = i := by omega
  have h1 := sOv_nI hW hq
  rw [e1, e2, ed, ew] at h1
  have hp : itsN (min 40 (wkS F w N (7 * K) i + min 8 (dhw F w (7 * K + i) q))) (dhw F w (7 * K + i) q) (hrN F q) ≤ hrN F q := Nat.min_le_left _ _
  generalize itsN (min 40 (wkS F w N (7 * K) i + min 8 (dhw F w (7 * K + i) q))) (dhw F w (7 * K + i) q) (hrN F q) = p9 at *
  unfold sPy sRt
  rw [h1, e11, e1, ew, ← ert, eh]
  have z1 : nI (hrN F q) - nI (hrN F q - p9) = nI p9 := by rw [pk_sub (by omega)]; congr 1; omega
  have z2 : (2 : Int32) * nI p9 = nI (2 * p9) := pk_mul 2 p9
  have z3 : (3 : Int32) * nI (hrN F q - p9) = nI (3 * (hrN F q - p9)) := pk_mul 3 _
  rw [z1, z2, z3, nI_add]
end
section
/-! OPS: which exception a call throws (0: none), what it leaves, what it answers -/
abbrev cI (x n : Int32) : Prop := ¬ x < 0 ∧ x < n
abbrev cR (x a b : Int32) : Prop := ¬ x < a ∧ x ≤ b
theorem cI_n {x n : Int32} (h : ¬ cI x n) : x < 0 ∨ ¬ x < n := by
  by_cases a : x < 0
  · exact Or.inl a
  · exact Or.inr (fun b => h ⟨a, b⟩)
theorem cR_n {x a b : Int32} (h : ¬ cR x a b) : x < a ∨ ¬ x ≤ b := by
  by_cases z : x < a
  · exact Or.inl z
  · exact Or.inr (fun y => h ⟨z, y⟩)
theorem cI_of {x y : Int32} {n : Nat} (h : cI x y) (hy : y = nI n) (hn : n ≤ 200) : x.toNatClampNeg < n ∧ x = nI x.toNatClampNeg := by
  subst hy
  rcases pk_ix x (n := n) (by omega) with h1 | h1 | ⟨j, hj, e⟩
  · exact absurd h1 h.1
  · exact absurd h.2 (Int32.not_lt.mpr h1)
  · subst e
    rw [nI_clamp (by omega)]
    exact ⟨hj, rfl⟩
theorem cR_of {x y : Int32} {n : Nat} (h : cR x 0 y) (hy : y = nI n) (hn : n ≤ 200) : x.toNatClampNeg < n + 1 ∧ x = nI x.toNatClampNeg := by
  subst hy
  rcases pk_ix x (n := n + 1) (by omega) with h1 | h1 | ⟨j, hj, e⟩
  · exact absurd h1 h.1
  · have h2 : nI (n + 1) ≤ nI n := Int32.le_trans h1 h.2
    rw [nI_leI (by omega) (by omega)] at h2
    omega
  · subst e
    rw [nI_clamp (by omega)]
    exact ⟨hj, rfl⟩
def exN (k : Int32) (e1 e2 e3 : String) : String := if k = 1 then e1 else if k = 2 then e2 else e3
def kRates (s r q : Int32) : Int32 := if cI s 4 then (if cR r 1 10000 then (if cR q r 10000 then 0 else 2) else 2) else 1
def kMargins (s m lo v : Int32) : Int32 := if cI s 4 then (if cR m 0 100 then (if cR lo 0 m then (if cR v 1 1000 then 0 else 2) else 2) else 2) else 1
def kEqual (sp gp : Int32) : Int32 := if cR sp 1 12 then (if cR gp 0 6 then 0 else 1) else 1
def kShift (F : Nat → Nat → Int32) (N : Nat) (w t d h : Int32) : Int32 := if cI w 6 then (if cI t 4 then (if cR d 0 139 then (if cR h 1 16 then (if F 7 0 < 80 then (if ps (tOn F w d) N + h ≤ 24 then 0 else 3) else 3) else 2) else 2) else 1) else 1
def kCorrect (F : Nat → Nat → Int32) (N : Nat) (x h : Int32) : Int32 := if cI x (F 7 0) then (if cR h 0 16 then (if ps (tOn F (F 8 x.toNatClampNeg) (F 10 x.toNatClampNeg)) N + (h - F 11 x.toNatClampNeg) ≤ 24 then (if ¬ 7 * ps (tHr F (F 8 x.toNatClampNeg)) N - F 14 (F 8 x.toNatClampNeg).toNatClampNeg + 7 * (h - F 11 x.toNatClampNeg) < 0 then 0 else 3) else 3) else 2) else 1
def kWW (w k : Int32) : Int32 := if cI w 6 then (if cI k 20 then 0 else 1) else 1
def kSW (t k : Int32) : Int32 := if cI t 4 then (if cI k 20 then 0 else 1) else 1
def kWSW (w t k : Int32) : Int32 := if cI w 6 then (if cI t 4 then (if cI k 20 then 0 else 1) else 1) else 1
def kSh (F : Nat → Nat → Int32) (x : Int32) : Int32 := if cI x (F 7 0) then 0 else 1
def kWk (k : Int32) : Int32 := if cI k 20 then 0 else 1
def kTake (F : Nat → Nat → Int32) (N : Nat) (w m : Int32) : Int32 := if cI w 6 then (if cR m 1 10000 then (if m ≤ 7 * ps (tHr F w) N - F 14 w.toNatClampNeg then 0 else 3) else 2) else 1
def kW (w : Int32) : Int32 := if cI w 6 then 0 else 1
/-- a shift is told -/
def fShift (F : Nat → Nat → Int32) (N : Nat) (w t d h : Int32) : Nat → Nat → Int32 := fUp (fUp (fUp (fUp (fUp F 8 N w) 9 N t) 10 N d) 11 N h) 7 0 (F 7 0 + 1)
def fMargins (F : Nat → Nat → Int32) (j : Nat) (m lo v : Int32) : Nat → Nat → Int32 := fUp (fUp (fUp F 2 j m) 3 j lo) 4 j v
theorem ix20 {x y : Int32} {a b : Nat} (ex : x = nI a) (ey : y = nI b) : x * 20 + y = nI (a * 20 + b) := by
  rw [ex, ey]
  exact (congrArg (· + nI b) (pk_mul a 20)).trans (nI_add _ _)
theorem ix20' {x y : Int32} {a b : Nat} (ex : x = nI a) (ey : y = nI b) : 20 * x + y = nI (a * 20 + b) := by
  rw [Int32.mul_comm]; exact ix20 ex ey
/-- running a week: the pay of worker i, the charges of site i; the rows behind i of them -/
def pW (F : Nat → Nat → Int32) (N k i : Nat) : Int32 := ps (tPw F N (nI i) (nI k)) N
def cS (F : Nat → Nat → Int32) (N k i : Nat) : Int32 := ps (tCt F N (nI i) (nI k)) N
def runP (F : Nat → Nat → Int32) (N k : Nat) : Nat → Nat → Nat → Int32
  | 0 => F
  | i + 1 => fUp (runP F N k i) 12 (i * 20 + k) (pW F N k i)
def runB (F : Nat → Nat → Int32) (N k : Nat) : Nat → Nat → Nat → Int32
  | 0 => runP F N k 6
  | i + 1 => fUp (runB F N k i) 13 (i * 20 + k) (cS F N k i)
def sRun (F : Nat → Nat → Int32) (N k : Nat) : Int32 := ps (fun i => pW F N k i - F 12 (i * 20 + k)) 6
/-! what running a week writes, nothing of pay or charges reads -/
/-- the rows that the shifts' pay and charges read agree -/
def agr (F G : Nat → Nat → Int32) : Prop := F 0 = G 0 ∧ F 1 = G 1 ∧ F 2 = G 2 ∧ F 3 = G 3 ∧ F 4 = G 4 ∧ F 5 = G 5 ∧ F 6 = G 6 ∧ F 7 = G 7 ∧ F 8 = G 8 ∧ F 9 = G 9 ∧ F 10 = G 10 ∧ F 11 = G 11
theorem agr.rf (F : Nat → Nat → Int32) : agr F F := ⟨rfl, rfl, rfl, rfl, rfl, rfl, rfl, rfl, rfl, rfl, rfl, rfl⟩
theorem agr.up12 {F G : Nat → Nat → Int32} (h : agr F G) (j : Nat) (v : Int32) : agr (fUp F 12 j v) G := h
theorem agr.up13 {F G : Nat → Nat → Int32} (h : agr F G) (j : Nat) (v : Int32) : agr (fUp F 13 j v) G := h
theorem agr.wf {F G : Nat → Nat → Int32} {N : Nat} (h : agr F G) (hW : wf G N) : wf F N := by
  obtain ⟨-, -, -, -, -, -, -, h7, h8, h9, h10, h11⟩ := h
  obtain ⟨w1, w2, w3⟩ := hW
  refine ⟨w1, by rw [h7]; exact w2, fun i hi => ?_⟩
  rw [h8, h9, h10, h11]
  exact w3 i hi
theorem agr.wkdE {F G : Nat → Nat → Int32} (h : agr F G) (w t k : Int32) (n : Nat) : wkd F w t k n = wkd G w t k n := by
  obtain ⟨-, -, -, -, -, -, -, -, h8, h9, h10, h11⟩ := h
  induction n with
  | zero => rfl
  | succ n ih => unfold wkd; rw [ih, h8, h9, h10, h11]
theorem agr.day {F G : Nat → Nat → Int32} (h : agr F G) (i : Nat) : dayN F i = dayN G i := by
  unfold dayN; rw [h.2.2.2.2.2.2.2.2.2.2.1]
theorem agr.eqV {F G : Nat → Nat → Int32} (h : agr F G) (N : Nat) (w t : Int32) (k : Nat) : sEqV F N w t k = sEqV G N w t k := by
  unfold sEqV
  rw [h.2.2.2.2.2.2.1, show (fun j => wkd F w t (nI j) N) = (fun j => wkd G w t (nI j) N) from funext (fun j => h.wkdE _ _ _ _)]
theorem agr.step {F G : Nat → Nat → Int32} (h : agr F G) (one : Nat) (d : Int32) (i : Nat) (z : Int32 × Int32 × Int32) : ovStep F one d i z = ovStep G one d i z := by
  obtain ⟨-, -, -, -, -, -, -, -, h8, h9, h10, h11⟩ := h
  unfold ovStep ovT
  rw [h8, h10, h11]
theorem agr.dayL {F G : Nat → Nat → Int32} (h : agr F G) (one : Nat) (d : Int32) (z : Int32 × Int32 × Int32) (n : Nat) : ovDay F one d z n = ovDay G one d z n := by
  induction n with
  | zero => rfl
  | succ n ih => show ovStep F one d n (ovDay F one d z n) = ovStep G one d n (ovDay G one d z n); rw [ih, h.step]
theorem agr.wkL {F G : Nat → Nat → Int32} (h : agr F G) (N one d0 k : Nat) : ovWk F N one d0 k = ovWk G N one d0 k := by
  induction k with
  | zero => rfl
  | succ k ih =>
    show ((ovDay F one (nI (d0 + k)) ((ovWk F N one d0 k).1, 0, (ovWk F N one d0 k).2) N).1, (ovDay F one (nI (d0 + k)) ((ovWk F N one d0 k).1, 0, (ovWk F N one d0 k).2) N).2.2) = ((ovDay G one (nI (d0 + k)) ((ovWk G N one d0 k).1, 0, (ovWk G N one d0 k).2) N).1, (ovDay G one (nI (d0 + k)) ((ovWk G N one d0 k).1, 0, (ovWk G N one d0 k).2) N).2.2)
    rw [ih, h.dayL]
theorem agr.ov {F G : Nat → Nat → Int32} (h : agr F G) (N i : Nat) : sOv F N i = sOv G N i := by
  unfold sOv; rw [h.day, h.wkL]
theorem agr.py {F G : Nat → Nat → Int32} (h : agr F G) (N i : Nat) : sPy F N i = sPy G N i := by
  have h1 := h.ov N i
  have h2 := h.day i
  obtain ⟨g0, g1, -, -, -, g5, -, -, g8, g9, -, g11⟩ := id h
  unfold sPy sRt
  rw [h1, h2, h.eqV, g0, g1, g5, g8, g9, g11]
theorem agr.at' {F G : Nat → Nat → Int32} (h : agr F G) (t k : Int32) : tAt F t k = tAt G t k := by
  obtain ⟨-, -, -, -, -, -, -, -, h8, h9, h10, h11⟩ := h
  unfold tAt; rw [h9, h10, h11]
theorem agr.mg {F G : Nat → Nat → Int32} (h : agr F G) (N : Nat) (t k : Int32) : sMg F N t k = sMg G N t k := by
  have h1 := h.at' t k
  obtain ⟨-, -, g2, g3, g4, -⟩ := h
  unfold sMg; rw [h1, g2, g3, g4]
theorem agr.ch {F G : Nat → Nat → Int32} (h : agr F G) (N i : Nat) : sCh F N i = sCh G N i := by
  have h1 := h.py N i
  have h2 := h.mg N (G 9 i) (G 10 i / 7)
  obtain ⟨-, -, -, -, -, -, -, -, -, g9, g10, -⟩ := id h
  unfold sCh; rw [h1, g9, g10, h2]
theorem agr.pw {F G : Nat → Nat → Int32} (h : agr F G) (N : Nat) (w k : Int32) : tPw F N w k = tPw G N w k := by
  funext i
  have h1 := h.py N i
  obtain ⟨-, -, -, -, -, -, -, -, g8, g9, g10, -⟩ := id h
  unfold tPw; rw [h1, g8, g10]
theorem agr.ct {F G : Nat → Nat → Int32} (h : agr F G) (N : Nat) (t k : Int32) : tCt F N t k = tCt G N t k := by
  funext i
  have h1 := h.ch N i
  obtain ⟨-, -, -, -, -, -, -, -, g8, g9, g10, -⟩ := id h
  unfold tCt; rw [h1, g9, g10]
theorem runP_agr (F : Nat → Nat → Int32) (N k i : Nat) : agr (runP F N k i) F := by
  induction i with
  | zero => exact agr.rf F
  | succ i ih => exact ih.up12 _ _
theorem runB_agr (F : Nat → Nat → Int32) (N k i : Nat) : agr (runB F N k i) F := by
  induction i with
  | zero => exact runP_agr F N k 6
  | succ i ih => exact ih.up13 _ _
theorem runP_at (F : Nat → Nat → Int32) (N k i j : Nat) (h : i ≤ j) : runP F N k i 12 (j * 20 + k) = F 12 (j * 20 + k) := by
  induction i with
  | zero => rfl
  | succ i ih =>
    show upd (runP F N k i 12) (i * 20 + k) _ (j * 20 + k) = _
    rw [pk_un (by omega)]
    exact ih (by omega)
theorem runP_pay {F : Nat → Nat → Int32} {N k i : Nat} {w x : Int32} (ex : x = nI k) (j : Nat) (ew : w = nI j) : ps (tPw (runP F N k i) N w x) N = pW F N k j := by
  rw [(runP_agr F N k i).pw, ex, ew]; rfl
theorem runB_chg {F : Nat → Nat → Int32} {N k i : Nat} {t x : Int32} (ex : x = nI k) (j : Nat) (et : t = nI j) : ps (tCt (runB F N k i) N t x) N = cS F N k j := by
  rw [(runB_agr F N k i).ct, ex, et]; rfl
end
section
/-! the reads of the class, by program (wip/whole/gen) -/
abbrev rmX0_at : Room := { frames := 0, cells := 0, slots := 0, locals := 0 }
abbrev rmX0_weekOf : Room := { frames := 0, cells := 0, slots := 0, locals := 0 }
abbrev rmX0_plainOfDay : Room := { frames := 1, cells := 0, slots := 0, locals := 21 }
abbrev rmX0_chargeFor : Room := { frames := 0, cells := 0, slots := 0, locals := 0 }
abbrev rmX0_isOfWorker : Room := { frames := 1, cells := 0, slots := 0, locals := 21 }
abbrev rmX0_isAtSite : Room := { frames := 1, cells := 0, slots := 0, locals := 21 }
abbrev rmX0_hoursOnDay : Room := { frames := 1, cells := 0, slots := 0, locals := 21 }
abbrev rmX0_hoursAtSite : Room := { frames := 2, cells := 0, slots := 0, locals := 44 }
abbrev rmX0_minutesLeft : Room := { frames := 1, cells := 0, slots := 0, locals := 21 }
abbrev rmX0_plainByDayAhead : Room := { frames := 2, cells := 0, slots := 0, locals := 41 }
abbrev rmX0_shifts : Room := { frames := 0, cells := 0, slots := 0, locals := 0 }
theorem noP {D : va_G} {H : Heap} : va_P D vwCl [] H := fun k q h => by simp at h
set_option maxHeartbeats 4000000 in
set_option maxRecDepth 100000 in
theorem c_X0_at (l : Launch) (D : va_G) (cA : ClassId) (b : Nat) (n : Nat) (f : Nat → Int32) (x : Int32) (j : Nat) (ei : x = nI j) (hj : j < n) (hn : n ≤ 120) : Rd l D cA [(b, .inl (cA, n, .inl f))] yX0_at wsX0_at rmX0_at [.ref b, .int x] (f j) := by
  refine Rd.of (cc := cX0_at) (maxL := 2) (by decide) rfl (Nat.le_of_ble_eq_true rfl) ?_
  intro p e s m args below meth c ls Q hx hb hts hown hml hK hP hl hend
  have hown : s.vm.findClass RX0 = some m.cls := hown
  have hl : lv_has ls 2 [(0, .ref b), (1, .int x)] := hl
  refine lv_iload_n hx hb dX0_at_0 rfl (lv_at hl 1 rfl) ?_
  refine lv_if_lt (tgt := 16) hx hb dX0_at_1 (by decide) (fun c_1 => (absurd c_1 (by rw [ei]; exact nI_pos (by omega)) : False).elim) (fun c_1 => ?_)
  refine lv_iload_n hx hb dX0_at_4 rfl (lv_at hl 1 rfl) ?_
  refine lv_aload_n hx hb dX0_at_5 rfl (lv_at hl 0 rfl) ?_
  refine va_alen hx hb hK hP 0 0 rfl rfl (v := nI n) rfl dX0_at_6 ?_
  refine lv_icmp_ge (tgt := 16) hx hb dX0_at_7 (by decide) (fun c_7 => (absurd c_7 (by rw [ei, nI_leI (by omega) (by omega)]; omega) : False).elim) (fun c_7 => ?_)
  refine lv_aload_n hx hb dX0_at_10 rfl (lv_at hl 0 rfl) ?_
  refine lv_iload_n hx hb dX0_at_11 rfl (lv_at hl 1 rfl) ?_
  refine ri_ald hx hb hK hP 0 rfl ei hj hn dX0_at_12 ?_
  refine lv_goto (tgt := 17) hx hb dX0_at_13 (by decide) ?_
  exact hend 17 ls _ dX0_at_17 (rfl)

set_option maxHeartbeats 4000000 in
set_option maxRecDepth 100000 in
theorem c_X0_weekOf (l : Launch) (D : va_G) (cA : ClassId) (x : Int32) : Rd l D cA [] yX0_weekOf wsX0_weekOf rmX0_weekOf [.int x] (x / 7) := by
  refine Rd.of (cc := cX0_weekOf) (maxL := 1) (by decide) rfl (Nat.le_of_ble_eq_true rfl) ?_
  intro p e s m args below meth c ls Q hx hb hts hown hml hK hP hl hend
  have hown : s.vm.findClass RX0 = some m.cls := hown
  have hl : lv_has ls 1 [(0, .int x)] := hl
  refine lv_iload_n hx hb dX0_weekOf_0 rfl (lv_at hl 0 rfl) ?_
  refine lv_bipush (v := 7) hx hb dX0_weekOf_1 (by decide) ?_
  refine lv_idiv hx hb dX0_weekOf_3 (by decide) ?_
  exact hend 4 ls _ dX0_weekOf_4 (rfl)

set_option maxHeartbeats 4000000 in
set_option maxRecDepth 100000 in
theorem c_X0_plainOfDay (l : Launch) (D : va_G) (cA : ClassId) (x : Int32) : Rd l D cA [] yX0_plainOfDay wsX0_plainOfDay rmX0_plainOfDay [.int x] (if x < 8 then x else 8) := by
  refine Rd.of (cc := cX0_plainOfDay) (maxL := 1) (by decide) rfl (Nat.le_of_ble_eq_true rfl) ?_
  intro p e s m args below meth c ls Q hx hb hts hown hml hK hP hl hend
  have hown : s.vm.findClass RX0 = some m.cls := hown
  have hl : lv_has ls 1 [(0, .int x)] := hl
  refine lv_bipush (v := 8) hx hb dX0_plainOfDay_0 (by decide) ?_
  refine lv_iload_n hx hb dX0_plainOfDay_2 rfl (lv_at hl 0 rfl) ?_
  refine va_mmin hx hb (hml.trans hl.1.symm) hown (hts (.methodLink RX0 138 Lib.Math.min.name) (by decide +kernel)) (hts (.static Lib.Math.min.name) (by decide +kernel)) (hts (.initialized "java/lang/Math") (by decide +kernel)) (hts (.code Lib.Math.min.name Lib.Math.min.code 2 (some .int)) (by decide +kernel)) (Nat.le_of_ble_eq_true rfl) (Nat.le_of_ble_eq_true rfl) (Nat.zero_le _) (Nat.zero_le _) dX0_plainOfDay_3 ?_
  exact hend 6 ls _ dX0_plainOfDay_6 (rfl)

set_option maxHeartbeats 4000000 in
set_option maxRecDepth 100000 in
theorem c_X0_chargeFor (l : Launch) (D : va_G) (cA : ClassId) (x y : Int32) : Rd l D cA [] yX0_chargeFor wsX0_chargeFor rmX0_chargeFor [.int x, .int y] (x * (100 + y) / 100) := by
  refine Rd.of (cc := cX0_chargeFor) (maxL := 2) (by decide) rfl (Nat.le_of_ble_eq_true rfl) ?_
  intro p e s m args below meth c ls Q hx hb hts hown hml hK hP hl hend
  have hown : s.vm.findClass RX0 = some m.cls := hown
  have hl : lv_has ls 2 [(0, .int x), (1, .int y)] := hl
  refine lv_iload_n hx hb dX0_chargeFor_0 rfl (lv_at hl 0 rfl) ?_
  refine lv_bipush (v := 100) hx hb dX0_chargeFor_1 (by decide) ?_
  refine lv_iload_n hx hb dX0_chargeFor_3 rfl (lv_at hl 1 rfl) ?_
  refine lv_iadd hx hb dX0_chargeFor_4 ?_
  refine lv_imul hx hb dX0_chargeFor_5 ?_
  refine lv_bipush (v := 100) hx hb dX0_chargeFor_6 (by decide) ?_
  refine lv_idiv hx hb dX0_chargeFor_8 (by decide) ?_
  exact hend 9 ls _ dX0_chargeFor_9 (rfl)

set_option maxHeartbeats 4000000 in
set_option maxRecDepth 100000 in
theorem c_X0_isOfWorker (l : Launch) (D : va_G) (cA : ClassId) (a : Nat → Nat) (F : Nat → Nat → Int32) (g : Nat → Int32) (x : Int32) (j : Nat) (ei : x = nI j) (hj : j < 80) (w k : Int32) : Rd l D cA (wX a cA F g) yX0_isOfWorker wsX0_isOfWorker rmX0_isOfWorker [.ref (a 16), .int x, .int w, .int k] (if F 8 j = w ∧ F 10 j / 7 = k then 1 else 0) := by
  refine Rd.ofz (cc := cX0_isOfWorker) (maxL := 4) (by decide) rfl (Nat.le_of_ble_eq_true rfl) ?_
  intro p e s m args below meth c ls Q hx hb hts hown hml hK hP hl hend
  have hown : s.vm.findClass RX0 = some m.cls := hown
  have hi : ∀ w ∈ wsX00, w ∈ wsX0_isOfWorker := by decide +kernel
  have hl : lv_has ls 4 [(0, .ref (a 16)), (1, .int x), (2, .int w), (3, .int k)] := hl
  refine lv_aload_n hx hb dX0_isOfWorker_0 rfl (lv_at hl 0 rfl) ?_
  refine va_get (D := D) (ci := 0) (v := .ref (a 8)) (C := RX0) (T := TX0) (N := 16) hx hb hts hi hown hK hP 0 rfl rfl 8 (by decide) (hts (.fieldLink RX0 35 "AssignmentHouse" "workerOf" "[I") (by decide +kernel)) (fun _ h9 => h9) rfl dX0_isOfWorker_1 ?_
  refine lv_iload_n hx hb dX0_isOfWorker_4 rfl (lv_at hl 1 rfl) ?_
  refine Rd.callS (rest := []) ⟨hx, hb, hml, hown, hts⟩ (c_X0_at l D cA (a 8) 80 (F 8) (x) j (ei) (by omega) (by decide)) (va_cwS 2 hts gX0_isOfWorker_X0_at rfl rfl rfl (by decide +kernel) ⟨Nat.le_of_ble_eq_true rfl, Nat.le_of_ble_eq_true rfl⟩) hK (hP.sub [6] rfl) rfl rfl hl.1 (Nat.le_of_ble_eq_true rfl) dX0_isOfWorker_5 ⟨Nat.zero_le _, Nat.zero_le _⟩ ?_
  refine lv_iload_n hx hb dX0_isOfWorker_8 rfl (lv_at hl 2 rfl) ?_
  refine lv_icmp_ne (tgt := 31) hx hb dX0_isOfWorker_9 (by decide) (fun c_9 => ?_) (fun c_9 => ?_)
  · skip
    refine lv_iconst (v := 0) hx hb dX0_isOfWorker_31 (by decide) ?_
    exact hend 32 ls _ dX0_isOfWorker_32 (by first | (rw [if_pos ⟨c_9, c_24⟩]; done) | (rw [if_neg (fun h => c_24 h.2)]; done) | rw [if_neg (fun h => c_9 h.1)]) (Or.inl rfl)
  · skip
    refine lv_aload_n hx hb dX0_isOfWorker_12 rfl (lv_at hl 0 rfl) ?_
    refine va_get (D := D) (ci := 0) (v := .ref (a 10)) (C := RX0) (T := TX0) (N := 16) hx hb hts hi hown hK hP 0 rfl rfl 10 (by decide) (hts (.fieldLink RX0 41 "AssignmentHouse" "dayOf" "[I") (by decide +kernel)) (fun _ h9 => h9) rfl dX0_isOfWorker_13 ?_
    refine lv_iload_n hx hb dX0_isOfWorker_16 rfl (lv_at hl 1 rfl) ?_
    refine Rd.callS (rest := []) ⟨hx, hb, hml, hown, hts⟩ (c_X0_at l D cA (a 10) 80 (F 10) (x) j (ei) (by omega) (by decide)) (va_cwS 2 hts gX0_isOfWorker_X0_at rfl rfl rfl (by decide +kernel) ⟨Nat.le_of_ble_eq_true rfl, Nat.le_of_ble_eq_true rfl⟩) hK (hP.sub [8] rfl) rfl rfl hl.1 (Nat.le_of_ble_eq_true rfl) dX0_isOfWorker_17 ⟨Nat.zero_le _, Nat.zero_le _⟩ ?_
    refine Rd.callS (rest := []) ⟨hx, hb, hml, hown, hts⟩ (c_X0_weekOf l D cA (F 10 j)) (va_cwS 1 hts gX0_isOfWorker_X0_weekOf rfl rfl rfl (by decide +kernel) ⟨Nat.le_of_ble_eq_true rfl, Nat.le_of_ble_eq_true rfl⟩) hK noP rfl rfl hl.1 (Nat.le_of_ble_eq_true rfl) dX0_isOfWorker_20 ⟨Nat.zero_le _, Nat.zero_le _⟩ ?_
    refine lv_iload_n hx hb dX0_isOfWorker_23 rfl (lv_at hl 3 rfl) ?_
    refine lv_icmp_ne (tgt := 31) hx hb dX0_isOfWorker_24 (by decide) (fun c_24 => ?_) (fun c_24 => ?_)
    · skip
      refine lv_iconst (v := 0) hx hb dX0_isOfWorker_31 (by decide) ?_
      exact hend 32 ls _ dX0_isOfWorker_32 (by first | (rw [if_pos ⟨c_9, c_24⟩]; done) | (rw [if_neg (fun h => c_24 h.2)]; done) | rw [if_neg (fun h => c_9 h.1)]) (Or.inl rfl)
    · skip
      refine lv_iconst (v := 1) hx hb dX0_isOfWorker_27 (by decide) ?_
      refine lv_goto (tgt := 32) hx hb dX0_isOfWorker_28 (by decide) ?_
      exact hend 32 ls _ dX0_isOfWorker_32 (by first | (rw [if_pos ⟨c_9, c_24⟩]; done) | (rw [if_neg (fun h => c_24 h.2)]; done) | rw [if_neg (fun h => c_9 h.1)]) (Or.inr rfl)

set_option maxHeartbeats 4000000 in
set_option maxRecDepth 100000 in
theorem c_X0_isAtSite (l : Launch) (D : va_G) (cA : ClassId) (a : Nat → Nat) (F : Nat → Nat → Int32) (g : Nat → Int32) (x : Int32) (j : Nat) (ei : x = nI j) (hj : j < 80) (w k : Int32) : Rd l D cA (wX a cA F g) yX0_isAtSite wsX0_isAtSite rmX0_isAtSite [.ref (a 16), .int x, .int w, .int k] (if F 9 j = w ∧ F 10 j / 7 = k then 1 else 0) := by
  refine Rd.ofz (cc := cX0_isAtSite) (maxL := 4) (by decide) rfl (Nat.le_of_ble_eq_true rfl) ?_
  intro p e s m args below meth c ls Q hx hb hts hown hml hK hP hl hend
  have hown : s.vm.findClass RX0 = some m.cls := hown
  have hi : ∀ w ∈ wsX00, w ∈ wsX0_isAtSite := by decide +kernel
  have hl : lv_has ls 4 [(0, .ref (a 16)), (1, .int x), (2, .int w), (3, .int k)] := hl
  refine lv_aload_n hx hb dX0_isAtSite_0 rfl (lv_at hl 0 rfl) ?_
  refine va_get (D := D) (ci := 0) (v := .ref (a 9)) (C := RX0) (T := TX0) (N := 16) hx hb hts hi hown hK hP 0 rfl rfl 9 (by decide) (hts (.fieldLink RX0 38 "AssignmentHouse" "siteOf" "[I") (by decide +kernel)) (fun _ h9 => h9) rfl dX0_isAtSite_1 ?_
  refine lv_iload_n hx hb dX0_isAtSite_4 rfl (lv_at hl 1 rfl) ?_
  refine Rd.callS (rest := []) ⟨hx, hb, hml, hown, hts⟩ (c_X0_at l D cA (a 9) 80 (F 9) (x) j (ei) (by omega) (by decide)) (va_cwS 2 hts gX0_isAtSite_X0_at rfl rfl rfl (by decide +kernel) ⟨Nat.le_of_ble_eq_true rfl, Nat.le_of_ble_eq_true rfl⟩) hK (hP.sub [7] rfl) rfl rfl hl.1 (Nat.le_of_ble_eq_true rfl) dX0_isAtSite_5 ⟨Nat.zero_le _, Nat.zero_le _⟩ ?_
  refine lv_iload_n hx hb dX0_isAtSite_8 rfl (lv_at hl 2 rfl) ?_
  refine lv_icmp_ne (tgt := 31) hx hb dX0_isAtSite_9 (by decide) (fun c_9 => ?_) (fun c_9 => ?_)
  · skip
    refine lv_iconst (v := 0) hx hb dX0_isAtSite_31 (by decide) ?_
    exact hend 32 ls _ dX0_isAtSite_32 (by first | (rw [if_pos ⟨c_9, c_24⟩]; done) | (rw [if_neg (fun h => c_24 h.2)]; done) | rw [if_neg (fun h => c_9 h.1)]) (Or.inl rfl)
  · skip
    refine lv_aload_n hx hb dX0_isAtSite_12 rfl (lv_at hl 0 rfl) ?_
    refine va_get (D := D) (ci := 0) (v := .ref (a 10)) (C := RX0) (T := TX0) (N := 16) hx hb hts hi hown hK hP 0 rfl rfl 10 (by decide) (hts (.fieldLink RX0 41 "AssignmentHouse" "dayOf" "[I") (by decide +kernel)) (fun _ h9 => h9) rfl dX0_isAtSite_13 ?_
    refine lv_iload_n hx hb dX0_isAtSite_16 rfl (lv_at hl 1 rfl) ?_
    refine Rd.callS (rest := []) ⟨hx, hb, hml, hown, hts⟩ (c_X0_at l D cA (a 10) 80 (F 10) (x) j (ei) (by omega) (by decide)) (va_cwS 2 hts gX0_isAtSite_X0_at rfl rfl rfl (by decide +kernel) ⟨Nat.le_of_ble_eq_true rfl, Nat.le_of_ble_eq_true rfl⟩) hK (hP.sub [8] rfl) rfl rfl hl.1 (Nat.le_of_ble_eq_true rfl) dX0_isAtSite_17 ⟨Nat.zero_le _, Nat.zero_le _⟩ ?_
    refine Rd.callS (rest := []) ⟨hx, hb, hml, hown, hts⟩ (c_X0_weekOf l D cA (F 10 j)) (va_cwS 1 hts gX0_isAtSite_X0_weekOf rfl rfl rfl (by decide +kernel) ⟨Nat.le_of_ble_eq_true rfl, Nat.le_of_ble_eq_true rfl⟩) hK noP rfl rfl hl.1 (Nat.le_of_ble_eq_true rfl) dX0_isAtSite_20 ⟨Nat.zero_le _, Nat.zero_le _⟩ ?_
    refine lv_iload_n hx hb dX0_isAtSite_23 rfl (lv_at hl 3 rfl) ?_
    refine lv_icmp_ne (tgt := 31) hx hb dX0_isAtSite_24 (by decide) (fun c_24 => ?_) (fun c_24 => ?_)
    · skip
      refine lv_iconst (v := 0) hx hb dX0_isAtSite_31 (by decide) ?_
      exact hend 32 ls _ dX0_isAtSite_32 (by first | (rw [if_pos ⟨c_9, c_24⟩]; done) | (rw [if_neg (fun h => c_24 h.2)]; done) | rw [if_neg (fun h => c_9 h.1)]) (Or.inl rfl)
    · skip
      refine lv_iconst (v := 1) hx hb dX0_isAtSite_27 (by decide) ?_
      refine lv_goto (tgt := 32) hx hb dX0_isAtSite_28 (by decide) ?_
      exact hend 32 ls _ dX0_isAtSite_32 (by first | (rw [if_pos ⟨c_9, c_24⟩]; done) | (rw [if_neg (fun h => c_24 h.2)]; done) | rw [if_neg (fun h => c_9 h.1)]) (Or.inr rfl)

set_option maxHeartbeats 4000000 in
set_option maxRecDepth 100000 in
theorem c_X0_hoursOnDay (l : Launch) (D : va_G) (cA : ClassId) (a : Nat → Nat) (F : Nat → Nat → Int32) (g : Nat → Int32) (N : Nat) (hW : wf F N) (w d : Int32) : Rd l D cA (wX a cA F g) yX0_hoursOnDay wsX0_hoursOnDay rmX0_hoursOnDay [.ref (a 16), .int w, .int d] (ps (tOn F w d) N) := by
  refine Rd.of (cc := cX0_hoursOnDay) (maxL := 5) (by decide) rfl (Nat.le_of_ble_eq_true rfl) ?_
  intro p e s m args below meth c ls Q hx hb hts hown hml hK hP hl hend
  have hown : s.vm.findClass RX0 = some m.cls := hown
  have hi : ∀ w ∈ wsX00, w ∈ wsX0_hoursOnDay := by decide +kernel
  have hl : lv_has ls 5 [(0, .ref (a 16)), (1, .int w), (2, .int d)] := hl
  have hN : N ≤ 80 := hW.n
  have hc : F 7 0 = nI N := hW.c
  refine lv_iconst (v := 0) hx hb dX0_hoursOnDay_0 (by decide) ?_
  refine lv_istore_n (lv' := [(3, .int 0), (0, .ref (a 16)), (1, .int w), (2, .int d)]) hx hb dX0_hoursOnDay_1 rfl hl (by decide) rfl (fun ls hl => ?_)
  refine lv_iconst (v := 0) hx hb dX0_hoursOnDay_2 (by decide) ?_
  refine lv_istore (lv' := [(4, .int 0), (3, .int 0), (0, .ref (a 16)), (1, .int w), (2, .int d)]) hx hb dX0_hoursOnDay_3 hl (by decide) rfl (fun ls hl => ?_)
  have K_5 : ∀ (n i : Nat) (x3 : Int32) (ls : Array Slot), i + n = N → x3 = ps (tOn F w d) i → lv_has ls 5 [(0, .ref (a 16)), (1, .int w), (2, .int d), (3, .int x3), (4, .int (nI i))] → W p l e rmX0_hoursOnDay s m args below meth c s.heap [] 0 0 Q (F0 m 5 ls []) := by
    intro n
    induction n with
    | zero =>
      intro i x3 ls hin_5 ex3 hl
      have hiN : i = N := by omega
      refine lv_iload hx hb dX0_hoursOnDay_5 (lv_at hl 4 rfl) ?_
      refine lv_aload_n hx hb dX0_hoursOnDay_7 rfl (lv_at hl 0 rfl) ?_
      refine va_get (D := D) (ci := 0) (v := .int (F 7 0)) (C := RX0) (T := TX0) (N := 16) hx hb hts hi hown hK hP 0 rfl rfl 7 (by decide) (hts (.fieldLink RX0 32 "AssignmentHouse" "shiftCount" "I") (by decide +kernel)) (fun _ h9 => h9) rfl dX0_hoursOnDay_8 ?_
      refine lv_icmp_ge (tgt := 58) hx hb dX0_hoursOnDay_11 (by decide) (fun c_11 => ?_) (fun c_11 => (absurd (((br_ge hc (by omega) (by omega : i ≤ N)).mpr hiN)) c_11 : False).elim)
      refine lv_iload_n hx hb dX0_hoursOnDay_58 rfl (lv_at hl 3 rfl) ?_
      exact hend 59 ls _ dX0_hoursOnDay_59 (by rw [ex3, hiN])
    | succ n ih_5 =>
      intro i x3 ls hin_5 ex3 hl
      have hiN : i < N := by omega
      refine lv_iload hx hb dX0_hoursOnDay_5 (lv_at hl 4 rfl) ?_
      refine lv_aload_n hx hb dX0_hoursOnDay_7 rfl (lv_at hl 0 rfl) ?_
      refine va_get (D := D) (ci := 0) (v := .int (F 7 0)) (C := RX0) (T := TX0) (N := 16) hx hb hts hi hown hK hP 0 rfl rfl 7 (by decide) (hts (.fieldLink RX0 32 "AssignmentHouse" "shiftCount" "I") (by decide +kernel)) (fun _ h9 => h9) rfl dX0_hoursOnDay_8 ?_
      refine lv_icmp_ge (tgt := 58) hx hb dX0_hoursOnDay_11 (by decide) (fun c_11 => (absurd (((br_ge hc (by omega) (by omega : i ≤ N)).mp c_11)) (by omega) : False).elim) (fun c_11 => ?_)
      refine lv_aload_n hx hb dX0_hoursOnDay_14 rfl (lv_at hl 0 rfl) ?_
      refine va_get (D := D) (ci := 0) (v := .ref (a 8)) (C := RX0) (T := TX0) (N := 16) hx hb hts hi hown hK hP 0 rfl rfl 8 (by decide) (hts (.fieldLink RX0 35 "AssignmentHouse" "workerOf" "[I") (by decide +kernel)) (fun _ h9 => h9) rfl dX0_hoursOnDay_15 ?_
      refine lv_iload hx hb dX0_hoursOnDay_18 (lv_at hl 4 rfl) ?_
      refine Rd.callS (rest := []) ⟨hx, hb, hml, hown, hts⟩ (c_X0_at l D cA (a 8) 80 (F 8) (nI i) i (rfl) (by omega) (by decide)) (va_cwS 2 hts gX0_hoursOnDay_X0_at rfl rfl rfl (by decide +kernel) ⟨Nat.le_of_ble_eq_true rfl, Nat.le_of_ble_eq_true rfl⟩) hK (hP.sub [6] rfl) rfl rfl hl.1 (Nat.le_of_ble_eq_true rfl) dX0_hoursOnDay_20 ⟨Nat.zero_le _, Nat.zero_le _⟩ ?_
      refine lv_iload_n hx hb dX0_hoursOnDay_23 rfl (lv_at hl 1 rfl) ?_
      refine lv_icmp_ne (tgt := 52) hx hb dX0_hoursOnDay_24 (by decide) (fun c_24 => ?_) (fun c_24 => ?_)
      · skip
        refine lv_iinc (v := (nI (i + 1))) (lv' := [(4, .int (nI (i + 1))), (0, .ref (a 16)), (1, .int w), (2, .int d), (3, .int x3)]) hx hb dX0_hoursOnDay_52 hl (k := 4) rfl (nI_1 i) (by decide) rfl (fun ls hl => ?_)
        refine lv_goto (tgt := 5) hx hb dX0_hoursOnDay_55 (by decide) ?_
        exact ih_5 (i + 1) _ ls (by omega) (by rw [ps_s, ex3]; unfold tOn; first | (rw [if_pos ⟨c_24, c_37⟩]; done) | (rw [if_neg (fun h => c_24 h.1), i32_a0]; done) | (rw [if_neg (fun h => c_37 h.2), i32_a0]; done)) (lv_sub hl [1, 2, 3, 4, 0] rfl)
      · skip
        refine lv_aload_n hx hb dX0_hoursOnDay_27 rfl (lv_at hl 0 rfl) ?_
        refine va_get (D := D) (ci := 0) (v := .ref (a 10)) (C := RX0) (T := TX0) (N := 16) hx hb hts hi hown hK hP 0 rfl rfl 10 (by decide) (hts (.fieldLink RX0 41 "AssignmentHouse" "dayOf" "[I") (by decide +kernel)) (fun _ h9 => h9) rfl dX0_hoursOnDay_28 ?_
        refine lv_iload hx hb dX0_hoursOnDay_31 (lv_at hl 4 rfl) ?_
        refine Rd.callS (rest := []) ⟨hx, hb, hml, hown, hts⟩ (c_X0_at l D cA (a 10) 80 (F 10) (nI i) i (rfl) (by omega) (by decide)) (va_cwS 2 hts gX0_hoursOnDay_X0_at rfl rfl rfl (by decide +kernel) ⟨Nat.le_of_ble_eq_true rfl, Nat.le_of_ble_eq_true rfl⟩) hK (hP.sub [8] rfl) rfl rfl hl.1 (Nat.le_of_ble_eq_true rfl) dX0_hoursOnDay_33 ⟨Nat.zero_le _, Nat.zero_le _⟩ ?_
        refine lv_iload_n hx hb dX0_hoursOnDay_36 rfl (lv_at hl 2 rfl) ?_
        refine lv_icmp_ne (tgt := 52) hx hb dX0_hoursOnDay_37 (by decide) (fun c_37 => ?_) (fun c_37 => ?_)
        · skip
          refine lv_iinc (v := (nI (i + 1))) (lv' := [(4, .int (nI (i + 1))), (0, .ref (a 16)), (1, .int w), (2, .int d), (3, .int x3)]) hx hb dX0_hoursOnDay_52 hl (k := 4) rfl (nI_1 i) (by decide) rfl (fun ls hl => ?_)
          refine lv_goto (tgt := 5) hx hb dX0_hoursOnDay_55 (by decide) ?_
          exact ih_5 (i + 1) _ ls (by omega) (by rw [ps_s, ex3]; unfold tOn; first | (rw [if_pos ⟨c_24, c_37⟩]; done) | (rw [if_neg (fun h => c_24 h.1), i32_a0]; done) | (rw [if_neg (fun h => c_37 h.2), i32_a0]; done)) (lv_sub hl [1, 2, 3, 4, 0] rfl)
        · skip
          refine lv_iload_n hx hb dX0_hoursOnDay_40 rfl (lv_at hl 3 rfl) ?_
          refine lv_aload_n hx hb dX0_hoursOnDay_41 rfl (lv_at hl 0 rfl) ?_
          refine va_get (D := D) (ci := 0) (v := .ref (a 11)) (C := RX0) (T := TX0) (N := 16) hx hb hts hi hown hK hP 0 rfl rfl 11 (by decide) (hts (.fieldLink RX0 44 "AssignmentHouse" "hoursOf" "[I") (by decide +kernel)) (fun _ h9 => h9) rfl dX0_hoursOnDay_42 ?_
          refine lv_iload hx hb dX0_hoursOnDay_45 (lv_at hl 4 rfl) ?_
          refine Rd.callS (rest := [.int x3]) ⟨hx, hb, hml, hown, hts⟩ (c_X0_at l D cA (a 11) 80 (F 11) (nI i) i (rfl) (by omega) (by decide)) (va_cwS 2 hts gX0_hoursOnDay_X0_at rfl rfl rfl (by decide +kernel) ⟨Nat.le_of_ble_eq_true rfl, Nat.le_of_ble_eq_true rfl⟩) hK (hP.sub [9] rfl) rfl rfl hl.1 (Nat.le_of_ble_eq_true rfl) dX0_hoursOnDay_47 ⟨Nat.zero_le _, Nat.zero_le _⟩ ?_
          refine lv_iadd hx hb dX0_hoursOnDay_50 ?_
          refine lv_istore_n (lv' := [(3, .int (x3 + (F 11 i))), (0, .ref (a 16)), (1, .int w), (2, .int d), (4, .int (nI i))]) hx hb dX0_hoursOnDay_51 rfl hl (by decide) rfl (fun ls hl => ?_)
          refine lv_iinc (v := (nI (i + 1))) (lv' := [(4, .int (nI (i + 1))), (3, .int (x3 + (F 11 i))), (0, .ref (a 16)), (1, .int w), (2, .int d)]) hx hb dX0_hoursOnDay_52 hl (k := 4) rfl (nI_1 i) (by decide) rfl (fun ls hl => ?_)
          refine lv_goto (tgt := 5) hx hb dX0_hoursOnDay_55 (by decide) ?_
          exact ih_5 (i + 1) _ ls (by omega) (by rw [ps_s, ex3]; unfold tOn; first | (rw [if_pos ⟨c_24, c_37⟩]; done) | (rw [if_neg (fun h => c_24 h.1), i32_a0]; done) | (rw [if_neg (fun h => c_37 h.2), i32_a0]; done)) (lv_sub hl [2, 3, 4, 1, 0] rfl)
  exact K_5 N 0 _ ls (by omega) (rfl) (lv_sub hl [2, 3, 4, 1, 0] rfl)

set_option maxHeartbeats 4000000 in
set_option maxRecDepth 100000 in
theorem c_X0_hoursAtSite (l : Launch) (D : va_G) (cA : ClassId) (a : Nat → Nat) (F : Nat → Nat → Int32) (g : Nat → Int32) (N : Nat) (hW : wf F N) (t k : Int32) : Rd l D cA (wX a cA F g) yX0_hoursAtSite wsX0_hoursAtSite rmX0_hoursAtSite [.ref (a 16), .int t, .int k] (ps (tAt F t k) N) := by
  refine Rd.of (cc := cX0_hoursAtSite) (maxL := 5) (by decide) rfl (Nat.le_of_ble_eq_true rfl) ?_
  intro p e s m args below meth c ls Q hx hb hts hown hml hK hP hl hend
  have hown : s.vm.findClass RX0 = some m.cls := hown
  have hi : ∀ w ∈ wsX00, w ∈ wsX0_hoursAtSite := by decide +kernel
  have hl : lv_has ls 5 [(0, .ref (a 16)), (1, .int t), (2, .int k)] := hl
  have hN : N ≤ 80 := hW.n
  have hc : F 7 0 = nI N := hW.c
  refine lv_iconst (v := 0) hx hb dX0_hoursAtSite_0 (by decide) ?_
  refine lv_istore_n (lv' := [(3, .int 0), (0, .ref (a 16)), (1, .int t), (2, .int k)]) hx hb dX0_hoursAtSite_1 rfl hl (by decide) rfl (fun ls hl => ?_)
  refine lv_iconst (v := 0) hx hb dX0_hoursAtSite_2 (by decide) ?_
  refine lv_istore (lv' := [(4, .int 0), (3, .int 0), (0, .ref (a 16)), (1, .int t), (2, .int k)]) hx hb dX0_hoursAtSite_3 hl (by decide) rfl (fun ls hl => ?_)
  have K_5 : ∀ (n i : Nat) (x3 : Int32) (ls : Array Slot), i + n = N → x3 = ps (tAt F t k) i → lv_has ls 5 [(0, .ref (a 16)), (1, .int t), (2, .int k), (3, .int x3), (4, .int (nI i))] → W p l e rmX0_hoursAtSite s m args below meth c s.heap [] 0 0 Q (F0 m 5 ls []) := by
    intro n
    induction n with
    | zero =>
      intro i x3 ls hin_5 ex3 hl
      have hiN : i = N := by omega
      refine lv_iload hx hb dX0_hoursAtSite_5 (lv_at hl 4 rfl) ?_
      refine lv_aload_n hx hb dX0_hoursAtSite_7 rfl (lv_at hl 0 rfl) ?_
      refine va_get (D := D) (ci := 0) (v := .int (F 7 0)) (C := RX0) (T := TX0) (N := 16) hx hb hts hi hown hK hP 0 rfl rfl 7 (by decide) (hts (.fieldLink RX0 32 "AssignmentHouse" "shiftCount" "I") (by decide +kernel)) (fun _ h9 => h9) rfl dX0_hoursAtSite_8 ?_
      refine lv_icmp_ge (tgt := 43) hx hb dX0_hoursAtSite_11 (by decide) (fun c_11 => ?_) (fun c_11 => (absurd (((br_ge hc (by omega) (by omega : i ≤ N)).mpr hiN)) c_11 : False).elim)
      refine lv_iload_n hx hb dX0_hoursAtSite_43 rfl (lv_at hl 3 rfl) ?_
      exact hend 44 ls _ dX0_hoursAtSite_44 (by rw [ex3, hiN])
    | succ n ih_5 =>
      intro i x3 ls hin_5 ex3 hl
      have hiN : i < N := by omega
      refine lv_iload hx hb dX0_hoursAtSite_5 (lv_at hl 4 rfl) ?_
      refine lv_aload_n hx hb dX0_hoursAtSite_7 rfl (lv_at hl 0 rfl) ?_
      refine va_get (D := D) (ci := 0) (v := .int (F 7 0)) (C := RX0) (T := TX0) (N := 16) hx hb hts hi hown hK hP 0 rfl rfl 7 (by decide) (hts (.fieldLink RX0 32 "AssignmentHouse" "shiftCount" "I") (by decide +kernel)) (fun _ h9 => h9) rfl dX0_hoursAtSite_8 ?_
      refine lv_icmp_ge (tgt := 43) hx hb dX0_hoursAtSite_11 (by decide) (fun c_11 => (absurd (((br_ge hc (by omega) (by omega : i ≤ N)).mp c_11)) (by omega) : False).elim) (fun c_11 => ?_)
      refine lv_aload_n hx hb dX0_hoursAtSite_14 rfl (lv_at hl 0 rfl) ?_
      refine lv_iload hx hb dX0_hoursAtSite_15 (lv_at hl 4 rfl) ?_
      refine lv_iload_n hx hb dX0_hoursAtSite_17 rfl (lv_at hl 1 rfl) ?_
      refine lv_iload_n hx hb dX0_hoursAtSite_18 rfl (lv_at hl 2 rfl) ?_
      refine Rd.callV (rest := []) (q0 := 0) (ci := 0) ⟨hx, hb, hml, hown, hts⟩ (c_X0_isAtSite l D cA a F g (nI i) i (rfl) (by omega) t k) (cwV 3 hts gX0_hoursAtSite_X0_isAtSite rfl rfl rfl (by decide +kernel) ⟨Nat.le_of_ble_eq_true rfl, Nat.le_of_ble_eq_true rfl⟩) hK hP rfl rfl rfl rfl rfl hl.1 (Nat.le_of_ble_eq_true rfl) dX0_hoursAtSite_19 ⟨Nat.zero_le _, Nat.zero_le _⟩ ?_
      refine lv_if_eq (tgt := 37) hx hb dX0_hoursAtSite_22 (by decide) (fun c_22 => ?_) (fun c_22 => ?_)
      · skip
        have hq : ¬ (F 9 i = t ∧ F 10 i / 7 = k) := fun h => absurd c_22 (by rw [if_pos h]; decide)
        refine lv_iinc (v := (nI (i + 1))) (lv' := [(4, .int (nI (i + 1))), (0, .ref (a 16)), (1, .int t), (2, .int k), (3, .int x3)]) hx hb dX0_hoursAtSite_37 hl (k := 4) rfl (nI_1 i) (by decide) rfl (fun ls hl => ?_)
        refine lv_goto (tgt := 5) hx hb dX0_hoursAtSite_40 (by decide) ?_
        exact ih_5 (i + 1) _ ls (by omega) (by rw [ps_s, ex3]; unfold tAt; first | (rw [if_pos hq]; done) | (rw [if_neg hq, i32_a0]; done)) (lv_sub hl [1, 2, 3, 4, 0] rfl)
      · skip
        have hq : (F 9 i = t ∧ F 10 i / 7 = k) := Classical.byContradiction (fun h => c_22 (if_neg h))
        refine lv_iload_n hx hb dX0_hoursAtSite_25 rfl (lv_at hl 3 rfl) ?_
        refine lv_aload_n hx hb dX0_hoursAtSite_26 rfl (lv_at hl 0 rfl) ?_
        refine va_get (D := D) (ci := 0) (v := .ref (a 11)) (C := RX0) (T := TX0) (N := 16) hx hb hts hi hown hK hP 0 rfl rfl 11 (by decide) (hts (.fieldLink RX0 44 "AssignmentHouse" "hoursOf" "[I") (by decide +kernel)) (fun _ h9 => h9) rfl dX0_hoursAtSite_27 ?_
        refine lv_iload hx hb dX0_hoursAtSite_30 (lv_at hl 4 rfl) ?_
        refine Rd.callS (rest := [.int x3]) ⟨hx, hb, hml, hown, hts⟩ (c_X0_at l D cA (a 11) 80 (F 11) (nI i) i (rfl) (by omega) (by decide)) (va_cwS 2 hts gX0_hoursAtSite_X0_at rfl rfl rfl (by decide +kernel) ⟨Nat.le_of_ble_eq_true rfl, Nat.le_of_ble_eq_true rfl⟩) hK (hP.sub [9] rfl) rfl rfl hl.1 (Nat.le_of_ble_eq_true rfl) dX0_hoursAtSite_32 ⟨Nat.zero_le _, Nat.zero_le _⟩ ?_
        refine lv_iadd hx hb dX0_hoursAtSite_35 ?_
        refine lv_istore_n (lv' := [(3, .int (x3 + (F 11 i))), (0, .ref (a 16)), (1, .int t), (2, .int k), (4, .int (nI i))]) hx hb dX0_hoursAtSite_36 rfl hl (by decide) rfl (fun ls hl => ?_)
        refine lv_iinc (v := (nI (i + 1))) (lv' := [(4, .int (nI (i + 1))), (3, .int (x3 + (F 11 i))), (0, .ref (a 16)), (1, .int t), (2, .int k)]) hx hb dX0_hoursAtSite_37 hl (k := 4) rfl (nI_1 i) (by decide) rfl (fun ls hl => ?_)
        refine lv_goto (tgt := 5) hx hb dX0_hoursAtSite_40 (by decide) ?_
        exact ih_5 (i + 1) _ ls (by omega) (by rw [ps_s, ex3]; unfold tAt; first | (rw [if_pos hq]; done) | (rw [if_neg hq, i32_a0]; done)) (lv_sub hl [2, 3, 4, 1, 0] rfl)
  exact K_5 N 0 _ ls (by omega) (rfl) (lv_sub hl [2, 3, 4, 1, 0] rfl)

set_option maxHeartbeats 4000000 in
set_option maxRecDepth 100000 in
theorem c_X0_minutesLeft (l : Launch) (D : va_G) (cA : ClassId) (a : Nat → Nat) (F : Nat → Nat → Int32) (g : Nat → Int32) (N : Nat) (hW : wf F N) (x : Int32) (j : Nat) (ei : x = nI j) (hj : j < 6) : Rd l D cA (wX a cA F g) yX0_minutesLeft wsX0_minutesLeft rmX0_minutesLeft [.ref (a 16), .int x] (7 * ps (tHr F x) N - F 14 j) := by
  refine Rd.of (cc := cX0_minutesLeft) (maxL := 4) (by decide) rfl (Nat.le_of_ble_eq_true rfl) ?_
  intro p e s m args below meth c ls Q hx hb hts hown hml hK hP hl hend
  have hown : s.vm.findClass RX0 = some m.cls := hown
  have hi : ∀ w ∈ wsX00, w ∈ wsX0_minutesLeft := by decide +kernel
  have hl : lv_has ls 4 [(0, .ref (a 16)), (1, .int x)] := hl
  have hN : N ≤ 80 := hW.n
  have hc : F 7 0 = nI N := hW.c
  refine lv_iconst (v := 0) hx hb dX0_minutesLeft_0 (by decide) ?_
  refine lv_istore_n (lv' := [(2, .int 0), (0, .ref (a 16)), (1, .int x)]) hx hb dX0_minutesLeft_1 rfl hl (by decide) rfl (fun ls hl => ?_)
  refine lv_iconst (v := 0) hx hb dX0_minutesLeft_2 (by decide) ?_
  refine lv_istore_n (lv' := [(3, .int 0), (2, .int 0), (0, .ref (a 16)), (1, .int x)]) hx hb dX0_minutesLeft_3 rfl hl (by decide) rfl (fun ls hl => ?_)
  have K_4 : ∀ (n i : Nat) (x2 : Int32) (ls : Array Slot), i + n = N → x2 = ps (tHr F x) i → lv_has ls 4 [(0, .ref (a 16)), (1, .int x), (2, .int x2), (3, .int (nI i))] → W p l e rmX0_minutesLeft s m args below meth c s.heap [] 0 0 Q (F0 m 4 ls []) := by
    intro n
    induction n with
    | zero =>
      intro i x2 ls hin_4 ex2 hl
      have hiN : i = N := by omega
      refine lv_iload_n hx hb dX0_minutesLeft_4 rfl (lv_at hl 3 rfl) ?_
      refine lv_aload_n hx hb dX0_minutesLeft_5 rfl (lv_at hl 0 rfl) ?_
      refine va_get (D := D) (ci := 0) (v := .int (F 7 0)) (C := RX0) (T := TX0) (N := 16) hx hb hts hi hown hK hP 0 rfl rfl 7 (by decide) (hts (.fieldLink RX0 32 "AssignmentHouse" "shiftCount" "I") (by decide +kernel)) (fun _ h9 => h9) rfl dX0_minutesLeft_6 ?_
      refine lv_icmp_ge (tgt := 41) hx hb dX0_minutesLeft_9 (by decide) (fun c_9 => ?_) (fun c_9 => (absurd (((br_ge hc (by omega) (by omega : i ≤ N)).mpr hiN)) c_9 : False).elim)
      refine lv_bipush (v := 7) hx hb dX0_minutesLeft_41 (by decide) ?_
      refine lv_iload_n hx hb dX0_minutesLeft_43 rfl (lv_at hl 2 rfl) ?_
      refine lv_imul hx hb dX0_minutesLeft_44 ?_
      refine lv_aload_n hx hb dX0_minutesLeft_45 rfl (lv_at hl 0 rfl) ?_
      refine va_get (D := D) (ci := 0) (v := .ref (a 14)) (C := RX0) (T := TX0) (N := 16) hx hb hts hi hown hK hP 0 rfl rfl 14 (by decide) (hts (.fieldLink RX0 53 "AssignmentHouse" "minutesTaken" "[I") (by decide +kernel)) (fun _ h9 => h9) rfl dX0_minutesLeft_46 ?_
      refine lv_iload_n hx hb dX0_minutesLeft_49 rfl (lv_at hl 1 rfl) ?_
      refine Rd.callS (rest := [.int (7 * x2)]) ⟨hx, hb, hml, hown, hts⟩ (c_X0_at l D cA (a 14) 6 (F 14) (x) j (ei) (by omega) (by decide)) (va_cwS 2 hts gX0_minutesLeft_X0_at rfl rfl rfl (by decide +kernel) ⟨Nat.le_of_ble_eq_true rfl, Nat.le_of_ble_eq_true rfl⟩) hK (hP.sub [12] rfl) rfl rfl hl.1 (Nat.le_of_ble_eq_true rfl) dX0_minutesLeft_50 ⟨Nat.zero_le _, Nat.zero_le _⟩ ?_
      refine lv_isub hx hb dX0_minutesLeft_53 ?_
      exact hend 54 ls _ dX0_minutesLeft_54 (by rw [ex2, hiN])
    | succ n ih_4 =>
      intro i x2 ls hin_4 ex2 hl
      have hiN : i < N := by omega
      refine lv_iload_n hx hb dX0_minutesLeft_4 rfl (lv_at hl 3 rfl) ?_
      refine lv_aload_n hx hb dX0_minutesLeft_5 rfl (lv_at hl 0 rfl) ?_
      refine va_get (D := D) (ci := 0) (v := .int (F 7 0)) (C := RX0) (T := TX0) (N := 16) hx hb hts hi hown hK hP 0 rfl rfl 7 (by decide) (hts (.fieldLink RX0 32 "AssignmentHouse" "shiftCount" "I") (by decide +kernel)) (fun _ h9 => h9) rfl dX0_minutesLeft_6 ?_
      refine lv_icmp_ge (tgt := 41) hx hb dX0_minutesLeft_9 (by decide) (fun c_9 => (absurd (((br_ge hc (by omega) (by omega : i ≤ N)).mp c_9)) (by omega) : False).elim) (fun c_9 => ?_)
      refine lv_aload_n hx hb dX0_minutesLeft_12 rfl (lv_at hl 0 rfl) ?_
      refine va_get (D := D) (ci := 0) (v := .ref (a 8)) (C := RX0) (T := TX0) (N := 16) hx hb hts hi hown hK hP 0 rfl rfl 8 (by decide) (hts (.fieldLink RX0 35 "AssignmentHouse" "workerOf" "[I") (by decide +kernel)) (fun _ h9 => h9) rfl dX0_minutesLeft_13 ?_
      refine lv_iload_n hx hb dX0_minutesLeft_16 rfl (lv_at hl 3 rfl) ?_
      refine Rd.callS (rest := []) ⟨hx, hb, hml, hown, hts⟩ (c_X0_at l D cA (a 8) 80 (F 8) (nI i) i (rfl) (by omega) (by decide)) (va_cwS 2 hts gX0_minutesLeft_X0_at rfl rfl rfl (by decide +kernel) ⟨Nat.le_of_ble_eq_true rfl, Nat.le_of_ble_eq_true rfl⟩) hK (hP.sub [6] rfl) rfl rfl hl.1 (Nat.le_of_ble_eq_true rfl) dX0_minutesLeft_17 ⟨Nat.zero_le _, Nat.zero_le _⟩ ?_
      refine lv_iload_n hx hb dX0_minutesLeft_20 rfl (lv_at hl 1 rfl) ?_
      refine lv_icmp_ne (tgt := 35) hx hb dX0_minutesLeft_21 (by decide) (fun c_21 => ?_) (fun c_21 => ?_)
      · skip
        refine lv_iinc (v := (nI (i + 1))) (lv' := [(3, .int (nI (i + 1))), (0, .ref (a 16)), (1, .int x), (2, .int x2)]) hx hb dX0_minutesLeft_35 hl (k := 3) rfl (nI_1 i) (by decide) rfl (fun ls hl => ?_)
        refine lv_goto (tgt := 4) hx hb dX0_minutesLeft_38 (by decide) ?_
        exact ih_4 (i + 1) _ ls (by omega) (by rw [ps_s, ex2]; unfold tHr; first | (rw [if_pos c_21]; done) | (rw [if_neg c_21, i32_a0]; done)) (lv_sub hl [1, 2, 3, 0] rfl)
      · skip
        refine lv_iload_n hx hb dX0_minutesLeft_24 rfl (lv_at hl 2 rfl) ?_
        refine lv_aload_n hx hb dX0_minutesLeft_25 rfl (lv_at hl 0 rfl) ?_
        refine va_get (D := D) (ci := 0) (v := .ref (a 11)) (C := RX0) (T := TX0) (N := 16) hx hb hts hi hown hK hP 0 rfl rfl 11 (by decide) (hts (.fieldLink RX0 44 "AssignmentHouse" "hoursOf" "[I") (by decide +kernel)) (fun _ h9 => h9) rfl dX0_minutesLeft_26 ?_
        refine lv_iload_n hx hb dX0_minutesLeft_29 rfl (lv_at hl 3 rfl) ?_
        refine Rd.callS (rest := [.int x2]) ⟨hx, hb, hml, hown, hts⟩ (c_X0_at l D cA (a 11) 80 (F 11) (nI i) i (rfl) (by omega) (by decide)) (va_cwS 2 hts gX0_minutesLeft_X0_at rfl rfl rfl (by decide +kernel) ⟨Nat.le_of_ble_eq_true rfl, Nat.le_of_ble_eq_true rfl⟩) hK (hP.sub [9] rfl) rfl rfl hl.1 (Nat.le_of_ble_eq_true rfl) dX0_minutesLeft_30 ⟨Nat.zero_le _, Nat.zero_le _⟩ ?_
        refine lv_iadd hx hb dX0_minutesLeft_33 ?_
        refine lv_istore_n (lv' := [(2, .int (x2 + (F 11 i))), (0, .ref (a 16)), (1, .int x), (3, .int (nI i))]) hx hb dX0_minutesLeft_34 rfl hl (by decide) rfl (fun ls hl => ?_)
        refine lv_iinc (v := (nI (i + 1))) (lv' := [(3, .int (nI (i + 1))), (2, .int (x2 + (F 11 i))), (0, .ref (a 16)), (1, .int x)]) hx hb dX0_minutesLeft_35 hl (k := 3) rfl (nI_1 i) (by decide) rfl (fun ls hl => ?_)
        refine lv_goto (tgt := 4) hx hb dX0_minutesLeft_38 (by decide) ?_
        exact ih_4 (i + 1) _ ls (by omega) (by rw [ps_s, ex2]; unfold tHr; first | (rw [if_pos c_21]; done) | (rw [if_neg c_21, i32_a0]; done)) (lv_sub hl [2, 3, 1, 0] rfl)
  exact K_4 N 0 _ ls (by omega) (rfl) (lv_sub hl [2, 3, 1, 0] rfl)

set_option maxHeartbeats 4000000 in
set_option maxRecDepth 100000 in
theorem c_X0_plainByDayAhead (l : Launch) (D : va_G) (cA : ClassId) (a : Nat → Nat) (F : Nat → Nat → Int32) (g : Nat → Int32) : Rd l D cA (wX a cA F g) yX0_plainByDayAhead wsX0_plainByDayAhead rmX0_plainByDayAhead [.ref (a 16)] (ps (fun i => if g i < 8 then g i else 8) 7) := by
  refine Rd.of (cc := cX0_plainByDayAhead) (maxL := 3) (by decide) rfl (Nat.le_of_ble_eq_true rfl) ?_
  intro p e s m args below meth c ls Q hx hb hts hown hml hK hP hl hend
  have hown : s.vm.findClass RX0 = some m.cls := hown
  have hi : ∀ w ∈ wsX00, w ∈ wsX0_plainByDayAhead := by decide +kernel
  have hl : lv_has ls 3 [(0, .ref (a 16))] := hl
  have hc : (7 : Int32) = nI 7 := rfl
  refine lv_iconst (v := 0) hx hb dX0_plainByDayAhead_0 (by decide) ?_
  refine lv_istore_n (lv' := [(1, .int 0), (0, .ref (a 16))]) hx hb dX0_plainByDayAhead_1 rfl hl (by decide) rfl (fun ls hl => ?_)
  refine lv_iconst (v := 0) hx hb dX0_plainByDayAhead_2 (by decide) ?_
  refine lv_istore_n (lv' := [(2, .int 0), (1, .int 0), (0, .ref (a 16))]) hx hb dX0_plainByDayAhead_3 rfl hl (by decide) rfl (fun ls hl => ?_)
  have K_4 : ∀ (n i : Nat) (x1 : Int32) (ls : Array Slot), i + n = 7 → x1 = ps (fun i => if g i < 8 then g i else 8) i → lv_has ls 3 [(0, .ref (a 16)), (1, .int x1), (2, .int (nI i))] → W p l e rmX0_plainByDayAhead s m args below meth c s.heap [] 0 0 Q (F0 m 4 ls []) := by
    intro n
    induction n with
    | zero =>
      intro i x1 ls hin_4 ex1 hl
      have hiN : i = 7 := by omega
      refine lv_iload_n hx hb dX0_plainByDayAhead_4 rfl (lv_at hl 2 rfl) ?_
      refine lv_bipush (v := 7) hx hb dX0_plainByDayAhead_5 (by decide) ?_
      refine lv_icmp_ge (tgt := 30) hx hb dX0_plainByDayAhead_7 (by decide) (fun c_7 => ?_) (fun c_7 => (absurd (((br_ge hc (by omega) (by omega : i ≤ 7)).mpr hiN)) c_7 : False).elim)
      refine lv_iload_n hx hb dX0_plainByDayAhead_30 rfl (lv_at hl 1 rfl) ?_
      exact hend 31 ls _ dX0_plainByDayAhead_31 (by rw [ex1, hiN])
    | succ n ih_4 =>
      intro i x1 ls hin_4 ex1 hl
      have hiN : i < 7 := by omega
      refine lv_iload_n hx hb dX0_plainByDayAhead_4 rfl (lv_at hl 2 rfl) ?_
      refine lv_bipush (v := 7) hx hb dX0_plainByDayAhead_5 (by decide) ?_
      refine lv_icmp_ge (tgt := 30) hx hb dX0_plainByDayAhead_7 (by decide) (fun c_7 => (absurd (((br_ge hc (by omega) (by omega : i ≤ 7)).mp c_7)) (by omega) : False).elim) (fun c_7 => ?_)
      refine lv_iload_n hx hb dX0_plainByDayAhead_10 rfl (lv_at hl 1 rfl) ?_
      refine lv_aload_n hx hb dX0_plainByDayAhead_11 rfl (lv_at hl 0 rfl) ?_
      refine va_get (D := D) (ci := 0) (v := .ref (a 15)) (C := RX0) (T := TX0) (N := 16) hx hb hts hi hown hK hP 0 rfl rfl 15 (by decide) (hts (.fieldLink RX0 56 "AssignmentHouse" "aheadOnDay" "[I") (by decide +kernel)) (fun _ h9 => h9) rfl dX0_plainByDayAhead_12 ?_
      refine lv_iload_n hx hb dX0_plainByDayAhead_15 rfl (lv_at hl 2 rfl) ?_
      refine Rd.callS (rest := [.int x1]) ⟨hx, hb, hml, hown, hts⟩ (c_X0_at l D cA (a 15) 7 g (nI i) i (rfl) (by omega) (by decide)) (va_cwS 2 hts gX0_plainByDayAhead_X0_at rfl rfl rfl (by decide +kernel) ⟨Nat.le_of_ble_eq_true rfl, Nat.le_of_ble_eq_true rfl⟩) hK (hP.sub [13] rfl) rfl rfl hl.1 (Nat.le_of_ble_eq_true rfl) dX0_plainByDayAhead_16 ⟨Nat.zero_le _, Nat.zero_le _⟩ ?_
      refine Rd.callS (rest := [.int x1]) ⟨hx, hb, hml, hown, hts⟩ (c_X0_plainOfDay l D cA (g i)) (va_cwS 1 hts gX0_plainByDayAhead_X0_plainOfDay rfl rfl rfl (by decide +kernel) ⟨Nat.le_of_ble_eq_true rfl, Nat.le_of_ble_eq_true rfl⟩) hK noP rfl rfl hl.1 (Nat.le_of_ble_eq_true rfl) dX0_plainByDayAhead_19 ⟨Nat.zero_le _, Nat.zero_le _⟩ ?_
      refine lv_iadd hx hb dX0_plainByDayAhead_22 ?_
      refine lv_istore_n (lv' := [(1, .int (x1 + (if (g i) < 8 then (g i) else 8))), (0, .ref (a 16)), (2, .int (nI i))]) hx hb dX0_plainByDayAhead_23 rfl hl (by decide) rfl (fun ls hl => ?_)
      refine lv_iinc (v := (nI (i + 1))) (lv' := [(2, .int (nI (i + 1))), (1, .int (x1 + (if (g i) < 8 then (g i) else 8))), (0, .ref (a 16))]) hx hb dX0_plainByDayAhead_24 hl (k := 2) rfl (nI_1 i) (by decide) rfl (fun ls hl => ?_)
      refine lv_goto (tgt := 4) hx hb dX0_plainByDayAhead_27 (by decide) ?_
      exact ih_4 (i + 1) _ ls (by omega) (by rw [ps_s, ex1]) (lv_sub hl [2, 1, 0] rfl)
  exact K_4 7 0 _ ls (by omega) (rfl) (lv_sub hl [2, 1, 0] rfl)

set_option maxHeartbeats 4000000 in
set_option maxRecDepth 100000 in
theorem c_X0_shifts (l : Launch) (D : va_G) (cA : ClassId) (a : Nat → Nat) (F : Nat → Nat → Int32) (g : Nat → Int32) : Rd l D cA (wX a cA F g) yX0_shifts wsX0_shifts rmX0_shifts [.ref (a 16)] (F 7 0) := by
  refine Rd.of (cc := cX0_shifts) (maxL := 1) (by decide) rfl (Nat.le_of_ble_eq_true rfl) ?_
  intro p e s m args below meth c ls Q hx hb hts hown hml hK hP hl hend
  have hown : s.vm.findClass RX0 = some m.cls := hown
  have hi : ∀ w ∈ wsX00, w ∈ wsX0_shifts := by decide +kernel
  have hl : lv_has ls 1 [(0, .ref (a 16))] := hl
  refine lv_aload_n hx hb dX0_shifts_0 rfl (lv_at hl 0 rfl) ?_
  refine va_get (D := D) (ci := 0) (v := .int (F 7 0)) (C := RX0) (T := TX0) (N := 16) hx hb hts hi hown hK hP 0 rfl rfl 7 (by decide) (hts (.fieldLink RX0 32 "AssignmentHouse" "shiftCount" "I") (by decide +kernel)) (fun _ h9 => h9) rfl dX0_shifts_1 ?_
  exact hend 4 ls _ dX0_shifts_4 (rfl)
end
section
/-! the class: equal pay, rates, margins; the scratch row; by program (wip/whole/gen) -/
abbrev rmX0_weeksWorked : Room := { frames := 1, cells := 0, slots := 0, locals := 21 }
abbrev rmX0_isEqual : Room := { frames := 2, cells := 0, slots := 0, locals := 45 }
abbrev rmX0_rateThere : Room := { frames := 3, cells := 0, slots := 0, locals := 72 }
abbrev rmX0_marginAt : Room := { frames := 3, cells := 0, slots := 0, locals := 68 }
abbrev rmX0_put : Room := { frames := 0, cells := 0, slots := 0, locals := 0 }
abbrev rmX0_fillAheadOnDay : Room := { frames := 2, cells := 0, slots := 0, locals := 44 }
abbrev rmX0_overtimeHours : Room := { frames := 3, cells := 0, slots := 0, locals := 72 }
abbrev rmX0_shiftPay : Room := { frames := 4, cells := 0, slots := 0, locals := 97 }
abbrev rmX0_weekPay : Room := { frames := 5, cells := 0, slots := 0, locals := 121 }
abbrev rmX0_weekCharge : Room := { frames := 5, cells := 0, slots := 0, locals := 121 }
set_option maxHeartbeats 4000000 in
set_option maxRecDepth 100000 in
theorem c_X0_weeksWorked (l : Launch) (D : va_G) (cA : ClassId) (a : Nat → Nat) (F : Nat → Nat → Int32) (g : Nat → Int32) (N : Nat) (hW : wf F N) (w t : Int32) : Rd l D cA (wX a cA F g) yX0_weeksWorked wsX0_weeksWorked rmX0_weeksWorked [.ref (a 16), .int w, .int t] (wksM F w t N) := by
  refine Rd.of (cc := cX0_weeksWorked) (maxL := 5) (by decide) rfl (Nat.le_of_ble_eq_true rfl) ?_
  intro p e s m args below meth c ls Q hx hb hts hown hml hK hP hl hend
  have hown : s.vm.findClass RX0 = some m.cls := hown
  have hi : ∀ w ∈ wsX00, w ∈ wsX0_weeksWorked := by decide +kernel
  have hl : lv_has ls 5 [(0, .ref (a 16)), (1, .int w), (2, .int t)] := hl
  have hN : N ≤ 80 := hW.n
  have hc : F 7 0 = nI N := hW.c
  refine lv_iconst (v := 0) hx hb dX0_weeksWorked_0 (by decide) ?_
  refine lv_istore_n (lv' := [(3, .int 0), (0, .ref (a 16)), (1, .int w), (2, .int t)]) hx hb dX0_weeksWorked_1 rfl hl (by decide) rfl (fun ls hl => ?_)
  refine lv_iconst (v := 0) hx hb dX0_weeksWorked_2 (by decide) ?_
  refine lv_istore (lv' := [(4, .int 0), (3, .int 0), (0, .ref (a 16)), (1, .int w), (2, .int t)]) hx hb dX0_weeksWorked_3 hl (by decide) rfl (fun ls hl => ?_)
  have K_5 : ∀ (n i : Nat) (x3 : Int32) (ls : Array Slot), i + n = N → x3 = wksM F w t i → lv_has ls 5 [(0, .ref (a 16)), (1, .int w), (2, .int t), (3, .int x3), (4, .int (nI i))] → W p l e rmX0_weeksWorked s m args below meth c s.heap [] 0 0 Q (F0 m 5 ls []) := by
    intro n
    induction n with
    | zero =>
      intro i x3 ls hin_5 ex3 hl
      have hiN : i = N := by omega
      refine lv_iload hx hb dX0_weeksWorked_5 (lv_at hl 4 rfl) ?_
      refine lv_aload_n hx hb dX0_weeksWorked_7 rfl (lv_at hl 0 rfl) ?_
      refine va_get (D := D) (ci := 0) (v := .int (F 7 0)) (C := RX0) (T := TX0) (N := 16) hx hb hts hi hown hK hP 0 rfl rfl 7 (by decide) (hts (.fieldLink RX0 32 "AssignmentHouse" "shiftCount" "I") (by decide +kernel)) (fun _ h9 => h9) rfl dX0_weeksWorked_8 ?_
      refine lv_icmp_ge (tgt := 76) hx hb dX0_weeksWorked_11 (by decide) (fun c_11 => ?_) (fun c_11 => (absurd (((br_ge hc (by omega) (by omega : i ≤ N)).mpr hiN)) c_11 : False).elim)
      refine lv_iload_n hx hb dX0_weeksWorked_76 rfl (lv_at hl 3 rfl) ?_
      exact hend 77 ls _ dX0_weeksWorked_77 (by rw [ex3, hiN])
    | succ n ih_5 =>
      intro i x3 ls hin_5 ex3 hl
      have hiN : i < N := by omega
      refine lv_iload hx hb dX0_weeksWorked_5 (lv_at hl 4 rfl) ?_
      refine lv_aload_n hx hb dX0_weeksWorked_7 rfl (lv_at hl 0 rfl) ?_
      refine va_get (D := D) (ci := 0) (v := .int (F 7 0)) (C := RX0) (T := TX0) (N := 16) hx hb hts hi hown hK hP 0 rfl rfl 7 (by decide) (hts (.fieldLink RX0 32 "AssignmentHouse" "shiftCount" "I") (by decide +kernel)) (fun _ h9 => h9) rfl dX0_weeksWorked_8 ?_
      refine lv_icmp_ge (tgt := 76) hx hb dX0_weeksWorked_11 (by decide) (fun c_11 => (absurd (((br_ge hc (by omega) (by omega : i ≤ N)).mp c_11)) (by omega) : False).elim) (fun c_11 => ?_)
      refine lv_aload_n hx hb dX0_weeksWorked_14 rfl (lv_at hl 0 rfl) ?_
      refine va_get (D := D) (ci := 0) (v := .ref (a 8)) (C := RX0) (T := TX0) (N := 16) hx hb hts hi hown hK hP 0 rfl rfl 8 (by decide) (hts (.fieldLink RX0 35 "AssignmentHouse" "workerOf" "[I") (by decide +kernel)) (fun _ h9 => h9) rfl dX0_weeksWorked_15 ?_
      refine lv_iload hx hb dX0_weeksWorked_18 (lv_at hl 4 rfl) ?_
      refine Rd.callS (rest := []) ⟨hx, hb, hml, hown, hts⟩ (c_X0_at l D cA (a 8) 80 (F 8) (nI i) i (rfl) (by omega) (by decide)) (va_cwS 2 hts gX0_weeksWorked_X0_at rfl rfl rfl (by decide +kernel) ⟨Nat.le_of_ble_eq_true rfl, Nat.le_of_ble_eq_true rfl⟩) hK (hP.sub [6] rfl) rfl rfl hl.1 (Nat.le_of_ble_eq_true rfl) dX0_weeksWorked_20 ⟨Nat.zero_le _, Nat.zero_le _⟩ ?_
      refine lv_iload_n hx hb dX0_weeksWorked_23 rfl (lv_at hl 1 rfl) ?_
      refine lv_icmp_ne (tgt := 70) hx hb dX0_weeksWorked_24 (by decide) (fun c_24 => ?_) (fun c_24 => ?_)
      · skip
        refine lv_iinc (v := (nI (i + 1))) (lv' := [(4, .int (nI (i + 1))), (0, .ref (a 16)), (1, .int w), (2, .int t), (3, .int x3)]) hx hb dX0_weeksWorked_70 hl (k := 4) rfl (nI_1 i) (by decide) rfl (fun ls hl => ?_)
        refine lv_goto (tgt := 5) hx hb dX0_weeksWorked_73 (by decide) ?_
        exact ih_5 (i + 1) _ ls (by omega) (by rw [ex3, wks_s, if_neg (fun h => c_24 h.1)]) (lv_sub hl [1, 2, 3, 4, 0] rfl)
      · skip
        refine lv_aload_n hx hb dX0_weeksWorked_27 rfl (lv_at hl 0 rfl) ?_
        refine va_get (D := D) (ci := 0) (v := .ref (a 9)) (C := RX0) (T := TX0) (N := 16) hx hb hts hi hown hK hP 0 rfl rfl 9 (by decide) (hts (.fieldLink RX0 38 "AssignmentHouse" "siteOf" "[I") (by decide +kernel)) (fun _ h9 => h9) rfl dX0_weeksWorked_28 ?_
        refine lv_iload hx hb dX0_weeksWorked_31 (lv_at hl 4 rfl) ?_
        refine Rd.callS (rest := []) ⟨hx, hb, hml, hown, hts⟩ (c_X0_at l D cA (a 9) 80 (F 9) (nI i) i (rfl) (by omega) (by decide)) (va_cwS 2 hts gX0_weeksWorked_X0_at rfl rfl rfl (by decide +kernel) ⟨Nat.le_of_ble_eq_true rfl, Nat.le_of_ble_eq_true rfl⟩) hK (hP.sub [7] rfl) rfl rfl hl.1 (Nat.le_of_ble_eq_true rfl) dX0_weeksWorked_33 ⟨Nat.zero_le _, Nat.zero_le _⟩ ?_
        refine lv_iload_n hx hb dX0_weeksWorked_36 rfl (lv_at hl 2 rfl) ?_
        refine lv_icmp_ne (tgt := 70) hx hb dX0_weeksWorked_37 (by decide) (fun c_37 => ?_) (fun c_37 => ?_)
        · skip
          refine lv_iinc (v := (nI (i + 1))) (lv' := [(4, .int (nI (i + 1))), (0, .ref (a 16)), (1, .int w), (2, .int t), (3, .int x3)]) hx hb dX0_weeksWorked_70 hl (k := 4) rfl (nI_1 i) (by decide) rfl (fun ls hl => ?_)
          refine lv_goto (tgt := 5) hx hb dX0_weeksWorked_73 (by decide) ?_
          exact ih_5 (i + 1) _ ls (by omega) (by rw [ex3, wks_s, if_neg (fun h => c_37 h.2.1)]) (lv_sub hl [1, 2, 3, 4, 0] rfl)
        · skip
          refine lv_aload_n hx hb dX0_weeksWorked_40 rfl (lv_at hl 0 rfl) ?_
          refine va_get (D := D) (ci := 0) (v := .ref (a 11)) (C := RX0) (T := TX0) (N := 16) hx hb hts hi hown hK hP 0 rfl rfl 11 (by decide) (hts (.fieldLink RX0 44 "AssignmentHouse" "hoursOf" "[I") (by decide +kernel)) (fun _ h9 => h9) rfl dX0_weeksWorked_41 ?_
          refine lv_iload hx hb dX0_weeksWorked_44 (lv_at hl 4 rfl) ?_
          refine Rd.callS (rest := []) ⟨hx, hb, hml, hown, hts⟩ (c_X0_at l D cA (a 11) 80 (F 11) (nI i) i (rfl) (by omega) (by decide)) (va_cwS 2 hts gX0_weeksWorked_X0_at rfl rfl rfl (by decide +kernel) ⟨Nat.le_of_ble_eq_true rfl, Nat.le_of_ble_eq_true rfl⟩) hK (hP.sub [9] rfl) rfl rfl hl.1 (Nat.le_of_ble_eq_true rfl) dX0_weeksWorked_46 ⟨Nat.zero_le _, Nat.zero_le _⟩ ?_
          refine lv_iconst (v := 1) hx hb dX0_weeksWorked_49 (by decide) ?_
          refine lv_icmp_lt (tgt := 70) hx hb dX0_weeksWorked_50 (by decide) (fun c_50 => ?_) (fun c_50 => ?_)
          · skip
            refine lv_iinc (v := (nI (i + 1))) (lv' := [(4, .int (nI (i + 1))), (0, .ref (a 16)), (1, .int w), (2, .int t), (3, .int x3)]) hx hb dX0_weeksWorked_70 hl (k := 4) rfl (nI_1 i) (by decide) rfl (fun ls hl => ?_)
            refine lv_goto (tgt := 5) hx hb dX0_weeksWorked_73 (by decide) ?_
            exact ih_5 (i + 1) _ ls (by omega) (by rw [ex3, wks_s, if_neg (fun h => absurd c_50 (Int32.not_lt.mpr h.2.2))]) (lv_sub hl [1, 2, 3, 4, 0] rfl)
          · skip
            refine lv_iload_n hx hb dX0_weeksWorked_53 rfl (lv_at hl 3 rfl) ?_
            refine lv_iconst (v := 1) hx hb dX0_weeksWorked_54 (by decide) ?_
            refine lv_aload_n hx hb dX0_weeksWorked_55 rfl (lv_at hl 0 rfl) ?_
            refine va_get (D := D) (ci := 0) (v := .ref (a 10)) (C := RX0) (T := TX0) (N := 16) hx hb hts hi hown hK hP 0 rfl rfl 10 (by decide) (hts (.fieldLink RX0 41 "AssignmentHouse" "dayOf" "[I") (by decide +kernel)) (fun _ h9 => h9) rfl dX0_weeksWorked_56 ?_
            refine lv_iload hx hb dX0_weeksWorked_59 (lv_at hl 4 rfl) ?_
            refine Rd.callS (rest := [.int 1, .int x3]) ⟨hx, hb, hml, hown, hts⟩ (c_X0_at l D cA (a 10) 80 (F 10) (nI i) i (rfl) (by omega) (by decide)) (va_cwS 2 hts gX0_weeksWorked_X0_at rfl rfl rfl (by decide +kernel) ⟨Nat.le_of_ble_eq_true rfl, Nat.le_of_ble_eq_true rfl⟩) hK (hP.sub [8] rfl) rfl rfl hl.1 (Nat.le_of_ble_eq_true rfl) dX0_weeksWorked_61 ⟨Nat.zero_le _, Nat.zero_le _⟩ ?_
            refine Rd.callS (rest := [.int 1, .int x3]) ⟨hx, hb, hml, hown, hts⟩ (c_X0_weekOf l D cA (F 10 i)) (va_cwS 1 hts gX0_weeksWorked_X0_weekOf rfl rfl rfl (by decide +kernel) ⟨Nat.le_of_ble_eq_true rfl, Nat.le_of_ble_eq_true rfl⟩) hK noP rfl rfl hl.1 (Nat.le_of_ble_eq_true rfl) dX0_weeksWorked_64 ⟨Nat.zero_le _, Nat.zero_le _⟩ ?_
            refine lv_ishl hx hb dX0_weeksWorked_67 ?_
            refine lv_ior hx hb dX0_weeksWorked_68 ?_
            refine lv_istore_n (lv' := [(3, .int (x3 ||| (1 <<< (((F 10 i) / 7) &&& 31)))), (0, .ref (a 16)), (1, .int w), (2, .int t), (4, .int (nI i))]) hx hb dX0_weeksWorked_69 rfl hl (by decide) rfl (fun ls hl => ?_)
            refine lv_iinc (v := (nI (i + 1))) (lv' := [(4, .int (nI (i + 1))), (3, .int (x3 ||| (1 <<< (((F 10 i) / 7) &&& 31)))), (0, .ref (a 16)), (1, .int w), (2, .int t)]) hx hb dX0_weeksWorked_70 hl (k := 4) rfl (nI_1 i) (by decide) rfl (fun ls hl => ?_)
            refine lv_goto (tgt := 5) hx hb dX0_weeksWorked_73 (by decide) ?_
            exact ih_5 (i + 1) _ ls (by omega) (by rw [ex3, wks_s, if_pos ⟨c_24, c_37, Int32.not_lt.mp c_50⟩]) (lv_sub hl [2, 3, 4, 1, 0] rfl)
  exact K_5 N 0 _ ls (by omega) (rfl) (lv_sub hl [2, 3, 4, 1, 0] rfl)

set_option maxHeartbeats 4000000 in
set_option maxRecDepth 100000 in
theorem c_X0_isEqual (l : Launch) (D : va_G) (cA : ClassId) (a : Nat → Nat) (F : Nat → Nat → Int32) (g : Nat → Int32) (N : Nat) (hW : wf F N) (w t x : Int32) (k : Nat) (ek : x = nI k) (hk : k ≤ 20) : Rd l D cA (wX a cA F g) yX0_isEqual wsX0_isEqual rmX0_isEqual [.ref (a 16), .int w, .int t, .int x] (if F 5 0 ≤ sEqV F N w t k then 1 else 0) := by
  refine Rd.ofz (cc := cX0_isEqual) (maxL := 8) (by decide) rfl (Nat.le_of_ble_eq_true rfl) ?_
  intro p e s m args below meth c ls Q hx hb hts hown hml hK hP hl hend
  have hown : s.vm.findClass RX0 = some m.cls := hown
  have hi : ∀ w ∈ wsX00, w ∈ wsX0_isEqual := by decide +kernel
  have hl : lv_has ls 8 [(0, .ref (a 16)), (1, .int w), (2, .int t), (3, .int x)] := hl
  have hN : N ≤ 80 := hW.n
  have hc : F 7 0 = nI N := hW.c
  refine lv_aload_n hx hb dX0_isEqual_0 rfl (lv_at hl 0 rfl) ?_
  refine lv_iload_n hx hb dX0_isEqual_1 rfl (lv_at hl 1 rfl) ?_
  refine lv_iload_n hx hb dX0_isEqual_2 rfl (lv_at hl 2 rfl) ?_
  refine Rd.callV (rest := []) (q0 := 0) (ci := 0) ⟨hx, hb, hml, hown, hts⟩ (c_X0_weeksWorked l D cA a F g N hW w t) (cwV 2 hts gX0_isEqual_X0_weeksWorked rfl rfl rfl (by decide +kernel) ⟨Nat.le_of_ble_eq_true rfl, Nat.le_of_ble_eq_true rfl⟩) hK hP rfl rfl rfl rfl rfl hl.1 (Nat.le_of_ble_eq_true rfl) dX0_isEqual_3 ⟨Nat.zero_le _, Nat.zero_le _⟩ ?_
  refine lv_istore (lv' := [(4, .int (wksM F w t N)), (0, .ref (a 16)), (1, .int w), (2, .int t), (3, .int x)]) hx hb dX0_isEqual_6 hl (by decide) rfl (fun ls hl => ?_)
  refine lv_iconst (v := 0) hx hb dX0_isEqual_8 (by decide) ?_
  refine lv_istore (lv' := [(5, .int 0), (4, .int (wksM F w t N)), (0, .ref (a 16)), (1, .int w), (2, .int t), (3, .int x)]) hx hb dX0_isEqual_9 hl (by decide) rfl (fun ls hl => ?_)
  refine lv_iconst (v := 0) hx hb dX0_isEqual_11 (by decide) ?_
  refine lv_istore (lv' := [(6, .int 0), (5, .int 0), (4, .int (wksM F w t N)), (0, .ref (a 16)), (1, .int w), (2, .int t), (3, .int x)]) hx hb dX0_isEqual_12 hl (by decide) rfl (fun ls hl => ?_)
  refine lv_iload_n hx hb dX0_isEqual_14 rfl (lv_at hl 6 rfl) ?_
  refine lv_iconst (v := 1) hx hb dX0_isEqual_15 (by decide) ?_
  refine lv_isub hx hb dX0_isEqual_16 ?_
  refine lv_istore (lv' := [(7, .int (x - 1)), (6, .int 0), (5, .int 0), (4, .int (wksM F w t N)), (0, .ref (a 16)), (1, .int w), (2, .int t), (3, .int x)]) hx hb dX0_isEqual_17 hl (by decide) rfl (fun ls hl => ?_)
  have K_19 : ∀ (j : Nat) (x5 x6 x7 : Int32) (ls : Array Slot), j ≤ 20 → x7 = nI j - 1 → eqL (fun j => wkd F w t (nI j) N) (F 6 0) j x5 x6 = sEqV F N w t k → lv_has ls 8 [(0, .ref (a 16)), (4, .int (wksM F w t N)), (5, .int x5), (6, .int x6), (7, .int x7)] → W p l e rmX0_isEqual s m args below meth c s.heap [] 0 0 Q (F0 m 19 ls []) := by
    intro j
    induction j with
    | zero =>
      intro x5 x6 x7 ls hj ex7 hq hl
      have ex7 : x7 = -1 := ex7
      subst ex7
      refine lv_iload hx hb dX0_isEqual_19 (lv_at hl 4 rfl) ?_
      refine lv_if_lt (tgt := 62) hx hb dX0_isEqual_21 (by decide) (fun c_21 => ?_) (fun c_21 => (c_21 (by decide) : False).elim)
      refine lv_iload hx hb dX0_isEqual_62 (lv_at hl 2 rfl) ?_
      refine lv_aload_n hx hb dX0_isEqual_64 rfl (lv_at hl 0 rfl) ?_
      refine va_get (D := D) (ci := 0) (v := .int (F 5 0)) (C := RX0) (T := TX0) (N := 16) hx hb hts hi hown hK hP 0 rfl rfl 5 (by decide) (hts (.fieldLink RX0 25 "AssignmentHouse" "equalSpan" "I") (by decide +kernel)) (fun _ h9 => h9) rfl dX0_isEqual_65 ?_
      refine lv_icmp_lt (tgt := 75) hx hb dX0_isEqual_68 (by decide) (fun c_68 => ?_) (fun c_68 => ?_)
      · skip
        refine lv_iconst (v := 0) hx hb dX0_isEqual_75 (by decide) ?_
        have hv : x5 = sEqV F N w t k := by rw [← hq]; first | rfl | (rw [eqL_s, if_neg (Int32.not_le.mpr c_30)])
        exact hend 76 ls _ dX0_isEqual_76 (by rw [← hv]; exact (if_neg (Int32.not_le.mpr c_68)).symm) (Or.inl rfl)
      · skip
        refine lv_iconst (v := 1) hx hb dX0_isEqual_71 (by decide) ?_
        refine lv_goto (tgt := 76) hx hb dX0_isEqual_72 (by decide) ?_
        have hv : x5 = sEqV F N w t k := by rw [← hq]; first | rfl | (rw [eqL_s, if_neg (Int32.not_le.mpr c_30)])
        exact hend 76 ls _ dX0_isEqual_76 (by rw [← hv]; exact (if_pos (Int32.not_lt.mp c_68)).symm) (Or.inr rfl)
    | succ j ih_19 =>
      intro x5 x6 x7 ls hj ex7 hq hl
      have ex7 : x7 = nI j := by rw [ex7]; exact nI_pred j
      subst ex7
      refine lv_iload hx hb dX0_isEqual_19 (lv_at hl 4 rfl) ?_
      refine lv_if_lt (tgt := 62) hx hb dX0_isEqual_21 (by decide) (fun c_21 => (absurd c_21 (nI_pos (by omega)) : False).elim) (fun c_21 => ?_)
      refine lv_iload hx hb dX0_isEqual_24 (lv_at hl 3 rfl) ?_
      refine lv_aload_n hx hb dX0_isEqual_26 rfl (lv_at hl 0 rfl) ?_
      refine va_get (D := D) (ci := 0) (v := .int (F 6 0)) (C := RX0) (T := TX0) (N := 16) hx hb hts hi hown hK hP 0 rfl rfl 6 (by decide) (hts (.fieldLink RX0 29 "AssignmentHouse" "equalGap" "I") (by decide +kernel)) (fun _ h9 => h9) rfl dX0_isEqual_27 ?_
      refine lv_icmp_gt (tgt := 62) hx hb dX0_isEqual_30 (by decide) (fun c_30 => ?_) (fun c_30 => ?_)
      · skip
        refine lv_iload hx hb dX0_isEqual_62 (lv_at hl 2 rfl) ?_
        refine lv_aload_n hx hb dX0_isEqual_64 rfl (lv_at hl 0 rfl) ?_
        refine va_get (D := D) (ci := 0) (v := .int (F 5 0)) (C := RX0) (T := TX0) (N := 16) hx hb hts hi hown hK hP 0 rfl rfl 5 (by decide) (hts (.fieldLink RX0 25 "AssignmentHouse" "equalSpan" "I") (by decide +kernel)) (fun _ h9 => h9) rfl dX0_isEqual_65 ?_
        refine lv_icmp_lt (tgt := 75) hx hb dX0_isEqual_68 (by decide) (fun c_68 => ?_) (fun c_68 => ?_)
        · skip
          refine lv_iconst (v := 0) hx hb dX0_isEqual_75 (by decide) ?_
          have hv : x5 = sEqV F N w t k := by rw [← hq]; first | rfl | (rw [eqL_s, if_neg (Int32.not_le.mpr c_30)])
          exact hend 76 ls _ dX0_isEqual_76 (by rw [← hv]; exact (if_neg (Int32.not_le.mpr c_68)).symm) (Or.inl rfl)
        · skip
          refine lv_iconst (v := 1) hx hb dX0_isEqual_71 (by decide) ?_
          refine lv_goto (tgt := 76) hx hb dX0_isEqual_72 (by decide) ?_
          have hv : x5 = sEqV F N w t k := by rw [← hq]; first | rfl | (rw [eqL_s, if_neg (Int32.not_le.mpr c_30)])
          exact hend 76 ls _ dX0_isEqual_76 (by rw [← hv]; exact (if_pos (Int32.not_lt.mp c_68)).symm) (Or.inr rfl)
      · skip
        refine lv_iload hx hb dX0_isEqual_33 (lv_at hl 1 rfl) ?_
        refine lv_iload hx hb dX0_isEqual_35 (lv_at hl 4 rfl) ?_
        refine lv_ishr hx hb dX0_isEqual_37 ?_
        refine lv_iconst (v := 1) hx hb dX0_isEqual_38 (by decide) ?_
        refine lv_iand hx hb dX0_isEqual_39 ?_
        refine lv_iconst (v := 1) hx hb dX0_isEqual_40 (by decide) ?_
        refine lv_icmp_ne (tgt := 53) hx hb dX0_isEqual_41 (by decide) (fun c_41 => ?_) (fun c_41 => ?_)
        · skip
          refine lv_iinc (v := (x6 + 1)) (lv' := [(6, .int (x6 + 1)), (0, .ref (a 16)), (4, .int (wksM F w t N)), (5, .int x5), (7, .int (nI j))]) hx hb dX0_isEqual_53 hl (k := 3) rfl (rfl) (by decide) rfl (fun ls hl => ?_)
          refine lv_iinc (v := (nI j - 1)) (lv' := [(7, .int (nI j - 1)), (6, .int (x6 + 1)), (0, .ref (a 16)), (4, .int (wksM F w t N)), (5, .int x5)]) hx hb dX0_isEqual_56 hl (k := 4) rfl (i32_m1 _) (by decide) rfl (fun ls hl => ?_)
          refine lv_goto (tgt := 19) hx hb dX0_isEqual_59 (by decide) ?_
          exact ih_19 _ _ _ ls (by omega) rfl (by rw [← hq]; rw [eqL_s, if_pos (Int32.not_lt.mp c_30), if_neg (fun h => c_41 ((wks_bit hW w t (by omega)).mpr h))]) (lv_sub hl [2, 3, 4, 1, 0] rfl)
        · skip
          refine lv_iinc (v := (x5 + 1)) (lv' := [(5, .int (x5 + 1)), (0, .ref (a 16)), (4, .int (wksM F w t N)), (6, .int x6), (7, .int (nI j))]) hx hb dX0_isEqual_44 hl (k := 2) rfl (rfl) (by decide) rfl (fun ls hl => ?_)
          refine lv_iconst (v := 0) hx hb dX0_isEqual_47 (by decide) ?_
          refine lv_istore (lv' := [(6, .int 0), (5, .int (x5 + 1)), (0, .ref (a 16)), (4, .int (wksM F w t N)), (7, .int (nI j))]) hx hb dX0_isEqual_48 hl (by decide) rfl (fun ls hl => ?_)
          refine lv_goto (tgt := 56) hx hb dX0_isEqual_50 (by decide) ?_
          refine lv_iinc (v := (nI j - 1)) (lv' := [(7, .int (nI j - 1)), (6, .int 0), (5, .int (x5 + 1)), (0, .ref (a 16)), (4, .int (wksM F w t N))]) hx hb dX0_isEqual_56 hl (k := 4) rfl (i32_m1 _) (by decide) rfl (fun ls hl => ?_)
          refine lv_goto (tgt := 19) hx hb dX0_isEqual_59 (by decide) ?_
          exact ih_19 _ _ _ ls (by omega) rfl (by rw [← hq]; rw [eqL_s, if_pos (Int32.not_lt.mp c_30), if_pos ((wks_bit hW w t (by omega)).mp c_41)]) (lv_sub hl [3, 4, 2, 1, 0] rfl)
  exact K_19 k _ _ _ ls hk (by rw [ek]) rfl (lv_sub hl [4, 3, 2, 1, 0] rfl)

set_option maxHeartbeats 4000000 in
set_option maxRecDepth 100000 in
theorem c_X0_rateThere (l : Launch) (D : va_G) (cA : ClassId) (a : Nat → Nat) (F : Nat → Nat → Int32) (g : Nat → Int32) (N : Nat) (hW : wf F N) (w t : Int32) (tn : Nat) (et : t = nI tn) (ht : tn < 4) (x : Int32) (k : Nat) (ek : x = nI k) (hk : k ≤ 20) : Rd l D cA (wX a cA F g) yX0_rateThere wsX0_rateThere rmX0_rateThere [.ref (a 16), .int w, .int t, .int x] (if F 5 0 ≤ sEqV F N w t k then F 1 tn else F 0 tn) := by
  refine Rd.of (cc := cX0_rateThere) (maxL := 4) (by decide) rfl (Nat.le_of_ble_eq_true rfl) ?_
  intro p e s m args below meth c ls Q hx hb hts hown hml hK hP hl hend
  have hown : s.vm.findClass RX0 = some m.cls := hown
  have hi : ∀ w ∈ wsX00, w ∈ wsX0_rateThere := by decide +kernel
  have hl : lv_has ls 4 [(0, .ref (a 16)), (1, .int w), (2, .int t), (3, .int x)] := hl
  have hN : N ≤ 80 := hW.n
  have hc : F 7 0 = nI N := hW.c
  refine lv_aload_n hx hb dX0_rateThere_0 rfl (lv_at hl 0 rfl) ?_
  refine lv_iload_n hx hb dX0_rateThere_1 rfl (lv_at hl 1 rfl) ?_
  refine lv_iload_n hx hb dX0_rateThere_2 rfl (lv_at hl 2 rfl) ?_
  refine lv_iload_n hx hb dX0_rateThere_3 rfl (lv_at hl 3 rfl) ?_
  refine Rd.callV (rest := []) (q0 := 0) (ci := 0) ⟨hx, hb, hml, hown, hts⟩ (c_X0_isEqual l D cA a F g N hW w t x k ek hk) (cwV 3 hts gX0_rateThere_X0_isEqual rfl rfl rfl (by decide +kernel) ⟨Nat.le_of_ble_eq_true rfl, Nat.le_of_ble_eq_true rfl⟩) hK hP rfl rfl rfl rfl rfl hl.1 (Nat.le_of_ble_eq_true rfl) dX0_rateThere_4 ⟨Nat.zero_le _, Nat.zero_le _⟩ ?_
  refine lv_if_eq (tgt := 21) hx hb dX0_rateThere_7 (by decide) (fun c_7 => ?_) (fun c_7 => ?_)
  · skip
    have hq : ¬ (F 5 0 ≤ sEqV F N w t k) := fun h => absurd c_7 (by rw [if_pos h]; decide)
    refine lv_aload_n hx hb dX0_rateThere_21 rfl (lv_at hl 0 rfl) ?_
    refine va_get (D := D) (ci := 0) (v := .ref (a 0)) (C := RX0) (T := TX0) (N := 16) hx hb hts hi hown hK hP 0 rfl rfl 0 (by decide) (hts (.fieldLink RX0 9 "AssignmentHouse" "plainRate" "[I") (by decide +kernel)) (fun _ h9 => h9) rfl dX0_rateThere_22 ?_
    refine lv_iload_n hx hb dX0_rateThere_25 rfl (lv_at hl 2 rfl) ?_
    refine Rd.callS (rest := []) ⟨hx, hb, hml, hown, hts⟩ (c_X0_at l D cA (a 0) 4 (F 0) (t) tn (et) (by omega) (by decide)) (va_cwS 2 hts gX0_rateThere_X0_at rfl rfl rfl (by decide +kernel) ⟨Nat.le_of_ble_eq_true rfl, Nat.le_of_ble_eq_true rfl⟩) hK (hP.sub [1] rfl) rfl rfl hl.1 (Nat.le_of_ble_eq_true rfl) dX0_rateThere_26 ⟨Nat.zero_le _, Nat.zero_le _⟩ ?_
    exact hend 29 ls _ dX0_rateThere_29 (by first | (rw [if_pos hq]; done) | rw [if_neg hq])
  · skip
    have hq : (F 5 0 ≤ sEqV F N w t k) := Classical.byContradiction (fun h => c_7 (if_neg h))
    refine lv_aload_n hx hb dX0_rateThere_10 rfl (lv_at hl 0 rfl) ?_
    refine va_get (D := D) (ci := 0) (v := .ref (a 1)) (C := RX0) (T := TX0) (N := 16) hx hb hts hi hown hK hP 0 rfl rfl 1 (by decide) (hts (.fieldLink RX0 13 "AssignmentHouse" "equalRate" "[I") (by decide +kernel)) (fun _ h9 => h9) rfl dX0_rateThere_11 ?_
    refine lv_iload_n hx hb dX0_rateThere_14 rfl (lv_at hl 2 rfl) ?_
    refine Rd.callS (rest := []) ⟨hx, hb, hml, hown, hts⟩ (c_X0_at l D cA (a 1) 4 (F 1) (t) tn (et) (by omega) (by decide)) (va_cwS 2 hts gX0_rateThere_X0_at rfl rfl rfl (by decide +kernel) ⟨Nat.le_of_ble_eq_true rfl, Nat.le_of_ble_eq_true rfl⟩) hK (hP.sub [2] rfl) rfl rfl hl.1 (Nat.le_of_ble_eq_true rfl) dX0_rateThere_15 ⟨Nat.zero_le _, Nat.zero_le _⟩ ?_
    refine lv_goto (tgt := 29) hx hb dX0_rateThere_18 (by decide) ?_
    exact hend 29 ls _ dX0_rateThere_29 (by first | (rw [if_pos hq]; done) | rw [if_neg hq])

set_option maxHeartbeats 4000000 in
set_option maxRecDepth 100000 in
theorem c_X0_marginAt (l : Launch) (D : va_G) (cA : ClassId) (a : Nat → Nat) (F : Nat → Nat → Int32) (g : Nat → Int32) (N : Nat) (hW : wf F N) (t : Int32) (tn : Nat) (et : t = nI tn) (ht : tn < 4) (k : Int32) : Rd l D cA (wX a cA F g) yX0_marginAt wsX0_marginAt rmX0_marginAt [.ref (a 16), .int t, .int k] (sMg F N t k) := by
  refine Rd.of (cc := cX0_marginAt) (maxL := 4) (by decide) rfl (Nat.le_of_ble_eq_true rfl) ?_
  intro p e s m args below meth c ls Q hx hb hts hown hml hK hP hl hend
  have hown : s.vm.findClass RX0 = some m.cls := hown
  have hi : ∀ w ∈ wsX00, w ∈ wsX0_marginAt := by decide +kernel
  have hl : lv_has ls 4 [(0, .ref (a 16)), (1, .int t), (2, .int k)] := hl
  have hN : N ≤ 80 := hW.n
  have hc : F 7 0 = nI N := hW.c
  have hcl : t.toNatClampNeg = tn := by rw [et]; exact nI_clamp (by omega)
  refine lv_aload_n hx hb dX0_marginAt_0 rfl (lv_at hl 0 rfl) ?_
  refine lv_iload_n hx hb dX0_marginAt_1 rfl (lv_at hl 1 rfl) ?_
  refine lv_iload_n hx hb dX0_marginAt_2 rfl (lv_at hl 2 rfl) ?_
  refine Rd.callV (rest := []) (q0 := 0) (ci := 0) ⟨hx, hb, hml, hown, hts⟩ (c_X0_hoursAtSite l D cA a F g N hW t k) (cwV 2 hts gX0_marginAt_X0_hoursAtSite rfl rfl rfl (by decide +kernel) ⟨Nat.le_of_ble_eq_true rfl, Nat.le_of_ble_eq_true rfl⟩) hK hP rfl rfl rfl rfl rfl hl.1 (Nat.le_of_ble_eq_true rfl) dX0_marginAt_3 ⟨Nat.zero_le _, Nat.zero_le _⟩ ?_
  refine lv_aload_n hx hb dX0_marginAt_6 rfl (lv_at hl 0 rfl) ?_
  refine va_get (D := D) (ci := 0) (v := .ref (a 4)) (C := RX0) (T := TX0) (N := 16) hx hb hts hi hown hK hP 0 rfl rfl 4 (by decide) (hts (.fieldLink RX0 22 "AssignmentHouse" "lowVolume" "[I") (by decide +kernel)) (fun _ h9 => h9) rfl dX0_marginAt_7 ?_
  refine lv_iload_n hx hb dX0_marginAt_10 rfl (lv_at hl 1 rfl) ?_
  refine Rd.callS (rest := [.int (ps (tAt F t k) N)]) ⟨hx, hb, hml, hown, hts⟩ (c_X0_at l D cA (a 4) 4 (F 4) (t) tn (et) (by omega) (by decide)) (va_cwS 2 hts gX0_marginAt_X0_at rfl rfl rfl (by decide +kernel) ⟨Nat.le_of_ble_eq_true rfl, Nat.le_of_ble_eq_true rfl⟩) hK (hP.sub [5] rfl) rfl rfl hl.1 (Nat.le_of_ble_eq_true rfl) dX0_marginAt_11 ⟨Nat.zero_le _, Nat.zero_le _⟩ ?_
  refine lv_icmp_lt (tgt := 21) hx hb dX0_marginAt_14 (by decide) (fun c_14 => ?_) (fun c_14 => ?_)
  · skip
    refine lv_iconst (v := 0) hx hb dX0_marginAt_21 (by decide) ?_
    refine lv_istore_n (lv' := [(3, .int 0), (0, .ref (a 16)), (1, .int t), (2, .int k)]) hx hb dX0_marginAt_22 rfl hl (by decide) rfl (fun ls hl => ?_)
    refine lv_iload_n hx hb dX0_marginAt_23 rfl (lv_at hl 0 rfl) ?_
    refine lv_if_eq (tgt := 38) hx hb dX0_marginAt_24 (by decide) (fun c_24 => ?_) (fun c_24 => (absurd (by decide) c_24 : False).elim)
    refine lv_aload_n hx hb dX0_marginAt_38 rfl (lv_at hl 1 rfl) ?_
    refine va_get (D := D) (ci := 0) (v := .ref (a 2)) (C := RX0) (T := TX0) (N := 16) hx hb hts hi hown hK hP 0 rfl rfl 2 (by decide) (hts (.fieldLink RX0 16 "AssignmentHouse" "highMargin" "[I") (by decide +kernel)) (fun _ h9 => h9) rfl dX0_marginAt_39 ?_
    refine lv_iload_n hx hb dX0_marginAt_42 rfl (lv_at hl 2 rfl) ?_
    refine Rd.callS (rest := []) ⟨hx, hb, hml, hown, hts⟩ (c_X0_at l D cA (a 2) 4 (F 2) (t) tn (et) (by omega) (by decide)) (va_cwS 2 hts gX0_marginAt_X0_at rfl rfl rfl (by decide +kernel) ⟨Nat.le_of_ble_eq_true rfl, Nat.le_of_ble_eq_true rfl⟩) hK (hP.sub [3] rfl) rfl rfl hl.1 (Nat.le_of_ble_eq_true rfl) dX0_marginAt_43 ⟨Nat.zero_le _, Nat.zero_le _⟩ ?_
    exact hend 46 ls _ dX0_marginAt_46 (by unfold sMg; rw [hcl]; first | (rw [if_pos (Int32.not_lt.mp c_14)]; done) | rw [if_neg (Int32.not_le.mpr c_14)])
  · skip
    refine lv_iconst (v := 1) hx hb dX0_marginAt_17 (by decide) ?_
    refine lv_goto (tgt := 22) hx hb dX0_marginAt_18 (by decide) ?_
    refine lv_istore_n (lv' := [(3, .int 1), (0, .ref (a 16)), (1, .int t), (2, .int k)]) hx hb dX0_marginAt_22 rfl hl (by decide) rfl (fun ls hl => ?_)
    refine lv_iload_n hx hb dX0_marginAt_23 rfl (lv_at hl 0 rfl) ?_
    refine lv_if_eq (tgt := 38) hx hb dX0_marginAt_24 (by decide) (fun c_24 => (absurd c_24 (by decide) : False).elim) (fun c_24 => ?_)
    refine lv_aload_n hx hb dX0_marginAt_27 rfl (lv_at hl 1 rfl) ?_
    refine va_get (D := D) (ci := 0) (v := .ref (a 3)) (C := RX0) (T := TX0) (N := 16) hx hb hts hi hown hK hP 0 rfl rfl 3 (by decide) (hts (.fieldLink RX0 19 "AssignmentHouse" "lowMargin" "[I") (by decide +kernel)) (fun _ h9 => h9) rfl dX0_marginAt_28 ?_
    refine lv_iload_n hx hb dX0_marginAt_31 rfl (lv_at hl 2 rfl) ?_
    refine Rd.callS (rest := []) ⟨hx, hb, hml, hown, hts⟩ (c_X0_at l D cA (a 3) 4 (F 3) (t) tn (et) (by omega) (by decide)) (va_cwS 2 hts gX0_marginAt_X0_at rfl rfl rfl (by decide +kernel) ⟨Nat.le_of_ble_eq_true rfl, Nat.le_of_ble_eq_true rfl⟩) hK (hP.sub [4] rfl) rfl rfl hl.1 (Nat.le_of_ble_eq_true rfl) dX0_marginAt_32 ⟨Nat.zero_le _, Nat.zero_le _⟩ ?_
    refine lv_goto (tgt := 46) hx hb dX0_marginAt_35 (by decide) ?_
    exact hend 46 ls _ dX0_marginAt_46 (by unfold sMg; rw [hcl]; first | (rw [if_pos (Int32.not_lt.mp c_14)]; done) | rw [if_neg (Int32.not_le.mpr c_14)])

set_option maxHeartbeats 4000000 in
set_option maxRecDepth 100000 in
theorem c_X0_put (l : Launch) (D : va_G) (cA : ClassId) (b : Nat) (n : Nat) (f : Nat → Int32) (x : Int32) (j : Nat) (ei : x = nI j) (hj : j < n) (hn : n ≤ 120) (v : Int32) : Wv l D cA (S := Unit) [(b, .inl (cA, n, .inl f))] (fun _ => [(b, .inl (cA, n, .inl (upd f j v)))]) yX0_put wsX0_put rmX0_put [.ref b, .int x, .int v] (fun _ => True) := by
  refine Wv.of (cc := cX0_put) (maxL := 3) (by decide) rfl (Nat.le_of_ble_eq_true rfl) ?_
  intro p e s m args below meth c ls A Q hx hb hts hown hml hK hP hD hA hS hl hend
  have hown : s.vm.findClass RX0 = some m.cls := hown
  have hl : lv_has ls 3 [(0, .ref b), (1, .int x), (2, .int v)] := hl
  refine lv_iload_n hx hb dX0_put_0 rfl (lv_at hl 1 rfl) ?_
  refine lv_if_lt (tgt := 14) hx hb dX0_put_1 (by decide) (fun c_1 => (absurd c_1 (by rw [ei]; exact nI_pos (by omega)) : False).elim) (fun c_1 => ?_)
  refine lv_iload_n hx hb dX0_put_4 rfl (lv_at hl 1 rfl) ?_
  refine lv_aload_n hx hb dX0_put_5 rfl (lv_at hl 0 rfl) ?_
  refine va_alen hx hb hK hP 0 0 rfl rfl (v := nI n) rfl dX0_put_6 ?_
  refine lv_icmp_ge (tgt := 14) hx hb dX0_put_7 (by decide) (fun c_7 => (absurd c_7 (by rw [ei, nI_leI (by omega) (by omega)]; omega) : False).elim) (fun c_7 => ?_)
  refine lv_aload_n hx hb dX0_put_10 rfl (lv_at hl 0 rfl) ?_
  refine lv_iload_n hx hb dX0_put_11 rfl (lv_at hl 1 rfl) ?_
  refine lv_iload_n hx hb dX0_put_12 rfl (lv_at hl 2 rfl) ?_
  refine ri_ast hx hb hK hP hD hS 0 rfl ei hj hn dX0_put_13 (fun H locs hP hD hS => ?_)
  exact hend 14 ls (()) _ _ dX0_put_14 hP hD hS (trivial)

section PUT
variable {p : Program} {l : Launch} {e : Env} {R : Room} {s : State} {m : MethodId} {args : Array Value} {below : List Frame} {meth : Method} {c : Code} {H : Heap} {locs : List Loc} {cells slots : Nat} {Q : State → Prop}
variable {cc : ByteArray} {pc nL index : Nat} {ls : Array Slot} {rest : List Value} {D : va_G} {cA : ClassId} {A0 : Nat → Prop} {H0 : Heap} {w : va_W} {Ts : List Cond} {b n j k : Nat} {f : Nat → Int32} {x v : Int32}
theorem put_call (S : CallFix p m c cc nL s args Ts RX0) (hg : GoodIn Ts (va_wsS RX0 index yX0_put wsX0_put)) (hK : KA D cA s) (hP : va_P D vwCl w H) (hD : va_D A0 w) (hS : va_S A0 H0 H locs) (hA : ∀ q : Nat, H0.size ≤ q → A0 q) (hk : w[k]? = some (b, .inl (cA, n, .inl f))) (ei : x = nI j) (hj : j < n) (hn : n ≤ 120) (hls : ls.size = nL) (hrm : (rest.map fun v => v.category).sum ≤ 8) (hdg : decode cc pc = .ok (.invokestatic index, 3)) (hf : cells ≤ R.cells ∧ slots ≤ R.slots) (hR : rmX0_put.frames + 1 ≤ R.frames ∧ 8 + (3 + 11) + rmX0_put.locals ≤ R.locals)
    (kk : ∀ (H1 : Heap) (locs1 : List Loc), va_P D vwCl (w.set k (b, .inl (cA, n, .inl (upd f j v)))) H1 → va_D A0 (w.set k (b, .inl (cA, n, .inl (upd f j v)))) → va_S A0 H0 H1 locs1 → W p l e R s m args below meth c H1 locs1 cells slots Q (F0 m (pc + 3) ls rest)) : W p l e R s m args below meth c H locs cells slots Q (F0 m pc ls (.int v :: .int x :: .ref b :: rest)) := by
  have hC : [k].map (fun i => w[i]?) = ([(b, .inl (cA, n, .inl f))] : va_W).map some := by simp [hk]
  have hF := va_free hD hS hA [k] hC
  have hpre := PreWr (As := [.ref b, .int x, .int v]) [k] hC rfl hK hP hD
  refine va_callv (va_runS (rest := rest) S (c_X0_put l D cA b n f x j ei hj hn v H.size) (va_cwS 3 S.2.2.2.2 hg rfl rfl rfl (by decide +kernel) hR) hpre rfl rfl hls rfl (lv_room hrm) hdg ⟨hf.1, hf.2⟩) hS (fun q _ h => hF q h) hF (fun u t H1 locs1 ht hvm hw hB hz1 hk1 hS1 => ?_)
  obtain ⟨hP1, hK1, hD1⟩ := hB
  rw [ht] at hP1
  refine kk H1 locs1 (P_upd hP hD hk (hP1 0 _ rfl) (fun q h1 h2 => hk1 q h1 (fun hA9 => ?_))) (hD.set hk) hS1
  rcases hA9 with ⟨k9, e9, h9⟩ | h9
  · rcases k9 with _ | k9
    · cases h9; exact h2 rfl
    · cases h9
  · omega
end PUT
set_option maxHeartbeats 4000000 in
set_option maxRecDepth 100000 in
theorem c_X0_fillAheadOnDay (l : Launch) (D : va_G) (cA : ClassId) (a : Nat → Nat) (F : Nat → Nat → Int32) (g : Nat → Int32) (N : Nat) (hW : wf F N) (x : Int32) (one : Nat) (ei : x = nI one) (ho : one < N) : Wv l D cA (S := Nat → Int32) (wX a cA F g) (fun g => wX a cA F g) yX0_fillAheadOnDay wsX0_fillAheadOnDay rmX0_fillAheadOnDay [.ref (a 16), .int x] (fun g => ∀ j, j < 7 → g j = ps (tAh F one j) N) := by
  subst ei
  refine Wv.of (cc := cX0_fillAheadOnDay) (maxL := 9) (by decide) rfl (Nat.le_of_ble_eq_true rfl) ?_
  intro p e s m args below meth c ls A Q hx hb hts hown hml hK hP hD hA hS hl hend
  have hown : s.vm.findClass RX0 = some m.cls := hown
  have hi : ∀ w ∈ wsX00, w ∈ wsX0_fillAheadOnDay := by decide +kernel
  have hl : lv_has ls 9 [(0, .ref (a 16)), (1, .int (nI one))] := hl
  have hN : N ≤ 80 := hW.n
  have hc : F 7 0 = nI N := hW.c
  have h7 : (7 : Int32) = nI 7 := rfl
  refine lv_aload_n hx hb dX0_fillAheadOnDay_0 rfl (lv_at hl 0 rfl) ?_
  refine va_get (D := D) (ci := 0) (v := .ref (a 8)) (C := RX0) (T := TX0) (N := 16) hx hb hts hi hown hK hP 0 rfl rfl 8 (by decide) (hts (.fieldLink RX0 35 "AssignmentHouse" "workerOf" "[I") (by decide +kernel)) (fun _ h9 => h9) rfl dX0_fillAheadOnDay_1 ?_
  refine lv_iload_n hx hb dX0_fillAheadOnDay_4 rfl (lv_at hl 1 rfl) ?_
  refine Rd.callS (rest := []) ⟨hx, hb, hml, hown, hts⟩ (c_X0_at l D cA (a 8) 80 (F 8) (nI one) one (rfl) (by omega) (by decide)) (va_cwS 2 hts gX0_fillAheadOnDay_X0_at rfl rfl rfl (by decide +kernel) ⟨Nat.le_of_ble_eq_true rfl, Nat.le_of_ble_eq_true rfl⟩) hK (hP.sub [6] rfl) rfl rfl hl.1 (Nat.le_of_ble_eq_true rfl) dX0_fillAheadOnDay_5 ⟨Nat.zero_le _, Nat.zero_le _⟩ ?_
  refine lv_istore_n (lv' := [(2, .int (F 8 one)), (0, .ref (a 16)), (1, .int (nI one))]) hx hb dX0_fillAheadOnDay_8 rfl hl (by decide) rfl (fun ls hl => ?_)
  refine lv_aload_n hx hb dX0_fillAheadOnDay_9 rfl (lv_at hl 1 rfl) ?_
  refine va_get (D := D) (ci := 0) (v := .ref (a 10)) (C := RX0) (T := TX0) (N := 16) hx hb hts hi hown hK hP 0 rfl rfl 10 (by decide) (hts (.fieldLink RX0 41 "AssignmentHouse" "dayOf" "[I") (by decide +kernel)) (fun _ h9 => h9) rfl dX0_fillAheadOnDay_10 ?_
  refine lv_iload_n hx hb dX0_fillAheadOnDay_13 rfl (lv_at hl 2 rfl) ?_
  refine Rd.callS (rest := []) ⟨hx, hb, hml, hown, hts⟩ (c_X0_at l D cA (a 10) 80 (F 10) (nI one) one (rfl) (by omega) (by decide)) (va_cwS 2 hts gX0_fillAheadOnDay_X0_at rfl rfl rfl (by decide +kernel) ⟨Nat.le_of_ble_eq_true rfl, Nat.le_of_ble_eq_true rfl⟩) hK (hP.sub [8] rfl) rfl rfl hl.1 (Nat.le_of_ble_eq_true rfl) dX0_fillAheadOnDay_14 ⟨Nat.zero_le _, Nat.zero_le _⟩ ?_
  refine lv_istore_n (lv' := [(3, .int (F 10 one)), (2, .int (F 8 one)), (0, .ref (a 16)), (1, .int (nI one))]) hx hb dX0_fillAheadOnDay_17 rfl hl (by decide) rfl (fun ls hl => ?_)
  refine lv_iload_n hx hb dX0_fillAheadOnDay_18 rfl (lv_at hl 0 rfl) ?_
  refine Rd.callS (rest := []) ⟨hx, hb, hml, hown, hts⟩ (c_X0_weekOf l D cA (F 10 one)) (va_cwS 1 hts gX0_fillAheadOnDay_X0_weekOf rfl rfl rfl (by decide +kernel) ⟨Nat.le_of_ble_eq_true rfl, Nat.le_of_ble_eq_true rfl⟩) hK noP rfl rfl hl.1 (Nat.le_of_ble_eq_true rfl) dX0_fillAheadOnDay_19 ⟨Nat.zero_le _, Nat.zero_le _⟩ ?_
  refine lv_istore (lv' := [(4, .int ((F 10 one) / 7)), (3, .int (F 10 one)), (2, .int (F 8 one)), (0, .ref (a 16)), (1, .int (nI one))]) hx hb dX0_fillAheadOnDay_22 hl (by decide) rfl (fun ls hl => ?_)
  refine lv_iconst (v := 0) hx hb dX0_fillAheadOnDay_24 (by decide) ?_
  refine lv_istore (lv' := [(5, .int 0), (4, .int ((F 10 one) / 7)), (3, .int (F 10 one)), (2, .int (F 8 one)), (0, .ref (a 16)), (1, .int (nI one))]) hx hb dX0_fillAheadOnDay_25 hl (by decide) rfl (fun ls hl => ?_)
  have K_27 : ∀ (n i : Nat) (g : Nat → Int32) (H : Heap) (locs : List Loc) (ls : Array Slot), i + n = 7 → (∀ j, j < i → g j = 0) → va_P D vwCl (wX a cA F g) H → va_D A (wX a cA F g) → va_S A s.heap H locs → lv_has ls 9 [(0, .ref (a 16)), (1, .int (nI one)), (2, .int (F 8 one)), (3, .int (F 10 one)), (4, .int ((F 10 one) / 7)), (5, .int (nI i))] → W p l e rmX0_fillAheadOnDay s m args below meth c H locs 0 0 Q (F0 m 27 ls []) := by
    intro n
    induction n with
    | zero =>
      intro i  g H locs ls hin_27  inv_g hP hD hS hl
      have hiN : i = 7 := by omega
      refine lv_iload hx hb dX0_fillAheadOnDay_27 (lv_at hl 5 rfl) ?_
      refine lv_bipush (v := 7) hx hb dX0_fillAheadOnDay_29 (by decide) ?_
      refine lv_icmp_ge (tgt := 50) hx hb dX0_fillAheadOnDay_31 (by decide) (fun c_31 => ?_) (fun c_31 => (absurd (((br_ge h7 (by omega) (by omega : i ≤ 7)).mpr hiN)) c_31 : False).elim)
      refine lv_iconst (v := 0) hx hb dX0_fillAheadOnDay_50 (by decide) ?_
      refine lv_istore (lv' := [(5, .int 0), (0, .ref (a 16)), (1, .int (nI one)), (2, .int (F 8 one)), (3, .int (F 10 one)), (4, .int ((F 10 one) / 7))]) hx hb dX0_fillAheadOnDay_51 hl (by decide) rfl (fun ls hl => ?_)
      have K_53 : ∀ (n i : Nat) (g : Nat → Int32) (H : Heap) (locs : List Loc) (ls : Array Slot), i + n = N → (∀ j, j < 7 → g j = ps (tAh F one j) i) → va_P D vwCl (wX a cA F g) H → va_D A (wX a cA F g) → va_S A s.heap H locs → lv_has ls 9 [(0, .ref (a 16)), (1, .int (nI one)), (2, .int (F 8 one)), (3, .int (F 10 one)), (4, .int ((F 10 one) / 7)), (5, .int (nI i))] → W p l e rmX0_fillAheadOnDay s m args below meth c H locs 0 0 Q (F0 m 53 ls []) := by
        intro n
        induction n with
        | zero =>
          intro i  g H locs ls hin_53  inv_g hP hD hS hl
          have hiN : i = N := by omega
          refine lv_iload hx hb dX0_fillAheadOnDay_53 (lv_at hl 5 rfl) ?_
          refine lv_aload_n hx hb dX0_fillAheadOnDay_55 rfl (lv_at hl 0 rfl) ?_
          refine va_get (D := D) (ci := 0) (v := .int (F 7 0)) (C := RX0) (T := TX0) (N := 16) hx hb hts hi hown hK hP 0 rfl rfl 7 (by decide) (hts (.fieldLink RX0 32 "AssignmentHouse" "shiftCount" "I") (by decide +kernel)) (fun _ h9 => h9) rfl dX0_fillAheadOnDay_56 ?_
          refine lv_icmp_ge (tgt := 156) hx hb dX0_fillAheadOnDay_59 (by decide) (fun c_59 => ?_) (fun c_59 => (absurd (((br_ge hc (by omega) (by omega : i ≤ N)).mpr hiN)) c_59 : False).elim)
          exact hend 156 ls (g) _ _ dX0_fillAheadOnDay_156 hP hD hS (fun j h => by rw [inv_g j h, hiN])
        | succ n ih_53 =>
          intro i  g H locs ls hin_53  inv_g hP hD hS hl
          have hiN : i < N := by omega
          have hr7 := rem7 hW hiN
          refine lv_iload hx hb dX0_fillAheadOnDay_53 (lv_at hl 5 rfl) ?_
          refine lv_aload_n hx hb dX0_fillAheadOnDay_55 rfl (lv_at hl 0 rfl) ?_
          refine va_get (D := D) (ci := 0) (v := .int (F 7 0)) (C := RX0) (T := TX0) (N := 16) hx hb hts hi hown hK hP 0 rfl rfl 7 (by decide) (hts (.fieldLink RX0 32 "AssignmentHouse" "shiftCount" "I") (by decide +kernel)) (fun _ h9 => h9) rfl dX0_fillAheadOnDay_56 ?_
          refine lv_icmp_ge (tgt := 156) hx hb dX0_fillAheadOnDay_59 (by decide) (fun c_59 => (absurd (((br_ge hc (by omega) (by omega : i ≤ N)).mp c_59)) (by omega) : False).elim) (fun c_59 => ?_)
          refine lv_aload_n hx hb dX0_fillAheadOnDay_62 rfl (lv_at hl 0 rfl) ?_
          refine va_get (D := D) (ci := 0) (v := .ref (a 10)) (C := RX0) (T := TX0) (N := 16) hx hb hts hi hown hK hP 0 rfl rfl 10 (by decide) (hts (.fieldLink RX0 41 "AssignmentHouse" "dayOf" "[I") (by decide +kernel)) (fun _ h9 => h9) rfl dX0_fillAheadOnDay_63 ?_
          refine lv_iload hx hb dX0_fillAheadOnDay_66 (lv_at hl 5 rfl) ?_
          refine Rd.callS (rest := []) ⟨hx, hb, hml, hown, hts⟩ (c_X0_at l D cA (a 10) 80 (F 10) (nI i) i (rfl) (by omega) (by decide)) (va_cwS 2 hts gX0_fillAheadOnDay_X0_at rfl rfl rfl (by decide +kernel) ⟨Nat.le_of_ble_eq_true rfl, Nat.le_of_ble_eq_true rfl⟩) hK (hP.sub [8] rfl) rfl rfl hl.1 (Nat.le_of_ble_eq_true rfl) dX0_fillAheadOnDay_68 ⟨Nat.zero_le _, Nat.zero_le _⟩ ?_
          refine lv_istore (lv' := [(6, .int (F 10 i)), (0, .ref (a 16)), (1, .int (nI one)), (2, .int (F 8 one)), (3, .int (F 10 one)), (4, .int ((F 10 one) / 7)), (5, .int (nI i))]) hx hb dX0_fillAheadOnDay_71 hl (by decide) rfl (fun ls hl => ?_)
          refine lv_iload hx hb dX0_fillAheadOnDay_73 (lv_at hl 0 rfl) ?_
          refine lv_iload_n hx hb dX0_fillAheadOnDay_75 rfl (lv_at hl 4 rfl) ?_
          refine lv_icmp_lt (tgt := 91) hx hb dX0_fillAheadOnDay_76 (by decide) (fun c_76 => ?_) (fun c_76 => ?_)
          · skip
            refine lv_iconst (v := 1) hx hb dX0_fillAheadOnDay_91 (by decide) ?_
            refine lv_goto (tgt := 96) hx hb dX0_fillAheadOnDay_92 (by decide) ?_
            refine lv_istore (lv' := [(7, .int 1), (6, .int (F 10 i)), (0, .ref (a 16)), (1, .int (nI one)), (2, .int (F 8 one)), (3, .int (F 10 one)), (4, .int ((F 10 one) / 7)), (5, .int (nI i))]) hx hb dX0_fillAheadOnDay_96 hl (by decide) rfl (fun ls hl => ?_)
            refine lv_iload hx hb dX0_fillAheadOnDay_98 (lv_at hl 0 rfl) ?_
            refine lv_if_eq (tgt := 150) hx hb dX0_fillAheadOnDay_100 (by decide) (fun c_100 => (absurd c_100 (by decide) : False).elim) (fun c_100 => ?_)
            refine lv_aload_n hx hb dX0_fillAheadOnDay_103 rfl (lv_at hl 2 rfl) ?_
            refine lv_iload hx hb dX0_fillAheadOnDay_104 (lv_at hl 7 rfl) ?_
            refine lv_iload_n hx hb dX0_fillAheadOnDay_106 rfl (lv_at hl 4 rfl) ?_
            refine lv_iload hx hb dX0_fillAheadOnDay_107 (lv_at hl 6 rfl) ?_
            refine Rd.callV (rest := []) (q0 := 0) (ci := 0) ⟨hx, hb, hml, hown, hts⟩ (c_X0_isOfWorker l D cA a F g (nI i) i rfl (by omega) (F 8 one) ((F 10 one) / 7)) (cwV 3 hts gX0_fillAheadOnDay_X0_isOfWorker rfl rfl rfl (by decide +kernel) ⟨Nat.le_of_ble_eq_true rfl, Nat.le_of_ble_eq_true rfl⟩) hK hP rfl rfl rfl rfl rfl hl.1 (Nat.le_of_ble_eq_true rfl) dX0_fillAheadOnDay_109 ⟨Nat.zero_le _, Nat.zero_le _⟩ ?_
            refine lv_if_eq (tgt := 150) hx hb dX0_fillAheadOnDay_112 (by decide) (fun c_112 => ?_) (fun c_112 => ?_)
            · skip
              have hq : ¬ (F 8 i = F 8 one ∧ F 10 i / 7 = F 10 one / 7) := fun h => absurd c_112 (by rw [if_pos h]; decide)
              refine lv_iinc (v := (nI (i + 1))) (lv' := [(5, .int (nI (i + 1))), (7, .int 1), (6, .int (F 10 i)), (0, .ref (a 16)), (1, .int (nI one)), (2, .int (F 8 one)), (3, .int (F 10 one)), (4, .int ((F 10 one) / 7))]) hx hb dX0_fillAheadOnDay_150 hl (k := 7) rfl (nI_1 i) (by decide) rfl (fun ls hl => ?_)
              refine lv_goto (tgt := 53) hx hb dX0_fillAheadOnDay_153 (by decide) ?_
              exact ih_53 (i + 1)  g _ _ ls (by omega)  (ah_skip inv_g (fun j h9 => hq h9.2.1)) hP hD hS (lv_sub hl [3, 4, 5, 6, 7, 0] rfl)
            · skip
              have hq : (F 8 i = F 8 one ∧ F 10 i / 7 = F 10 one / 7) := Classical.byContradiction (fun h => c_112 (if_neg h))
              refine lv_iload hx hb dX0_fillAheadOnDay_115 (lv_at hl 1 rfl) ?_
              refine lv_bipush (v := 7) hx hb dX0_fillAheadOnDay_117 (by decide) ?_
              refine lv_irem hx hb dX0_fillAheadOnDay_119 (by decide) ?_
              refine lv_istore (lv' := [(8, .int ((F 10 i) - (F 10 i) / 7 * 7)), (7, .int 1), (6, .int (F 10 i)), (0, .ref (a 16)), (1, .int (nI one)), (2, .int (F 8 one)), (3, .int (F 10 one)), (4, .int ((F 10 one) / 7)), (5, .int (nI i))]) hx hb dX0_fillAheadOnDay_120 hl (by decide) rfl (fun ls hl => ?_)
              refine lv_aload_n hx hb dX0_fillAheadOnDay_122 rfl (lv_at hl 3 rfl) ?_
              refine va_get (D := D) (ci := 0) (v := .ref (a 15)) (C := RX0) (T := TX0) (N := 16) hx hb hts hi hown hK hP 0 rfl rfl 15 (by decide) (hts (.fieldLink RX0 56 "AssignmentHouse" "aheadOnDay" "[I") (by decide +kernel)) (fun _ h9 => h9) rfl dX0_fillAheadOnDay_123 ?_
              refine lv_iload hx hb dX0_fillAheadOnDay_126 (lv_at hl 0 rfl) ?_
              refine lv_aload_n hx hb dX0_fillAheadOnDay_128 rfl (lv_at hl 3 rfl) ?_
              refine va_get (D := D) (ci := 0) (v := .ref (a 15)) (C := RX0) (T := TX0) (N := 16) hx hb hts hi hown hK hP 0 rfl rfl 15 (by decide) (hts (.fieldLink RX0 56 "AssignmentHouse" "aheadOnDay" "[I") (by decide +kernel)) (fun _ h9 => h9) rfl dX0_fillAheadOnDay_129 ?_
              refine lv_iload hx hb dX0_fillAheadOnDay_132 (lv_at hl 0 rfl) ?_
              refine Rd.callS (rest := [.int ((F 10 i) - (F 10 i) / 7 * 7), .ref (a 15)]) ⟨hx, hb, hml, hown, hts⟩ (c_X0_at l D cA (a 15) 7 g ((F 10 i) - (F 10 i) / 7 * 7) (dayN F i % 7) (hr7) (by omega) (by decide)) (va_cwS 2 hts gX0_fillAheadOnDay_X0_at rfl rfl rfl (by decide +kernel) ⟨Nat.le_of_ble_eq_true rfl, Nat.le_of_ble_eq_true rfl⟩) hK (hP.sub [13] rfl) rfl rfl hl.1 (Nat.le_of_ble_eq_true rfl) dX0_fillAheadOnDay_134 ⟨Nat.zero_le _, Nat.zero_le _⟩ ?_
              refine lv_aload_n hx hb dX0_fillAheadOnDay_137 rfl (lv_at hl 3 rfl) ?_
              refine va_get (D := D) (ci := 0) (v := .ref (a 11)) (C := RX0) (T := TX0) (N := 16) hx hb hts hi hown hK hP 0 rfl rfl 11 (by decide) (hts (.fieldLink RX0 44 "AssignmentHouse" "hoursOf" "[I") (by decide +kernel)) (fun _ h9 => h9) rfl dX0_fillAheadOnDay_138 ?_
              refine lv_iload hx hb dX0_fillAheadOnDay_141 (lv_at hl 8 rfl) ?_
              refine Rd.callS (rest := [.int (g (dayN F i % 7)), .int ((F 10 i) - (F 10 i) / 7 * 7), .ref (a 15)]) ⟨hx, hb, hml, hown, hts⟩ (c_X0_at l D cA (a 11) 80 (F 11) (nI i) i (rfl) (by omega) (by decide)) (va_cwS 2 hts gX0_fillAheadOnDay_X0_at rfl rfl rfl (by decide +kernel) ⟨Nat.le_of_ble_eq_true rfl, Nat.le_of_ble_eq_true rfl⟩) hK (hP.sub [9] rfl) rfl rfl hl.1 (Nat.le_of_ble_eq_true rfl) dX0_fillAheadOnDay_143 ⟨Nat.zero_le _, Nat.zero_le _⟩ ?_
              refine lv_iadd hx hb dX0_fillAheadOnDay_146 ?_
              refine put_call (k := 13) (b := a 15) (n := 7) (f := g) (x := ((F 10 i) - (F 10 i) / 7 * 7)) (j := (dayN F i % 7)) (v := ((g (dayN F i % 7)) + (F 11 i))) (rest := []) ⟨hx, hb, hml, hown, hts⟩ gX0_fillAheadOnDay_X0_put hK hP hD hS hA rfl (hr7) (by omega) (by decide) hl.1 (Nat.le_of_ble_eq_true rfl) dX0_fillAheadOnDay_147 ⟨Nat.zero_le _, Nat.zero_le _⟩ ⟨Nat.le_of_ble_eq_true rfl, Nat.le_of_ble_eq_true rfl⟩ (fun H locs hP hD hS => ?_)
              have hP : va_P D vwCl (wX a cA F (upd g (dayN F i % 7) ((g (dayN F i % 7)) + (F 11 i)))) H := hP
              have hD : va_D A (wX a cA F (upd g (dayN F i % 7) ((g (dayN F i % 7)) + (F 11 i)))) := hD
              refine lv_iinc (v := (nI (i + 1))) (lv' := [(5, .int (nI (i + 1))), (8, .int ((F 10 i) - (F 10 i) / 7 * 7)), (7, .int 1), (6, .int (F 10 i)), (0, .ref (a 16)), (1, .int (nI one)), (2, .int (F 8 one)), (3, .int (F 10 one)), (4, .int ((F 10 one) / 7))]) hx hb dX0_fillAheadOnDay_150 hl (k := 8) rfl (nI_1 i) (by decide) rfl (fun ls hl => ?_)
              refine lv_goto (tgt := 53) hx hb dX0_fillAheadOnDay_153 (by decide) ?_
              exact ih_53 (i + 1)  (upd g (dayN F i % 7) ((g (dayN F i % 7)) + (F 11 i))) _ _ ls (by omega)  (ah_upd inv_g (Or.inl c_76) hq) hP hD hS (lv_sub hl [4, 5, 6, 7, 8, 0] rfl)
          · skip
            refine lv_iload hx hb dX0_fillAheadOnDay_79 (lv_at hl 0 rfl) ?_
            refine lv_iload_n hx hb dX0_fillAheadOnDay_81 rfl (lv_at hl 4 rfl) ?_
            refine lv_icmp_ne (tgt := 95) hx hb dX0_fillAheadOnDay_82 (by decide) (fun c_82 => ?_) (fun c_82 => ?_)
            · skip
              refine lv_iconst (v := 0) hx hb dX0_fillAheadOnDay_95 (by decide) ?_
              refine lv_istore (lv' := [(7, .int 0), (6, .int (F 10 i)), (0, .ref (a 16)), (1, .int (nI one)), (2, .int (F 8 one)), (3, .int (F 10 one)), (4, .int ((F 10 one) / 7)), (5, .int (nI i))]) hx hb dX0_fillAheadOnDay_96 hl (by decide) rfl (fun ls hl => ?_)
              refine lv_iload hx hb dX0_fillAheadOnDay_98 (lv_at hl 0 rfl) ?_
              refine lv_if_eq (tgt := 150) hx hb dX0_fillAheadOnDay_100 (by decide) (fun c_100 => ?_) (fun c_100 => (absurd (by decide) c_100 : False).elim)
              refine lv_iinc (v := (nI (i + 1))) (lv' := [(5, .int (nI (i + 1))), (7, .int 0), (6, .int (F 10 i)), (0, .ref (a 16)), (1, .int (nI one)), (2, .int (F 8 one)), (3, .int (F 10 one)), (4, .int ((F 10 one) / 7))]) hx hb dX0_fillAheadOnDay_150 hl (k := 7) rfl (nI_1 i) (by decide) rfl (fun ls hl => ?_)
              refine lv_goto (tgt := 53) hx hb dX0_fillAheadOnDay_153 (by decide) ?_
              exact ih_53 (i + 1)  g _ _ ls (by omega)  (ah_skip inv_g (fun j h9 => h9.1.elim c_76 (fun z => c_82 z.1))) hP hD hS (lv_sub hl [3, 4, 5, 6, 7, 0] rfl)
            · skip
              refine lv_iload hx hb dX0_fillAheadOnDay_85 (lv_at hl 6 rfl) ?_
              refine lv_iload_n hx hb dX0_fillAheadOnDay_87 rfl (lv_at hl 2 rfl) ?_
              refine lv_icmp_ge (tgt := 95) hx hb dX0_fillAheadOnDay_88 (by decide) (fun c_88 => ?_) (fun c_88 => ?_)
              · skip
                refine lv_iconst (v := 0) hx hb dX0_fillAheadOnDay_95 (by decide) ?_
                refine lv_istore (lv' := [(7, .int 0), (6, .int (F 10 i)), (0, .ref (a 16)), (1, .int (nI one)), (2, .int (F 8 one)), (3, .int (F 10 one)), (4, .int ((F 10 one) / 7)), (5, .int (nI i))]) hx hb dX0_fillAheadOnDay_96 hl (by decide) rfl (fun ls hl => ?_)
                refine lv_iload hx hb dX0_fillAheadOnDay_98 (lv_at hl 0 rfl) ?_
                refine lv_if_eq (tgt := 150) hx hb dX0_fillAheadOnDay_100 (by decide) (fun c_100 => ?_) (fun c_100 => (absurd (by decide) c_100 : False).elim)
                refine lv_iinc (v := (nI (i + 1))) (lv' := [(5, .int (nI (i + 1))), (7, .int 0), (6, .int (F 10 i)), (0, .ref (a 16)), (1, .int (nI one)), (2, .int (F 8 one)), (3, .int (F 10 one)), (4, .int ((F 10 one) / 7))]) hx hb dX0_fillAheadOnDay_150 hl (k := 7) rfl (nI_1 i) (by decide) rfl (fun ls hl => ?_)
                refine lv_goto (tgt := 53) hx hb dX0_fillAheadOnDay_153 (by decide) ?_
                exact ih_53 (i + 1)  g _ _ ls (by omega)  (ah_skip inv_g (fun j h9 => h9.1.elim c_76 (fun z => absurd z.2 (Int32.not_lt.mpr c_88)))) hP hD hS (lv_sub hl [3, 4, 5, 6, 7, 0] rfl)
              · skip
                refine lv_iconst (v := 1) hx hb dX0_fillAheadOnDay_91 (by decide) ?_
                refine lv_goto (tgt := 96) hx hb dX0_fillAheadOnDay_92 (by decide) ?_
                refine lv_istore (lv' := [(7, .int 1), (6, .int (F 10 i)), (0, .ref (a 16)), (1, .int (nI one)), (2, .int (F 8 one)), (3, .int (F 10 one)), (4, .int ((F 10 one) / 7)), (5, .int (nI i))]) hx hb dX0_fillAheadOnDay_96 hl (by decide) rfl (fun ls hl => ?_)
                refine lv_iload hx hb dX0_fillAheadOnDay_98 (lv_at hl 0 rfl) ?_
                refine lv_if_eq (tgt := 150) hx hb dX0_fillAheadOnDay_100 (by decide) (fun c_100 => (absurd c_100 (by decide) : False).elim) (fun c_100 => ?_)
                refine lv_aload_n hx hb dX0_fillAheadOnDay_103 rfl (lv_at hl 2 rfl) ?_
                refine lv_iload hx hb dX0_fillAheadOnDay_104 (lv_at hl 7 rfl) ?_
                refine lv_iload_n hx hb dX0_fillAheadOnDay_106 rfl (lv_at hl 4 rfl) ?_
                refine lv_iload hx hb dX0_fillAheadOnDay_107 (lv_at hl 6 rfl) ?_
                refine Rd.callV (rest := []) (q0 := 0) (ci := 0) ⟨hx, hb, hml, hown, hts⟩ (c_X0_isOfWorker l D cA a F g (nI i) i rfl (by omega) (F 8 one) ((F 10 one) / 7)) (cwV 3 hts gX0_fillAheadOnDay_X0_isOfWorker rfl rfl rfl (by decide +kernel) ⟨Nat.le_of_ble_eq_true rfl, Nat.le_of_ble_eq_true rfl⟩) hK hP rfl rfl rfl rfl rfl hl.1 (Nat.le_of_ble_eq_true rfl) dX0_fillAheadOnDay_109 ⟨Nat.zero_le _, Nat.zero_le _⟩ ?_
                refine lv_if_eq (tgt := 150) hx hb dX0_fillAheadOnDay_112 (by decide) (fun c_112 => ?_) (fun c_112 => ?_)
                · skip
                  have hq : ¬ (F 8 i = F 8 one ∧ F 10 i / 7 = F 10 one / 7) := fun h => absurd c_112 (by rw [if_pos h]; decide)
                  refine lv_iinc (v := (nI (i + 1))) (lv' := [(5, .int (nI (i + 1))), (7, .int 1), (6, .int (F 10 i)), (0, .ref (a 16)), (1, .int (nI one)), (2, .int (F 8 one)), (3, .int (F 10 one)), (4, .int ((F 10 one) / 7))]) hx hb dX0_fillAheadOnDay_150 hl (k := 7) rfl (nI_1 i) (by decide) rfl (fun ls hl => ?_)
                  refine lv_goto (tgt := 53) hx hb dX0_fillAheadOnDay_153 (by decide) ?_
                  exact ih_53 (i + 1)  g _ _ ls (by omega)  (ah_skip inv_g (fun j h9 => hq h9.2.1)) hP hD hS (lv_sub hl [3, 4, 5, 6, 7, 0] rfl)
                · skip
                  have hq : (F 8 i = F 8 one ∧ F 10 i / 7 = F 10 one / 7) := Classical.byContradiction (fun h => c_112 (if_neg h))
                  refine lv_iload hx hb dX0_fillAheadOnDay_115 (lv_at hl 1 rfl) ?_
                  refine lv_bipush (v := 7) hx hb dX0_fillAheadOnDay_117 (by decide) ?_
                  refine lv_irem hx hb dX0_fillAheadOnDay_119 (by decide) ?_
                  refine lv_istore (lv' := [(8, .int ((F 10 i) - (F 10 i) / 7 * 7)), (7, .int 1), (6, .int (F 10 i)), (0, .ref (a 16)), (1, .int (nI one)), (2, .int (F 8 one)), (3, .int (F 10 one)), (4, .int ((F 10 one) / 7)), (5, .int (nI i))]) hx hb dX0_fillAheadOnDay_120 hl (by decide) rfl (fun ls hl => ?_)
                  refine lv_aload_n hx hb dX0_fillAheadOnDay_122 rfl (lv_at hl 3 rfl) ?_
                  refine va_get (D := D) (ci := 0) (v := .ref (a 15)) (C := RX0) (T := TX0) (N := 16) hx hb hts hi hown hK hP 0 rfl rfl 15 (by decide) (hts (.fieldLink RX0 56 "AssignmentHouse" "aheadOnDay" "[I") (by decide +kernel)) (fun _ h9 => h9) rfl dX0_fillAheadOnDay_123 ?_
                  refine lv_iload hx hb dX0_fillAheadOnDay_126 (lv_at hl 0 rfl) ?_
                  refine lv_aload_n hx hb dX0_fillAheadOnDay_128 rfl (lv_at hl 3 rfl) ?_
                  refine va_get (D := D) (ci := 0) (v := .ref (a 15)) (C := RX0) (T := TX0) (N := 16) hx hb hts hi hown hK hP 0 rfl rfl 15 (by decide) (hts (.fieldLink RX0 56 "AssignmentHouse" "aheadOnDay" "[I") (by decide +kernel)) (fun _ h9 => h9) rfl dX0_fillAheadOnDay_129 ?_
                  refine lv_iload hx hb dX0_fillAheadOnDay_132 (lv_at hl 0 rfl) ?_
                  refine Rd.callS (rest := [.int ((F 10 i) - (F 10 i) / 7 * 7), .ref (a 15)]) ⟨hx, hb, hml, hown, hts⟩ (c_X0_at l D cA (a 15) 7 g ((F 10 i) - (F 10 i) / 7 * 7) (dayN F i % 7) (hr7) (by omega) (by decide)) (va_cwS 2 hts gX0_fillAheadOnDay_X0_at rfl rfl rfl (by decide +kernel) ⟨Nat.le_of_ble_eq_true rfl, Nat.le_of_ble_eq_true rfl⟩) hK (hP.sub [13] rfl) rfl rfl hl.1 (Nat.le_of_ble_eq_true rfl) dX0_fillAheadOnDay_134 ⟨Nat.zero_le _, Nat.zero_le _⟩ ?_
                  refine lv_aload_n hx hb dX0_fillAheadOnDay_137 rfl (lv_at hl 3 rfl) ?_
                  refine va_get (D := D) (ci := 0) (v := .ref (a 11)) (C := RX0) (T := TX0) (N := 16) hx hb hts hi hown hK hP 0 rfl rfl 11 (by decide) (hts (.fieldLink RX0 44 "AssignmentHouse" "hoursOf" "[I") (by decide +kernel)) (fun _ h9 => h9) rfl dX0_fillAheadOnDay_138 ?_
                  refine lv_iload hx hb dX0_fillAheadOnDay_141 (lv_at hl 8 rfl) ?_
                  refine Rd.callS (rest := [.int (g (dayN F i % 7)), .int ((F 10 i) - (F 10 i) / 7 * 7), .ref (a 15)]) ⟨hx, hb, hml, hown, hts⟩ (c_X0_at l D cA (a 11) 80 (F 11) (nI i) i (rfl) (by omega) (by decide)) (va_cwS 2 hts gX0_fillAheadOnDay_X0_at rfl rfl rfl (by decide +kernel) ⟨Nat.le_of_ble_eq_true rfl, Nat.le_of_ble_eq_true rfl⟩) hK (hP.sub [9] rfl) rfl rfl hl.1 (Nat.le_of_ble_eq_true rfl) dX0_fillAheadOnDay_143 ⟨Nat.zero_le _, Nat.zero_le _⟩ ?_
                  refine lv_iadd hx hb dX0_fillAheadOnDay_146 ?_
                  refine put_call (k := 13) (b := a 15) (n := 7) (f := g) (x := ((F 10 i) - (F 10 i) / 7 * 7)) (j := (dayN F i % 7)) (v := ((g (dayN F i % 7)) + (F 11 i))) (rest := []) ⟨hx, hb, hml, hown, hts⟩ gX0_fillAheadOnDay_X0_put hK hP hD hS hA rfl (hr7) (by omega) (by decide) hl.1 (Nat.le_of_ble_eq_true rfl) dX0_fillAheadOnDay_147 ⟨Nat.zero_le _, Nat.zero_le _⟩ ⟨Nat.le_of_ble_eq_true rfl, Nat.le_of_ble_eq_true rfl⟩ (fun H locs hP hD hS => ?_)
                  have hP : va_P D vwCl (wX a cA F (upd g (dayN F i % 7) ((g (dayN F i % 7)) + (F 11 i)))) H := hP
                  have hD : va_D A (wX a cA F (upd g (dayN F i % 7) ((g (dayN F i % 7)) + (F 11 i)))) := hD
                  refine lv_iinc (v := (nI (i + 1))) (lv' := [(5, .int (nI (i + 1))), (8, .int ((F 10 i) - (F 10 i) / 7 * 7)), (7, .int 1), (6, .int (F 10 i)), (0, .ref (a 16)), (1, .int (nI one)), (2, .int (F 8 one)), (3, .int (F 10 one)), (4, .int ((F 10 one) / 7))]) hx hb dX0_fillAheadOnDay_150 hl (k := 8) rfl (nI_1 i) (by decide) rfl (fun ls hl => ?_)
                  refine lv_goto (tgt := 53) hx hb dX0_fillAheadOnDay_153 (by decide) ?_
                  exact ih_53 (i + 1)  (upd g (dayN F i % 7) ((g (dayN F i % 7)) + (F 11 i))) _ _ ls (by omega)  (ah_upd inv_g (Or.inr ⟨c_82, Int32.not_le.mp c_88⟩) hq) hP hD hS (lv_sub hl [4, 5, 6, 7, 8, 0] rfl)
      exact K_53 N 0  g _ _ ls (by omega)  (fun j h => inv_g j (by omega)) hP hD hS (lv_sub hl [1, 2, 3, 4, 5, 0] rfl)
    | succ n ih_27 =>
      intro i  g H locs ls hin_27  inv_g hP hD hS hl
      have hiN : i < 7 := by omega
      refine lv_iload hx hb dX0_fillAheadOnDay_27 (lv_at hl 5 rfl) ?_
      refine lv_bipush (v := 7) hx hb dX0_fillAheadOnDay_29 (by decide) ?_
      refine lv_icmp_ge (tgt := 50) hx hb dX0_fillAheadOnDay_31 (by decide) (fun c_31 => (absurd (((br_ge h7 (by omega) (by omega : i ≤ 7)).mp c_31)) (by omega) : False).elim) (fun c_31 => ?_)
      refine lv_aload_n hx hb dX0_fillAheadOnDay_34 rfl (lv_at hl 0 rfl) ?_
      refine va_get (D := D) (ci := 0) (v := .ref (a 15)) (C := RX0) (T := TX0) (N := 16) hx hb hts hi hown hK hP 0 rfl rfl 15 (by decide) (hts (.fieldLink RX0 56 "AssignmentHouse" "aheadOnDay" "[I") (by decide +kernel)) (fun _ h9 => h9) rfl dX0_fillAheadOnDay_35 ?_
      refine lv_iload hx hb dX0_fillAheadOnDay_38 (lv_at hl 5 rfl) ?_
      refine lv_iconst (v := 0) hx hb dX0_fillAheadOnDay_40 (by decide) ?_
      refine put_call (k := 13) (b := a 15) (n := 7) (f := g) (x := (nI i)) (j := i) (v := 0) (rest := []) ⟨hx, hb, hml, hown, hts⟩ gX0_fillAheadOnDay_X0_put hK hP hD hS hA rfl (rfl) (by omega) (by decide) hl.1 (Nat.le_of_ble_eq_true rfl) dX0_fillAheadOnDay_41 ⟨Nat.zero_le _, Nat.zero_le _⟩ ⟨Nat.le_of_ble_eq_true rfl, Nat.le_of_ble_eq_true rfl⟩ (fun H locs hP hD hS => ?_)
      have hP : va_P D vwCl (wX a cA F (upd g i 0)) H := hP
      have hD : va_D A (wX a cA F (upd g i 0)) := hD
      refine lv_iinc (v := (nI (i + 1))) (lv' := [(5, .int (nI (i + 1))), (0, .ref (a 16)), (1, .int (nI one)), (2, .int (F 8 one)), (3, .int (F 10 one)), (4, .int ((F 10 one) / 7))]) hx hb dX0_fillAheadOnDay_44 hl (k := 5) rfl (nI_1 i) (by decide) rfl (fun ls hl => ?_)
      refine lv_goto (tgt := 27) hx hb dX0_fillAheadOnDay_47 (by decide) ?_
      exact ih_27 (i + 1)  (upd g i 0) _ _ ls (by omega)  (z_upd inv_g) hP hD hS (lv_sub hl [1, 2, 3, 4, 5, 0] rfl)
  exact K_27 7 0  g _ _ ls (by omega)  (fun j h => absurd h (by omega)) hP hD hS (lv_sub hl [4, 5, 3, 2, 1, 0] rfl)
end
section
/-! the class: overtime, pay, charges; by program (wip/whole/gen) -/
set_option maxHeartbeats 4000000 in
set_option maxRecDepth 100000 in
theorem c_X0_overtimeHours (l : Launch) (D : va_G) (cA : ClassId) (a : Nat → Nat) (F : Nat → Nat → Int32) (g : Nat → Int32) (N : Nat) (hW : wf F N) (x : Int32) (one : Nat) (ei : x = nI one) (ho : one < N) : Wi l D cA (S := Nat → Int32) (wX a cA F g) (fun g => wX a cA F g) yX0_overtimeHours wsX0_overtimeHours rmX0_overtimeHours [.ref (a 16), .int x] (fun r _ => r = sOv F N one) := by
  subst ei
  refine Wi.of (cc := cX0_overtimeHours) (maxL := 6) (by decide) rfl (Nat.le_of_ble_eq_true rfl) ?_
  intro p e s m args below meth c ls A Q hx hb hts hown hml hK hP hD hA hS hl hend
  have hown : s.vm.findClass RX0 = some m.cls := hown
  have hi : ∀ w ∈ wsX00, w ∈ wsX0_overtimeHours := by decide +kernel
  have hl : lv_has ls 6 [(0, .ref (a 16)), (1, .int (nI one))] := hl
  have hN : N ≤ 80 := hW.n
  have hc : F 7 0 = nI N := hW.c
  refine lv_aload_n hx hb dX0_overtimeHours_0 rfl (lv_at hl 0 rfl) ?_
  refine lv_iload_n hx hb dX0_overtimeHours_1 rfl (lv_at hl 1 rfl) ?_
  refine Wv.callV (rest := []) (q0 := 0) (ci := 0) (wr := []) [0, 1, 2, 3, 4, 5, 6, 7, 8, 9, 10, 11, 12, 13] [] ⟨hx, hb, hml, hown, hts⟩ (c_X0_fillAheadOnDay l D cA a F g N hW (nI one) one rfl ho) (cwV 1 hts gX0_overtimeHours_X0_fillAheadOnDay rfl rfl rfl (by decide +kernel) ⟨Nat.le_of_ble_eq_true rfl, Nat.le_of_ble_eq_true rfl⟩) hK hP hD hS hA rfl rfl (by decide) (by decide) (by decide) rfl rfl rfl rfl rfl hl.1 (Nat.le_of_ble_eq_true rfl) dX0_overtimeHours_2 ⟨Nat.zero_le _, Nat.zero_le _⟩ (fun u2 H locs hu2 hP hD hS => ?_)
  have hP : va_P D vwCl (wX a cA F u2) H := hP
  have hD : va_D A (wX a cA F u2) := hD
  refine lv_aload_n hx hb dX0_overtimeHours_5 rfl (lv_at hl 0 rfl) ?_
  refine va_get (D := D) (ci := 0) (v := .ref (a 11)) (C := RX0) (T := TX0) (N := 16) hx hb hts hi hown hK hP 0 rfl rfl 11 (by decide) (hts (.fieldLink RX0 44 "AssignmentHouse" "hoursOf" "[I") (by decide +kernel)) (fun _ h9 => h9) rfl dX0_overtimeHours_6 ?_
  refine lv_iload_n hx hb dX0_overtimeHours_9 rfl (lv_at hl 1 rfl) ?_
  refine Rd.callS (rest := []) ⟨hx, hb, hml, hown, hts⟩ (c_X0_at l D cA (a 11) 80 (F 11) (nI one) one (rfl) (by omega) (by decide)) (va_cwS 2 hts gX0_overtimeHours_X0_at rfl rfl rfl (by decide +kernel) ⟨Nat.le_of_ble_eq_true rfl, Nat.le_of_ble_eq_true rfl⟩) hK (hP.sub [9] rfl) rfl rfl hl.1 (Nat.le_of_ble_eq_true rfl) dX0_overtimeHours_10 ⟨Nat.zero_le _, Nat.zero_le _⟩ ?_
  refine lv_istore_n (lv' := [(2, .int (F 11 one)), (0, .ref (a 16)), (1, .int (nI one))]) hx hb dX0_overtimeHours_13 rfl hl (by decide) rfl (fun ls hl => ?_)
  refine lv_aload_n hx hb dX0_overtimeHours_14 rfl (lv_at hl 1 rfl) ?_
  refine va_get (D := D) (ci := 0) (v := .ref (a 15)) (C := RX0) (T := TX0) (N := 16) hx hb hts hi hown hK hP 0 rfl rfl 15 (by decide) (hts (.fieldLink RX0 56 "AssignmentHouse" "aheadOnDay" "[I") (by decide +kernel)) (fun _ h9 => h9) rfl dX0_overtimeHours_15 ?_
  refine lv_aload_n hx hb dX0_overtimeHours_18 rfl (lv_at hl 1 rfl) ?_
  refine va_get (D := D) (ci := 0) (v := .ref (a 10)) (C := RX0) (T := TX0) (N := 16) hx hb hts hi hown hK hP 0 rfl rfl 10 (by decide) (hts (.fieldLink RX0 41 "AssignmentHouse" "dayOf" "[I") (by decide +kernel)) (fun _ h9 => h9) rfl dX0_overtimeHours_19 ?_
  refine lv_iload_n hx hb dX0_overtimeHours_22 rfl (lv_at hl 2 rfl) ?_
  refine Rd.callS (rest := [.ref (a 15)]) ⟨hx, hb, hml, hown, hts⟩ (c_X0_at l D cA (a 10) 80 (F 10) (nI one) one (rfl) (by omega) (by decide)) (va_cwS 2 hts gX0_overtimeHours_X0_at rfl rfl rfl (by decide +kernel) ⟨Nat.le_of_ble_eq_true rfl, Nat.le_of_ble_eq_true rfl⟩) hK (hP.sub [8] rfl) rfl rfl hl.1 (Nat.le_of_ble_eq_true rfl) dX0_overtimeHours_23 ⟨Nat.zero_le _, Nat.zero_le _⟩ ?_
  refine lv_bipush (v := 7) hx hb dX0_overtimeHours_26 (by decide) ?_
  refine lv_irem hx hb dX0_overtimeHours_28 (by decide) ?_
  refine Rd.callS (rest := []) ⟨hx, hb, hml, hown, hts⟩ (c_X0_at l D cA (a 15) 7 u2 ((F 10 one) - (F 10 one) / 7 * 7) (dayN F one % 7) (rem7 hW ho) (by omega) (by decide)) (va_cwS 2 hts gX0_overtimeHours_X0_at rfl rfl rfl (by decide +kernel) ⟨Nat.le_of_ble_eq_true rfl, Nat.le_of_ble_eq_true rfl⟩) hK (hP.sub [13] rfl) rfl rfl hl.1 (Nat.le_of_ble_eq_true rfl) dX0_overtimeHours_29 ⟨Nat.zero_le _, Nat.zero_le _⟩ ?_
  refine lv_istore_n (lv' := [(3, .int (u2 (dayN F one % 7))), (2, .int (F 11 one)), (0, .ref (a 16)), (1, .int (nI one))]) hx hb dX0_overtimeHours_32 rfl hl (by decide) rfl (fun ls hl => ?_)
  refine lv_iload_n hx hb dX0_overtimeHours_33 rfl (lv_at hl 0 rfl) ?_
  refine lv_iload_n hx hb dX0_overtimeHours_34 rfl (lv_at hl 1 rfl) ?_
  refine lv_iadd hx hb dX0_overtimeHours_35 ?_
  refine Rd.callS (rest := []) ⟨hx, hb, hml, hown, hts⟩ (c_X0_plainOfDay l D cA ((u2 (dayN F one % 7)) + (F 11 one))) (va_cwS 1 hts gX0_overtimeHours_X0_plainOfDay rfl rfl rfl (by decide +kernel) ⟨Nat.le_of_ble_eq_true rfl, Nat.le_of_ble_eq_true rfl⟩) hK noP rfl rfl hl.1 (Nat.le_of_ble_eq_true rfl) dX0_overtimeHours_36 ⟨Nat.zero_le _, Nat.zero_le _⟩ ?_
  refine lv_iload_n hx hb dX0_overtimeHours_39 rfl (lv_at hl 0 rfl) ?_
  refine Rd.callS (rest := [.int (if ((u2 (dayN F one % 7)) + (F 11 one)) < 8 then ((u2 (dayN F one % 7)) + (F 11 one)) else 8)]) ⟨hx, hb, hml, hown, hts⟩ (c_X0_plainOfDay l D cA (u2 (dayN F one % 7))) (va_cwS 1 hts gX0_overtimeHours_X0_plainOfDay rfl rfl rfl (by decide +kernel) ⟨Nat.le_of_ble_eq_true rfl, Nat.le_of_ble_eq_true rfl⟩) hK noP rfl rfl hl.1 (Nat.le_of_ble_eq_true rfl) dX0_overtimeHours_40 ⟨Nat.zero_le _, Nat.zero_le _⟩ ?_
  refine lv_isub hx hb dX0_overtimeHours_43 ?_
  refine lv_istore (lv' := [(4, .int ((if ((u2 (dayN F one % 7)) + (F 11 one)) < 8 then ((u2 (dayN F one % 7)) + (F 11 one)) else 8) - (if (u2 (dayN F one % 7)) < 8 then (u2 (dayN F one % 7)) else 8))), (3, .int (u2 (dayN F one % 7))), (2, .int (F 11 one)), (0, .ref (a 16)), (1, .int (nI one))]) hx hb dX0_overtimeHours_44 hl (by decide) rfl (fun ls hl => ?_)
  refine lv_iconst (v := 0) hx hb dX0_overtimeHours_46 (by decide) ?_
  refine lv_bipush (v := 40) hx hb dX0_overtimeHours_47 (by decide) ?_
  refine lv_aload_n hx hb dX0_overtimeHours_49 rfl (lv_at hl 3 rfl) ?_
  refine Rd.callV (rest := [.int 40, .int 0]) (q0 := 0) (ci := 0) ⟨hx, hb, hml, hown, hts⟩ (c_X0_plainByDayAhead l D cA a F u2) (cwV 0 hts gX0_overtimeHours_X0_plainByDayAhead rfl rfl rfl (by decide +kernel) ⟨Nat.le_of_ble_eq_true rfl, Nat.le_of_ble_eq_true rfl⟩) hK hP rfl rfl rfl rfl rfl hl.1 (Nat.le_of_ble_eq_true rfl) dX0_overtimeHours_50 ⟨Nat.zero_le _, Nat.zero_le _⟩ ?_
  refine lv_isub hx hb dX0_overtimeHours_53 ?_
  refine va_mmax hx hb (hml.trans hl.1.symm) hown (hts (.methodLink RX0 133 Lib.Math.max.name) (by decide +kernel)) (hts (.static Lib.Math.max.name) (by decide +kernel)) (hts (.initialized "java/lang/Math") (by decide +kernel)) (hts (.code Lib.Math.max.name Lib.Math.max.code 2 (some .int)) (by decide +kernel)) (Nat.le_of_ble_eq_true rfl) (Nat.le_of_ble_eq_true rfl) (Nat.zero_le _) (Nat.zero_le _) dX0_overtimeHours_54 ?_
  refine lv_istore (lv' := [(5, .int (if 0 < (40 - (ps (fun i => if u2 i < 8 then u2 i else 8) 7)) then (40 - (ps (fun i => if u2 i < 8 then u2 i else 8) 7)) else 0)), (4, .int ((if ((u2 (dayN F one % 7)) + (F 11 one)) < 8 then ((u2 (dayN F one % 7)) + (F 11 one)) else 8) - (if (u2 (dayN F one % 7)) < 8 then (u2 (dayN F one % 7)) else 8))), (3, .int (u2 (dayN F one % 7))), (2, .int (F 11 one)), (0, .ref (a 16)), (1, .int (nI one))]) hx hb dX0_overtimeHours_57 hl (by decide) rfl (fun ls hl => ?_)
  refine lv_iload_n hx hb dX0_overtimeHours_59 rfl (lv_at hl 3 rfl) ?_
  refine lv_iload hx hb dX0_overtimeHours_60 (lv_at hl 1 rfl) ?_
  refine lv_iload hx hb dX0_overtimeHours_62 (lv_at hl 0 rfl) ?_
  refine va_mmin hx hb (hml.trans hl.1.symm) hown (hts (.methodLink RX0 138 Lib.Math.min.name) (by decide +kernel)) (hts (.static Lib.Math.min.name) (by decide +kernel)) (hts (.initialized "java/lang/Math") (by decide +kernel)) (hts (.code Lib.Math.min.name Lib.Math.min.code 2 (some .int)) (by decide +kernel)) (Nat.le_of_ble_eq_true rfl) (Nat.le_of_ble_eq_true rfl) (Nat.zero_le _) (Nat.zero_le _) dX0_overtimeHours_64 ?_
  refine lv_isub hx hb dX0_overtimeHours_67 ?_
  exact hend 68 ls _ (u2) _ _ dX0_overtimeHours_68 hP hD hS (ov_eq hW ho hu2 rfl rfl rfl)

set_option maxHeartbeats 4000000 in
set_option maxRecDepth 100000 in
theorem c_X0_shiftPay (l : Launch) (D : va_G) (cA : ClassId) (a : Nat → Nat) (F : Nat → Nat → Int32) (g : Nat → Int32) (N : Nat) (hW : wf F N) (x : Int32) (one : Nat) (ei : x = nI one) (ho : one < N) : Wi l D cA (S := Nat → Int32) (wX a cA F g) (fun g => wX a cA F g) yX0_shiftPay wsX0_shiftPay rmX0_shiftPay [.ref (a 16), .int x] (fun r _ => r = sPy F N one) := by
  subst ei
  refine Wi.of (cc := cX0_shiftPay) (maxL := 5) (by decide) rfl (Nat.le_of_ble_eq_true rfl) ?_
  intro p e s m args below meth c ls A Q hx hb hts hown hml hK hP hD hA hS hl hend
  have hown : s.vm.findClass RX0 = some m.cls := hown
  have hi : ∀ w ∈ wsX00, w ∈ wsX0_shiftPay := by decide +kernel
  have hl : lv_has ls 5 [(0, .ref (a 16)), (1, .int (nI one))] := hl
  have hN : N ≤ 80 := hW.n
  have hc : F 7 0 = nI N := hW.c
  have hd7 : dayN F one < 140 := (hW.day ho).1
  refine lv_aload_n hx hb dX0_shiftPay_0 rfl (lv_at hl 0 rfl) ?_
  refine lv_iload_n hx hb dX0_shiftPay_1 rfl (lv_at hl 1 rfl) ?_
  refine Wi.callV (rest := []) (q0 := 0) (ci := 0) (wr := []) [0, 1, 2, 3, 4, 5, 6, 7, 8, 9, 10, 11, 12, 13] [] ⟨hx, hb, hml, hown, hts⟩ (c_X0_overtimeHours l D cA a F g N hW (nI one) one rfl ho) (cwV 1 hts gX0_shiftPay_X0_overtimeHours rfl rfl rfl (by decide +kernel) ⟨Nat.le_of_ble_eq_true rfl, Nat.le_of_ble_eq_true rfl⟩) hK hP hD hS hA rfl rfl (by decide) (by decide) (by decide) rfl rfl rfl rfl rfl hl.1 (Nat.le_of_ble_eq_true rfl) dX0_shiftPay_2 ⟨Nat.zero_le _, Nat.zero_le _⟩ (fun r2 u2 H locs hu2 hP hD hS => ?_)
  have hP : va_P D vwCl (wX a cA F u2) H := hP
  have hD : va_D A (wX a cA F u2) := hD
  refine lv_istore_n (lv' := [(2, .int r2), (0, .ref (a 16)), (1, .int (nI one))]) hx hb dX0_shiftPay_5 rfl hl (by decide) rfl (fun ls hl => ?_)
  refine lv_aload_n hx hb dX0_shiftPay_6 rfl (lv_at hl 1 rfl) ?_
  refine va_get (D := D) (ci := 0) (v := .ref (a 11)) (C := RX0) (T := TX0) (N := 16) hx hb hts hi hown hK hP 0 rfl rfl 11 (by decide) (hts (.fieldLink RX0 44 "AssignmentHouse" "hoursOf" "[I") (by decide +kernel)) (fun _ h9 => h9) rfl dX0_shiftPay_7 ?_
  refine lv_iload_n hx hb dX0_shiftPay_10 rfl (lv_at hl 2 rfl) ?_
  refine Rd.callS (rest := []) ⟨hx, hb, hml, hown, hts⟩ (c_X0_at l D cA (a 11) 80 (F 11) (nI one) one (rfl) (by omega) (by decide)) (va_cwS 2 hts gX0_shiftPay_X0_at rfl rfl rfl (by decide +kernel) ⟨Nat.le_of_ble_eq_true rfl, Nat.le_of_ble_eq_true rfl⟩) hK (hP.sub [9] rfl) rfl rfl hl.1 (Nat.le_of_ble_eq_true rfl) dX0_shiftPay_11 ⟨Nat.zero_le _, Nat.zero_le _⟩ ?_
  refine lv_iload_n hx hb dX0_shiftPay_14 rfl (lv_at hl 0 rfl) ?_
  refine lv_isub hx hb dX0_shiftPay_15 ?_
  refine lv_istore_n (lv' := [(3, .int ((F 11 one) - r2)), (2, .int r2), (0, .ref (a 16)), (1, .int (nI one))]) hx hb dX0_shiftPay_16 rfl hl (by decide) rfl (fun ls hl => ?_)
  refine lv_aload_n hx hb dX0_shiftPay_17 rfl (lv_at hl 2 rfl) ?_
  refine lv_aload_n hx hb dX0_shiftPay_18 rfl (lv_at hl 2 rfl) ?_
  refine va_get (D := D) (ci := 0) (v := .ref (a 8)) (C := RX0) (T := TX0) (N := 16) hx hb hts hi hown hK hP 0 rfl rfl 8 (by decide) (hts (.fieldLink RX0 35 "AssignmentHouse" "workerOf" "[I") (by decide +kernel)) (fun _ h9 => h9) rfl dX0_shiftPay_19 ?_
  refine lv_iload_n hx hb dX0_shiftPay_22 rfl (lv_at hl 3 rfl) ?_
  refine Rd.callS (rest := [.ref (a 16)]) ⟨hx, hb, hml, hown, hts⟩ (c_X0_at l D cA (a 8) 80 (F 8) (nI one) one (rfl) (by omega) (by decide)) (va_cwS 2 hts gX0_shiftPay_X0_at rfl rfl rfl (by decide +kernel) ⟨Nat.le_of_ble_eq_true rfl, Nat.le_of_ble_eq_true rfl⟩) hK (hP.sub [6] rfl) rfl rfl hl.1 (Nat.le_of_ble_eq_true rfl) dX0_shiftPay_23 ⟨Nat.zero_le _, Nat.zero_le _⟩ ?_
  refine lv_aload_n hx hb dX0_shiftPay_26 rfl (lv_at hl 2 rfl) ?_
  refine va_get (D := D) (ci := 0) (v := .ref (a 9)) (C := RX0) (T := TX0) (N := 16) hx hb hts hi hown hK hP 0 rfl rfl 9 (by decide) (hts (.fieldLink RX0 38 "AssignmentHouse" "siteOf" "[I") (by decide +kernel)) (fun _ h9 => h9) rfl dX0_shiftPay_27 ?_
  refine lv_iload_n hx hb dX0_shiftPay_30 rfl (lv_at hl 3 rfl) ?_
  refine Rd.callS (rest := [.int (F 8 one), .ref (a 16)]) ⟨hx, hb, hml, hown, hts⟩ (c_X0_at l D cA (a 9) 80 (F 9) (nI one) one (rfl) (by omega) (by decide)) (va_cwS 2 hts gX0_shiftPay_X0_at rfl rfl rfl (by decide +kernel) ⟨Nat.le_of_ble_eq_true rfl, Nat.le_of_ble_eq_true rfl⟩) hK (hP.sub [7] rfl) rfl rfl hl.1 (Nat.le_of_ble_eq_true rfl) dX0_shiftPay_31 ⟨Nat.zero_le _, Nat.zero_le _⟩ ?_
  refine lv_aload_n hx hb dX0_shiftPay_34 rfl (lv_at hl 2 rfl) ?_
  refine va_get (D := D) (ci := 0) (v := .ref (a 10)) (C := RX0) (T := TX0) (N := 16) hx hb hts hi hown hK hP 0 rfl rfl 10 (by decide) (hts (.fieldLink RX0 41 "AssignmentHouse" "dayOf" "[I") (by decide +kernel)) (fun _ h9 => h9) rfl dX0_shiftPay_35 ?_
  refine lv_iload_n hx hb dX0_shiftPay_38 rfl (lv_at hl 3 rfl) ?_
  refine Rd.callS (rest := [.int (F 9 one), .int (F 8 one), .ref (a 16)]) ⟨hx, hb, hml, hown, hts⟩ (c_X0_at l D cA (a 10) 80 (F 10) (nI one) one (rfl) (by omega) (by decide)) (va_cwS 2 hts gX0_shiftPay_X0_at rfl rfl rfl (by decide +kernel) ⟨Nat.le_of_ble_eq_true rfl, Nat.le_of_ble_eq_true rfl⟩) hK (hP.sub [8] rfl) rfl rfl hl.1 (Nat.le_of_ble_eq_true rfl) dX0_shiftPay_39 ⟨Nat.zero_le _, Nat.zero_le _⟩ ?_
  refine Rd.callS (rest := [.int (F 9 one), .int (F 8 one), .ref (a 16)]) ⟨hx, hb, hml, hown, hts⟩ (c_X0_weekOf l D cA (F 10 one)) (va_cwS 1 hts gX0_shiftPay_X0_weekOf rfl rfl rfl (by decide +kernel) ⟨Nat.le_of_ble_eq_true rfl, Nat.le_of_ble_eq_true rfl⟩) hK noP rfl rfl hl.1 (Nat.le_of_ble_eq_true rfl) dX0_shiftPay_42 ⟨Nat.zero_le _, Nat.zero_le _⟩ ?_
  refine Rd.callV (rest := []) (q0 := 0) (ci := 0) ⟨hx, hb, hml, hown, hts⟩ (c_X0_rateThere l D cA a F u2 N hW (F 8 one) (F 9 one) (F 9 one).toNatClampNeg (hW.site ho).2 (hW.site ho).1 ((F 10 one) / 7) (dayN F one / 7) (hW.week ho) (by omega)) (cwV 3 hts gX0_shiftPay_X0_rateThere rfl rfl rfl (by decide +kernel) ⟨Nat.le_of_ble_eq_true rfl, Nat.le_of_ble_eq_true rfl⟩) hK hP rfl rfl rfl rfl rfl hl.1 (Nat.le_of_ble_eq_true rfl) dX0_shiftPay_45 ⟨Nat.zero_le _, Nat.zero_le _⟩ ?_
  refine lv_istore (lv' := [(4, .int (if F 5 0 ≤ sEqV F N (F 8 one) (F 9 one) (dayN F one / 7) then F 1 (F 9 one).toNatClampNeg else F 0 (F 9 one).toNatClampNeg)), (3, .int ((F 11 one) - r2)), (2, .int r2), (0, .ref (a 16)), (1, .int (nI one))]) hx hb dX0_shiftPay_48 hl (by decide) rfl (fun ls hl => ?_)
  refine lv_iconst (v := 2) hx hb dX0_shiftPay_50 (by decide) ?_
  refine lv_iload_n hx hb dX0_shiftPay_51 rfl (lv_at hl 1 rfl) ?_
  refine lv_imul hx hb dX0_shiftPay_52 ?_
  refine lv_iconst (v := 3) hx hb dX0_shiftPay_53 (by decide) ?_
  refine lv_iload_n hx hb dX0_shiftPay_54 rfl (lv_at hl 2 rfl) ?_
  refine lv_imul hx hb dX0_shiftPay_55 ?_
  refine lv_iadd hx hb dX0_shiftPay_56 ?_
  refine lv_iload hx hb dX0_shiftPay_57 (lv_at hl 0 rfl) ?_
  refine lv_imul hx hb dX0_shiftPay_59 ?_
  refine lv_iconst (v := 2) hx hb dX0_shiftPay_60 (by decide) ?_
  refine lv_idiv hx hb dX0_shiftPay_61 (by decide) ?_
  exact hend 62 ls _ (u2) _ _ dX0_shiftPay_62 hP hD hS (by rw [hu2]; rfl)

set_option maxHeartbeats 4000000 in
set_option maxRecDepth 100000 in
theorem c_X0_weekPay (l : Launch) (D : va_G) (cA : ClassId) (a : Nat → Nat) (F : Nat → Nat → Int32) (g : Nat → Int32) (N : Nat) (hW : wf F N) (w k : Int32) : Wi l D cA (S := Nat → Int32) (wX a cA F g) (fun g => wX a cA F g) yX0_weekPay wsX0_weekPay rmX0_weekPay [.ref (a 16), .int w, .int k] (fun r _ => r = ps (tPw F N w k) N) := by
  refine Wi.of (cc := cX0_weekPay) (maxL := 5) (by decide) rfl (Nat.le_of_ble_eq_true rfl) ?_
  intro p e s m args below meth c ls A Q hx hb hts hown hml hK hP hD hA hS hl hend
  have hown : s.vm.findClass RX0 = some m.cls := hown
  have hi : ∀ w ∈ wsX00, w ∈ wsX0_weekPay := by decide +kernel
  have hl : lv_has ls 5 [(0, .ref (a 16)), (1, .int w), (2, .int k)] := hl
  have hN : N ≤ 80 := hW.n
  have hc : F 7 0 = nI N := hW.c
  refine lv_iconst (v := 0) hx hb dX0_weekPay_0 (by decide) ?_
  refine lv_istore_n (lv' := [(3, .int 0), (0, .ref (a 16)), (1, .int w), (2, .int k)]) hx hb dX0_weekPay_1 rfl hl (by decide) rfl (fun ls hl => ?_)
  refine lv_iconst (v := 0) hx hb dX0_weekPay_2 (by decide) ?_
  refine lv_istore (lv' := [(4, .int 0), (3, .int 0), (0, .ref (a 16)), (1, .int w), (2, .int k)]) hx hb dX0_weekPay_3 hl (by decide) rfl (fun ls hl => ?_)
  have K_5 : ∀ (n i : Nat) (x3 : Int32) (g : Nat → Int32) (H : Heap) (locs : List Loc) (ls : Array Slot), i + n = N → x3 = ps (tPw F N w k) i → va_P D vwCl (wX a cA F g) H → va_D A (wX a cA F g) → va_S A s.heap H locs → lv_has ls 5 [(0, .ref (a 16)), (1, .int w), (2, .int k), (3, .int x3), (4, .int (nI i))] → W p l e rmX0_weekPay s m args below meth c H locs 0 0 Q (F0 m 5 ls []) := by
    intro n
    induction n with
    | zero =>
      intro i x3 g H locs ls hin_5 ex3  hP hD hS hl
      have hiN : i = N := by omega
      refine lv_iload hx hb dX0_weekPay_5 (lv_at hl 4 rfl) ?_
      refine lv_aload_n hx hb dX0_weekPay_7 rfl (lv_at hl 0 rfl) ?_
      refine va_get (D := D) (ci := 0) (v := .int (F 7 0)) (C := RX0) (T := TX0) (N := 16) hx hb hts hi hown hK hP 0 rfl rfl 7 (by decide) (hts (.fieldLink RX0 32 "AssignmentHouse" "shiftCount" "I") (by decide +kernel)) (fun _ h9 => h9) rfl dX0_weekPay_8 ?_
      refine lv_icmp_ge (tgt := 40) hx hb dX0_weekPay_11 (by decide) (fun c_11 => ?_) (fun c_11 => (absurd (((br_ge hc (by omega) (by omega : i ≤ N)).mpr hiN)) c_11 : False).elim)
      refine lv_iload_n hx hb dX0_weekPay_40 rfl (lv_at hl 3 rfl) ?_
      exact hend 41 ls _ (g) _ _ dX0_weekPay_41 hP hD hS (by rw [ex3, hiN])
    | succ n ih_5 =>
      intro i x3 g H locs ls hin_5 ex3  hP hD hS hl
      have hiN : i < N := by omega
      refine lv_iload hx hb dX0_weekPay_5 (lv_at hl 4 rfl) ?_
      refine lv_aload_n hx hb dX0_weekPay_7 rfl (lv_at hl 0 rfl) ?_
      refine va_get (D := D) (ci := 0) (v := .int (F 7 0)) (C := RX0) (T := TX0) (N := 16) hx hb hts hi hown hK hP 0 rfl rfl 7 (by decide) (hts (.fieldLink RX0 32 "AssignmentHouse" "shiftCount" "I") (by decide +kernel)) (fun _ h9 => h9) rfl dX0_weekPay_8 ?_
      refine lv_icmp_ge (tgt := 40) hx hb dX0_weekPay_11 (by decide) (fun c_11 => (absurd (((br_ge hc (by omega) (by omega : i ≤ N)).mp c_11)) (by omega) : False).elim) (fun c_11 => ?_)
      refine lv_aload_n hx hb dX0_weekPay_14 rfl (lv_at hl 0 rfl) ?_
      refine lv_iload hx hb dX0_weekPay_15 (lv_at hl 4 rfl) ?_
      refine lv_iload_n hx hb dX0_weekPay_17 rfl (lv_at hl 1 rfl) ?_
      refine lv_iload_n hx hb dX0_weekPay_18 rfl (lv_at hl 2 rfl) ?_
      refine Rd.callV (rest := []) (q0 := 0) (ci := 0) ⟨hx, hb, hml, hown, hts⟩ (c_X0_isOfWorker l D cA a F g (nI i) i rfl (by omega) w k) (cwV 3 hts gX0_weekPay_X0_isOfWorker rfl rfl rfl (by decide +kernel) ⟨Nat.le_of_ble_eq_true rfl, Nat.le_of_ble_eq_true rfl⟩) hK hP rfl rfl rfl rfl rfl hl.1 (Nat.le_of_ble_eq_true rfl) dX0_weekPay_19 ⟨Nat.zero_le _, Nat.zero_le _⟩ ?_
      refine lv_if_eq (tgt := 34) hx hb dX0_weekPay_22 (by decide) (fun c_22 => ?_) (fun c_22 => ?_)
      · skip
        have hq : ¬ (F 8 i = w ∧ F 10 i / 7 = k) := fun h => absurd c_22 (by rw [if_pos h]; decide)
        refine lv_iinc (v := (nI (i + 1))) (lv' := [(4, .int (nI (i + 1))), (0, .ref (a 16)), (1, .int w), (2, .int k), (3, .int x3)]) hx hb dX0_weekPay_34 hl (k := 4) rfl (nI_1 i) (by decide) rfl (fun ls hl => ?_)
        refine lv_goto (tgt := 5) hx hb dX0_weekPay_37 (by decide) ?_
        exact ih_5 (i + 1) _ g _ _ ls (by omega) (by rw [ps_s, ex3]; unfold tPw; rw [if_neg hq, i32_a0])  hP hD hS (lv_sub hl [1, 2, 3, 4, 0] rfl)
      · skip
        have hq : (F 8 i = w ∧ F 10 i / 7 = k) := Classical.byContradiction (fun h => c_22 (if_neg h))
        refine lv_iload_n hx hb dX0_weekPay_25 rfl (lv_at hl 3 rfl) ?_
        refine lv_aload_n hx hb dX0_weekPay_26 rfl (lv_at hl 0 rfl) ?_
        refine lv_iload hx hb dX0_weekPay_27 (lv_at hl 4 rfl) ?_
        refine Wi.callV (rest := [.int x3]) (q0 := 0) (ci := 0) (wr := []) [0, 1, 2, 3, 4, 5, 6, 7, 8, 9, 10, 11, 12, 13] [] ⟨hx, hb, hml, hown, hts⟩ (c_X0_shiftPay l D cA a F g N hW (nI i) i rfl (by omega)) (cwV 1 hts gX0_weekPay_X0_shiftPay rfl rfl rfl (by decide +kernel) ⟨Nat.le_of_ble_eq_true rfl, Nat.le_of_ble_eq_true rfl⟩) hK hP hD hS hA rfl rfl (by decide) (by decide) (by decide) rfl rfl rfl rfl rfl hl.1 (Nat.le_of_ble_eq_true rfl) dX0_weekPay_29 ⟨Nat.zero_le _, Nat.zero_le _⟩ (fun r29 u29 H locs hu29 hP hD hS => ?_)
        have hP : va_P D vwCl (wX a cA F u29) H := hP
        have hD : va_D A (wX a cA F u29) := hD
        refine lv_iadd hx hb dX0_weekPay_32 ?_
        refine lv_istore_n (lv' := [(3, .int (x3 + r29)), (0, .ref (a 16)), (1, .int w), (2, .int k), (4, .int (nI i))]) hx hb dX0_weekPay_33 rfl hl (by decide) rfl (fun ls hl => ?_)
        refine lv_iinc (v := (nI (i + 1))) (lv' := [(4, .int (nI (i + 1))), (3, .int (x3 + r29)), (0, .ref (a 16)), (1, .int w), (2, .int k)]) hx hb dX0_weekPay_34 hl (k := 4) rfl (nI_1 i) (by decide) rfl (fun ls hl => ?_)
        refine lv_goto (tgt := 5) hx hb dX0_weekPay_37 (by decide) ?_
        exact ih_5 (i + 1) _ u29 _ _ ls (by omega) (by rw [ps_s, ex3, hu29]; unfold tPw; rw [if_pos hq])  hP hD hS (lv_sub hl [2, 3, 4, 1, 0] rfl)
  exact K_5 N 0 _ g _ _ ls (by omega) (rfl)  hP hD hS (lv_sub hl [2, 3, 4, 1, 0] rfl)

set_option maxHeartbeats 4000000 in
set_option maxRecDepth 100000 in
theorem c_X0_weekCharge (l : Launch) (D : va_G) (cA : ClassId) (a : Nat → Nat) (F : Nat → Nat → Int32) (g : Nat → Int32) (N : Nat) (hW : wf F N) (t : Int32) (tn : Nat) (et : t = nI tn) (ht : tn < 4) (k : Int32) : Wi l D cA (S := Nat → Int32) (wX a cA F g) (fun g => wX a cA F g) yX0_weekCharge wsX0_weekCharge rmX0_weekCharge [.ref (a 16), .int t, .int k] (fun r _ => r = ps (tCt F N t k) N) := by
  refine Wi.of (cc := cX0_weekCharge) (maxL := 6) (by decide) rfl (Nat.le_of_ble_eq_true rfl) ?_
  intro p e s m args below meth c ls A Q hx hb hts hown hml hK hP hD hA hS hl hend
  have hown : s.vm.findClass RX0 = some m.cls := hown
  have hi : ∀ w ∈ wsX00, w ∈ wsX0_weekCharge := by decide +kernel
  have hl : lv_has ls 6 [(0, .ref (a 16)), (1, .int t), (2, .int k)] := hl
  have hN : N ≤ 80 := hW.n
  have hc : F 7 0 = nI N := hW.c
  refine lv_aload_n hx hb dX0_weekCharge_0 rfl (lv_at hl 0 rfl) ?_
  refine lv_iload_n hx hb dX0_weekCharge_1 rfl (lv_at hl 1 rfl) ?_
  refine lv_iload_n hx hb dX0_weekCharge_2 rfl (lv_at hl 2 rfl) ?_
  refine Rd.callV (rest := []) (q0 := 0) (ci := 0) ⟨hx, hb, hml, hown, hts⟩ (c_X0_marginAt l D cA a F g N hW t tn et ht k) (cwV 2 hts gX0_weekCharge_X0_marginAt rfl rfl rfl (by decide +kernel) ⟨Nat.le_of_ble_eq_true rfl, Nat.le_of_ble_eq_true rfl⟩) hK hP rfl rfl rfl rfl rfl hl.1 (Nat.le_of_ble_eq_true rfl) dX0_weekCharge_3 ⟨Nat.zero_le _, Nat.zero_le _⟩ ?_
  refine lv_istore_n (lv' := [(3, .int (sMg F N t k)), (0, .ref (a 16)), (1, .int t), (2, .int k)]) hx hb dX0_weekCharge_6 rfl hl (by decide) rfl (fun ls hl => ?_)
  refine lv_iconst (v := 0) hx hb dX0_weekCharge_7 (by decide) ?_
  refine lv_istore (lv' := [(4, .int 0), (3, .int (sMg F N t k)), (0, .ref (a 16)), (1, .int t), (2, .int k)]) hx hb dX0_weekCharge_8 hl (by decide) rfl (fun ls hl => ?_)
  refine lv_iconst (v := 0) hx hb dX0_weekCharge_10 (by decide) ?_
  refine lv_istore (lv' := [(5, .int 0), (4, .int 0), (3, .int (sMg F N t k)), (0, .ref (a 16)), (1, .int t), (2, .int k)]) hx hb dX0_weekCharge_11 hl (by decide) rfl (fun ls hl => ?_)
  have K_13 : ∀ (n i : Nat) (x4 : Int32) (g : Nat → Int32) (H : Heap) (locs : List Loc) (ls : Array Slot), i + n = N → x4 = ps (tCt F N t k) i → va_P D vwCl (wX a cA F g) H → va_D A (wX a cA F g) → va_S A s.heap H locs → lv_has ls 6 [(0, .ref (a 16)), (1, .int t), (2, .int k), (3, .int (sMg F N t k)), (4, .int x4), (5, .int (nI i))] → W p l e rmX0_weekCharge s m args below meth c H locs 0 0 Q (F0 m 13 ls []) := by
    intro n
    induction n with
    | zero =>
      intro i x4 g H locs ls hin_13 ex4  hP hD hS hl
      have hiN : i = N := by omega
      refine lv_iload hx hb dX0_weekCharge_13 (lv_at hl 5 rfl) ?_
      refine lv_aload_n hx hb dX0_weekCharge_15 rfl (lv_at hl 0 rfl) ?_
      refine va_get (D := D) (ci := 0) (v := .int (F 7 0)) (C := RX0) (T := TX0) (N := 16) hx hb hts hi hown hK hP 0 rfl rfl 7 (by decide) (hts (.fieldLink RX0 32 "AssignmentHouse" "shiftCount" "I") (by decide +kernel)) (fun _ h9 => h9) rfl dX0_weekCharge_16 ?_
      refine lv_icmp_ge (tgt := 54) hx hb dX0_weekCharge_19 (by decide) (fun c_19 => ?_) (fun c_19 => (absurd (((br_ge hc (by omega) (by omega : i ≤ N)).mpr hiN)) c_19 : False).elim)
      refine lv_iload hx hb dX0_weekCharge_54 (lv_at hl 4 rfl) ?_
      exact hend 56 ls _ (g) _ _ dX0_weekCharge_56 hP hD hS (by rw [ex4, hiN])
    | succ n ih_13 =>
      intro i x4 g H locs ls hin_13 ex4  hP hD hS hl
      have hiN : i < N := by omega
      refine lv_iload hx hb dX0_weekCharge_13 (lv_at hl 5 rfl) ?_
      refine lv_aload_n hx hb dX0_weekCharge_15 rfl (lv_at hl 0 rfl) ?_
      refine va_get (D := D) (ci := 0) (v := .int (F 7 0)) (C := RX0) (T := TX0) (N := 16) hx hb hts hi hown hK hP 0 rfl rfl 7 (by decide) (hts (.fieldLink RX0 32 "AssignmentHouse" "shiftCount" "I") (by decide +kernel)) (fun _ h9 => h9) rfl dX0_weekCharge_16 ?_
      refine lv_icmp_ge (tgt := 54) hx hb dX0_weekCharge_19 (by decide) (fun c_19 => (absurd (((br_ge hc (by omega) (by omega : i ≤ N)).mp c_19)) (by omega) : False).elim) (fun c_19 => ?_)
      refine lv_aload_n hx hb dX0_weekCharge_22 rfl (lv_at hl 0 rfl) ?_
      refine lv_iload hx hb dX0_weekCharge_23 (lv_at hl 5 rfl) ?_
      refine lv_iload_n hx hb dX0_weekCharge_25 rfl (lv_at hl 1 rfl) ?_
      refine lv_iload_n hx hb dX0_weekCharge_26 rfl (lv_at hl 2 rfl) ?_
      refine Rd.callV (rest := []) (q0 := 0) (ci := 0) ⟨hx, hb, hml, hown, hts⟩ (c_X0_isAtSite l D cA a F g (nI i) i rfl (by omega) t k) (cwV 3 hts gX0_weekCharge_X0_isAtSite rfl rfl rfl (by decide +kernel) ⟨Nat.le_of_ble_eq_true rfl, Nat.le_of_ble_eq_true rfl⟩) hK hP rfl rfl rfl rfl rfl hl.1 (Nat.le_of_ble_eq_true rfl) dX0_weekCharge_27 ⟨Nat.zero_le _, Nat.zero_le _⟩ ?_
      refine lv_if_eq (tgt := 48) hx hb dX0_weekCharge_30 (by decide) (fun c_30 => ?_) (fun c_30 => ?_)
      · skip
        have hq : ¬ (F 9 i = t ∧ F 10 i / 7 = k) := fun h => absurd c_30 (by rw [if_pos h]; decide)
        refine lv_iinc (v := (nI (i + 1))) (lv' := [(5, .int (nI (i + 1))), (0, .ref (a 16)), (1, .int t), (2, .int k), (3, .int (sMg F N t k)), (4, .int x4)]) hx hb dX0_weekCharge_48 hl (k := 5) rfl (nI_1 i) (by decide) rfl (fun ls hl => ?_)
        refine lv_goto (tgt := 13) hx hb dX0_weekCharge_51 (by decide) ?_
        exact ih_13 (i + 1) _ g _ _ ls (by omega) (by rw [ps_s, ex4]; unfold tCt; rw [if_neg hq, i32_a0])  hP hD hS (lv_sub hl [1, 2, 3, 4, 5, 0] rfl)
      · skip
        have hq : (F 9 i = t ∧ F 10 i / 7 = k) := Classical.byContradiction (fun h => c_30 (if_neg h))
        refine lv_iload hx hb dX0_weekCharge_33 (lv_at hl 4 rfl) ?_
        refine lv_aload_n hx hb dX0_weekCharge_35 rfl (lv_at hl 0 rfl) ?_
        refine lv_iload hx hb dX0_weekCharge_36 (lv_at hl 5 rfl) ?_
        refine Wi.callV (rest := [.int x4]) (q0 := 0) (ci := 0) (wr := []) [0, 1, 2, 3, 4, 5, 6, 7, 8, 9, 10, 11, 12, 13] [] ⟨hx, hb, hml, hown, hts⟩ (c_X0_shiftPay l D cA a F g N hW (nI i) i rfl (by omega)) (cwV 1 hts gX0_weekCharge_X0_shiftPay rfl rfl rfl (by decide +kernel) ⟨Nat.le_of_ble_eq_true rfl, Nat.le_of_ble_eq_true rfl⟩) hK hP hD hS hA rfl rfl (by decide) (by decide) (by decide) rfl rfl rfl rfl rfl hl.1 (Nat.le_of_ble_eq_true rfl) dX0_weekCharge_38 ⟨Nat.zero_le _, Nat.zero_le _⟩ (fun r38 u38 H locs hu38 hP hD hS => ?_)
        have hP : va_P D vwCl (wX a cA F u38) H := hP
        have hD : va_D A (wX a cA F u38) := hD
        refine lv_iload_n hx hb dX0_weekCharge_41 rfl (lv_at hl 3 rfl) ?_
        refine Rd.callS (rest := [.int x4]) ⟨hx, hb, hml, hown, hts⟩ (c_X0_chargeFor l D cA r38 (sMg F N t k)) (va_cwS 2 hts gX0_weekCharge_X0_chargeFor rfl rfl rfl (by decide +kernel) ⟨Nat.le_of_ble_eq_true rfl, Nat.le_of_ble_eq_true rfl⟩) hK noP rfl rfl hl.1 (Nat.le_of_ble_eq_true rfl) dX0_weekCharge_42 ⟨Nat.zero_le _, Nat.zero_le _⟩ ?_
        refine lv_iadd hx hb dX0_weekCharge_45 ?_
        refine lv_istore (lv' := [(4, .int (x4 + (r38 * (100 + (sMg F N t k)) / 100))), (0, .ref (a 16)), (1, .int t), (2, .int k), (3, .int (sMg F N t k)), (5, .int (nI i))]) hx hb dX0_weekCharge_46 hl (by decide) rfl (fun ls hl => ?_)
        refine lv_iinc (v := (nI (i + 1))) (lv' := [(5, .int (nI (i + 1))), (4, .int (x4 + (r38 * (100 + (sMg F N t k)) / 100))), (0, .ref (a 16)), (1, .int t), (2, .int k), (3, .int (sMg F N t k))]) hx hb dX0_weekCharge_48 hl (k := 5) rfl (nI_1 i) (by decide) rfl (fun ls hl => ?_)
        refine lv_goto (tgt := 13) hx hb dX0_weekCharge_51 (by decide) ?_
        exact ih_13 (i + 1) _ u38 _ _ ls (by omega) (by rw [ps_s, ex4, hu38]; unfold tCt; rw [if_pos hq]; unfold sCh; rw [hq.1, hq.2])  hP hD hS (lv_sub hl [2, 3, 4, 5, 1, 0] rfl)
  exact K_13 N 0 _ g _ _ ls (by omega) (rfl)  hP hD hS (lv_sub hl [3, 4, 5, 2, 1, 0] rfl)
end
section
/-! the class: the three methods that throw; by program (wip/whole/gen) -/
abbrev rmX0_needOneOf : Room := { frames := 1, cells := 0, slots := 0, locals := 20 }
abbrev rbX0_needOneOf : Room := { frames := 6, cells := 1, slots := 6, locals := 90 }
abbrev rmX0_needRange : Room := { frames := 1, cells := 0, slots := 0, locals := 20 }
abbrev rbX0_needRange : Room := { frames := 6, cells := 1, slots := 6, locals := 90 }
abbrev rmX0_needState : Room := { frames := 1, cells := 0, slots := 0, locals := 20 }
abbrev rbX0_needState : Room := { frames := 6, cells := 1, slots := 6, locals := 90 }
set_option maxHeartbeats 4000000 in
set_option maxRecDepth 100000 in
theorem c_X0_needOneOf (l : Launch) (D : va_G) (cA : ClassId) (x y : Int32) (h0 : ¬ x < 0) (h1 : x < y) : Ru l D cA [] yX0_needOneOf wsX0_needOneOf rmX0_needOneOf [.int x, .int y] := by
  refine Ru.of (cc := cX0_needOneOf) (maxL := 2) (by decide) rfl (Nat.le_of_ble_eq_true rfl) ?_
  intro p e s m args below meth c ls Q hx hb hts hown hml hK hP hl hend
  have hown : s.vm.findClass RX0 = some m.cls := hown
  have hl : lv_has ls 2 [(0, .int x), (1, .int y)] := hl
  refine lv_iload_n hx hb dX0_needOneOf_0 rfl (lv_at hl 0 rfl) ?_
  refine lv_if_lt (tgt := 9) hx hb dX0_needOneOf_1 (by decide) (fun c_1 => (h0 c_1 : False).elim) (fun c_1 => ?_)
  refine lv_iload_n hx hb dX0_needOneOf_4 rfl (lv_at hl 0 rfl) ?_
  refine lv_iload_n hx hb dX0_needOneOf_5 rfl (lv_at hl 1 rfl) ?_
  refine lv_icmp_lt (tgt := 19) hx hb dX0_needOneOf_6 (by decide) (fun c_6 => ?_) (fun c_6 => (c_6 h1 : False).elim)
  exact hend 19 ls dX0_needOneOf_19

set_option maxHeartbeats 4000000 in
set_option maxRecDepth 100000 in
theorem c_X0_needRange (l : Launch) (D : va_G) (cA : ClassId) (x y z : Int32) (h0 : ¬ x < y) (h1 : x ≤ z) : Ru l D cA [] yX0_needRange wsX0_needRange rmX0_needRange [.int x, .int y, .int z] := by
  refine Ru.of (cc := cX0_needRange) (maxL := 3) (by decide) rfl (Nat.le_of_ble_eq_true rfl) ?_
  intro p e s m args below meth c ls Q hx hb hts hown hml hK hP hl hend
  have hown : s.vm.findClass RX0 = some m.cls := hown
  have hl : lv_has ls 3 [(0, .int x), (1, .int y), (2, .int z)] := hl
  refine lv_iload_n hx hb dX0_needRange_0 rfl (lv_at hl 0 rfl) ?_
  refine lv_iload_n hx hb dX0_needRange_1 rfl (lv_at hl 1 rfl) ?_
  refine lv_icmp_lt (tgt := 10) hx hb dX0_needRange_2 (by decide) (fun c_2 => (h0 c_2 : False).elim) (fun c_2 => ?_)
  refine lv_iload_n hx hb dX0_needRange_5 rfl (lv_at hl 0 rfl) ?_
  refine lv_iload_n hx hb dX0_needRange_6 rfl (lv_at hl 2 rfl) ?_
  refine lv_icmp_le (tgt := 20) hx hb dX0_needRange_7 (by decide) (fun c_7 => ?_) (fun c_7 => (c_7 h1 : False).elim)
  exact hend 20 ls dX0_needRange_20

set_option maxHeartbeats 4000000 in
set_option maxRecDepth 100000 in
theorem c_X0_needState (l : Launch) (D : va_G) (cA : ClassId) (x : Int32) (h0 : ¬ x = 0) : Ru l D cA [] yX0_needState wsX0_needState rmX0_needState [.int x] := by
  refine Ru.of (cc := cX0_needState) (maxL := 1) (by decide) rfl (Nat.le_of_ble_eq_true rfl) ?_
  intro p e s m args below meth c ls Q hx hb hts hown hml hK hP hl hend
  have hown : s.vm.findClass RX0 = some m.cls := hown
  have hl : lv_has ls 1 [(0, .int x)] := hl
  refine lv_iload_n hx hb dX0_needState_0 rfl (lv_at hl 0 rfl) ?_
  refine lv_if_ne (tgt := 14) hx hb dX0_needState_1 (by decide) (fun c_1 => ?_) (fun c_1 => (h0 c_1 : False).elim)
  exact hend 14 ls dX0_needState_14

set_option maxHeartbeats 4000000 in
set_option maxRecDepth 100000 in
theorem b_X0_needOneOf (l : Launch) (D : va_G) (cA : ClassId) (hl9 : l.stackTraces = false) (x y : Int32) (h : x < 0 ∨ ¬ x < y) : Bx l D cA [] yX0_needOneOf wsX0_needOneOf rbX0_needOneOf [.int x, .int y] eI := by
  refine Bx.of (cc := cX0_needOneOf) (maxL := 2) (ret := none) (by decide) rfl (Nat.le_of_ble_eq_true rfl) ?_
  intro p e s m args below meth c ls hx hb hts hown hml hK hP hl htab hlocks hZ
  have hown : s.vm.findClass RX0 = some m.cls := hown
  have hl : lv_has ls 2 [(0, .int x), (1, .int y)] := hl
  obtain ⟨a9, hstr⟩ := hZ.2.2.1
  refine lv_iload_n hx hb dX0_needOneOf_0 rfl (lv_at hl 0 rfl) ?_
  refine lv_if_lt (tgt := 9) hx hb dX0_needOneOf_1 (by decide) (fun c_1 => ?_) (fun c_1 => ?_)
  · skip
    exact vx_throwS1 (own := RX0) (cls := "java/lang/IndexOutOfBoundsException") (text := "there is no such worker, site, shift or week") (names := ["java/lang/RuntimeException", "java/lang/Exception"]) (ik := 147) (is := 149) (ic := 151) (mc := 1) (ms := 6) (sa := a9) (A := fun q => s.heap.size ≤ q) hx hb hl9 hown (by decide +kernel) (by decide +kernel) (hts (.classLink RX0 147 "java/lang/IndexOutOfBoundsException") (by decide +kernel)) (hts (.initialized "java/lang/IndexOutOfBoundsException") (by decide +kernel)) hstr (vx_hat (B := [.castable "java/lang/IndexOutOfBoundsException" "java/lang/IndexOutOfBoundsException", .declares ⟨"java/lang/RuntimeException", "<init>", "(Ljava/lang/String;)V"⟩, .declares ⟨"java/lang/Exception", "<init>", "(Ljava/lang/String;)V"⟩, .declares ⟨"java/lang/Throwable", "<init>", "(Ljava/lang/String;)V"⟩]) (fun w hw => hts w (List.mem_cons_of_mem _ (List.mem_append_right _ hw))) (by decide +kernel) (vx_c (va_Nw.use rfl hZ.2.2.2.2.2.1) (vx_c (va_Nw.use rfl hZ.2.2.2.2.2.2.2.2.1) (vx_c (va_Nw.use rfl hZ.2.2.2.2.2.2.2.2.2.1) (vx_c (va_Nw.use rfl hZ.2.2.2.2.2.2.2.2.2.2) vx_n))))) (by decide +kernel) hZ.1 hZ.2.1 va_S.rf (hl.1.trans hml.symm) dX0_needOneOf_9 dX0_needOneOf_12 dX0_needOneOf_13 dX0_needOneOf_15 dX0_needOneOf_18 (fun x h => (htab x h).elim) (Nat.le_of_ble_eq_true rfl) (Nat.le_of_ble_eq_true rfl) (Nat.le_of_ble_eq_true rfl) (Nat.le_of_ble_eq_true rfl) hlocks (fun t hvm hz hk => ⟨rfl, hz, hk⟩) (fun _ h => nomatch h) (Nat.le_of_ble_eq_true rfl) (Nat.le_of_ble_eq_true rfl)
  · skip
    refine lv_iload_n hx hb dX0_needOneOf_4 rfl (lv_at hl 0 rfl) ?_
    refine lv_iload_n hx hb dX0_needOneOf_5 rfl (lv_at hl 1 rfl) ?_
    refine lv_icmp_lt (tgt := 19) hx hb dX0_needOneOf_6 (by decide) (fun c_6 => (h.elim c_1 (fun h => h c_6) : False).elim) (fun c_6 => ?_)
    exact vx_throwS1 (own := RX0) (cls := "java/lang/IndexOutOfBoundsException") (text := "there is no such worker, site, shift or week") (names := ["java/lang/RuntimeException", "java/lang/Exception"]) (ik := 147) (is := 149) (ic := 151) (mc := 1) (ms := 6) (sa := a9) (A := fun q => s.heap.size ≤ q) hx hb hl9 hown (by decide +kernel) (by decide +kernel) (hts (.classLink RX0 147 "java/lang/IndexOutOfBoundsException") (by decide +kernel)) (hts (.initialized "java/lang/IndexOutOfBoundsException") (by decide +kernel)) hstr (vx_hat (B := [.castable "java/lang/IndexOutOfBoundsException" "java/lang/IndexOutOfBoundsException", .declares ⟨"java/lang/RuntimeException", "<init>", "(Ljava/lang/String;)V"⟩, .declares ⟨"java/lang/Exception", "<init>", "(Ljava/lang/String;)V"⟩, .declares ⟨"java/lang/Throwable", "<init>", "(Ljava/lang/String;)V"⟩]) (fun w hw => hts w (List.mem_cons_of_mem _ (List.mem_append_right _ hw))) (by decide +kernel) (vx_c (va_Nw.use rfl hZ.2.2.2.2.2.1) (vx_c (va_Nw.use rfl hZ.2.2.2.2.2.2.2.2.1) (vx_c (va_Nw.use rfl hZ.2.2.2.2.2.2.2.2.2.1) (vx_c (va_Nw.use rfl hZ.2.2.2.2.2.2.2.2.2.2) vx_n))))) (by decide +kernel) hZ.1 hZ.2.1 va_S.rf (hl.1.trans hml.symm) dX0_needOneOf_9 dX0_needOneOf_12 dX0_needOneOf_13 dX0_needOneOf_15 dX0_needOneOf_18 (fun x h => (htab x h).elim) (Nat.le_of_ble_eq_true rfl) (Nat.le_of_ble_eq_true rfl) (Nat.le_of_ble_eq_true rfl) (Nat.le_of_ble_eq_true rfl) hlocks (fun t hvm hz hk => ⟨rfl, hz, hk⟩) (fun _ h => nomatch h) (Nat.le_of_ble_eq_true rfl) (Nat.le_of_ble_eq_true rfl)

set_option maxHeartbeats 4000000 in
set_option maxRecDepth 100000 in
theorem b_X0_needRange (l : Launch) (D : va_G) (cA : ClassId) (hl9 : l.stackTraces = false) (x y z : Int32) (h : x < y ∨ ¬ x ≤ z) : Bx l D cA [] yX0_needRange wsX0_needRange rbX0_needRange [.int x, .int y, .int z] eA := by
  refine Bx.of (cc := cX0_needRange) (maxL := 3) (ret := none) (by decide) rfl (Nat.le_of_ble_eq_true rfl) ?_
  intro p e s m args below meth c ls hx hb hts hown hml hK hP hl htab hlocks hZ
  have hown : s.vm.findClass RX0 = some m.cls := hown
  have hl : lv_has ls 3 [(0, .int x), (1, .int y), (2, .int z)] := hl
  obtain ⟨a9, hstr⟩ := hZ.2.2.2.1
  refine lv_iload_n hx hb dX0_needRange_0 rfl (lv_at hl 0 rfl) ?_
  refine lv_iload_n hx hb dX0_needRange_1 rfl (lv_at hl 1 rfl) ?_
  refine lv_icmp_lt (tgt := 10) hx hb dX0_needRange_2 (by decide) (fun c_2 => ?_) (fun c_2 => ?_)
  · skip
    exact vx_throwS1 (own := RX0) (cls := "java/lang/IllegalArgumentException") (text := "an argument is out of range") (names := ["java/lang/RuntimeException", "java/lang/Exception"]) (ik := 154) (is := 156) (ic := 158) (mc := 1) (ms := 6) (sa := a9) (A := fun q => s.heap.size ≤ q) hx hb hl9 hown (by decide +kernel) (by decide +kernel) (hts (.classLink RX0 154 "java/lang/IllegalArgumentException") (by decide +kernel)) (hts (.initialized "java/lang/IllegalArgumentException") (by decide +kernel)) hstr (vx_hat (B := [.castable "java/lang/IllegalArgumentException" "java/lang/IllegalArgumentException", .declares ⟨"java/lang/RuntimeException", "<init>", "(Ljava/lang/String;)V"⟩, .declares ⟨"java/lang/Exception", "<init>", "(Ljava/lang/String;)V"⟩, .declares ⟨"java/lang/Throwable", "<init>", "(Ljava/lang/String;)V"⟩]) (fun w hw => hts w (List.mem_cons_of_mem _ (List.mem_append_right _ hw))) (by decide +kernel) (vx_c (va_Nw.use rfl hZ.2.2.2.2.2.2.1) (vx_c (va_Nw.use rfl hZ.2.2.2.2.2.2.2.2.1) (vx_c (va_Nw.use rfl hZ.2.2.2.2.2.2.2.2.2.1) (vx_c (va_Nw.use rfl hZ.2.2.2.2.2.2.2.2.2.2) vx_n))))) (by decide +kernel) hZ.1 hZ.2.1 va_S.rf (hl.1.trans hml.symm) dX0_needRange_10 dX0_needRange_13 dX0_needRange_14 dX0_needRange_16 dX0_needRange_19 (fun x h => (htab x h).elim) (Nat.le_of_ble_eq_true rfl) (Nat.le_of_ble_eq_true rfl) (Nat.le_of_ble_eq_true rfl) (Nat.le_of_ble_eq_true rfl) hlocks (fun t hvm hz hk => ⟨rfl, hz, hk⟩) (fun _ h => nomatch h) (Nat.le_of_ble_eq_true rfl) (Nat.le_of_ble_eq_true rfl)
  · skip
    refine lv_iload_n hx hb dX0_needRange_5 rfl (lv_at hl 0 rfl) ?_
    refine lv_iload_n hx hb dX0_needRange_6 rfl (lv_at hl 2 rfl) ?_
    refine lv_icmp_le (tgt := 20) hx hb dX0_needRange_7 (by decide) (fun c_7 => (h.elim c_2 (fun h => h c_7) : False).elim) (fun c_7 => ?_)
    exact vx_throwS1 (own := RX0) (cls := "java/lang/IllegalArgumentException") (text := "an argument is out of range") (names := ["java/lang/RuntimeException", "java/lang/Exception"]) (ik := 154) (is := 156) (ic := 158) (mc := 1) (ms := 6) (sa := a9) (A := fun q => s.heap.size ≤ q) hx hb hl9 hown (by decide +kernel) (by decide +kernel) (hts (.classLink RX0 154 "java/lang/IllegalArgumentException") (by decide +kernel)) (hts (.initialized "java/lang/IllegalArgumentException") (by decide +kernel)) hstr (vx_hat (B := [.castable "java/lang/IllegalArgumentException" "java/lang/IllegalArgumentException", .declares ⟨"java/lang/RuntimeException", "<init>", "(Ljava/lang/String;)V"⟩, .declares ⟨"java/lang/Exception", "<init>", "(Ljava/lang/String;)V"⟩, .declares ⟨"java/lang/Throwable", "<init>", "(Ljava/lang/String;)V"⟩]) (fun w hw => hts w (List.mem_cons_of_mem _ (List.mem_append_right _ hw))) (by decide +kernel) (vx_c (va_Nw.use rfl hZ.2.2.2.2.2.2.1) (vx_c (va_Nw.use rfl hZ.2.2.2.2.2.2.2.2.1) (vx_c (va_Nw.use rfl hZ.2.2.2.2.2.2.2.2.2.1) (vx_c (va_Nw.use rfl hZ.2.2.2.2.2.2.2.2.2.2) vx_n))))) (by decide +kernel) hZ.1 hZ.2.1 va_S.rf (hl.1.trans hml.symm) dX0_needRange_10 dX0_needRange_13 dX0_needRange_14 dX0_needRange_16 dX0_needRange_19 (fun x h => (htab x h).elim) (Nat.le_of_ble_eq_true rfl) (Nat.le_of_ble_eq_true rfl) (Nat.le_of_ble_eq_true rfl) (Nat.le_of_ble_eq_true rfl) hlocks (fun t hvm hz hk => ⟨rfl, hz, hk⟩) (fun _ h => nomatch h) (Nat.le_of_ble_eq_true rfl) (Nat.le_of_ble_eq_true rfl)

set_option maxHeartbeats 4000000 in
set_option maxRecDepth 100000 in
theorem b_X0_needState (l : Launch) (D : va_G) (cA : ClassId) (hl9 : l.stackTraces = false) (x : Int32) (h : x = 0) : Bx l D cA [] yX0_needState wsX0_needState rbX0_needState [.int x] eS := by
  refine Bx.of (cc := cX0_needState) (maxL := 1) (ret := none) (by decide) rfl (Nat.le_of_ble_eq_true rfl) ?_
  intro p e s m args below meth c ls hx hb hts hown hml hK hP hl htab hlocks hZ
  have hown : s.vm.findClass RX0 = some m.cls := hown
  have hl : lv_has ls 1 [(0, .int x)] := hl
  obtain ⟨a9, hstr⟩ := hZ.2.2.2.2.1
  refine lv_iload_n hx hb dX0_needState_0 rfl (lv_at hl 0 rfl) ?_
  refine lv_if_ne (tgt := 14) hx hb dX0_needState_1 (by decide) (fun c_1 => (c_1 h : False).elim) (fun c_1 => ?_)
  exact vx_throwS1 (own := RX0) (cls := "java/lang/IllegalStateException") (text := "the shifts and holidays so far do not allow this") (names := ["java/lang/RuntimeException", "java/lang/Exception"]) (ik := 159) (is := 161) (ic := 163) (mc := 1) (ms := 6) (sa := a9) (A := fun q => s.heap.size ≤ q) hx hb hl9 hown (by decide +kernel) (by decide +kernel) (hts (.classLink RX0 159 "java/lang/IllegalStateException") (by decide +kernel)) (hts (.initialized "java/lang/IllegalStateException") (by decide +kernel)) hstr (vx_hat (B := [.castable "java/lang/IllegalStateException" "java/lang/IllegalStateException", .declares ⟨"java/lang/RuntimeException", "<init>", "(Ljava/lang/String;)V"⟩, .declares ⟨"java/lang/Exception", "<init>", "(Ljava/lang/String;)V"⟩, .declares ⟨"java/lang/Throwable", "<init>", "(Ljava/lang/String;)V"⟩]) (fun w hw => hts w (List.mem_cons_of_mem _ (List.mem_append_right _ hw))) (by decide +kernel) (vx_c (va_Nw.use rfl hZ.2.2.2.2.2.2.2.1) (vx_c (va_Nw.use rfl hZ.2.2.2.2.2.2.2.2.1) (vx_c (va_Nw.use rfl hZ.2.2.2.2.2.2.2.2.2.1) (vx_c (va_Nw.use rfl hZ.2.2.2.2.2.2.2.2.2.2) vx_n))))) (by decide +kernel) hZ.1 hZ.2.1 va_S.rf (hl.1.trans hml.symm) dX0_needState_4 dX0_needState_7 dX0_needState_8 dX0_needState_10 dX0_needState_13 (fun x h => (htab x h).elim) (Nat.le_of_ble_eq_true rfl) (Nat.le_of_ble_eq_true rfl) (Nat.le_of_ble_eq_true rfl) (Nat.le_of_ble_eq_true rfl) hlocks (fun t hvm hz hk => ⟨rfl, hz, hk⟩) (fun _ h => nomatch h) (Nat.le_of_ble_eq_true rfl) (Nat.le_of_ble_eq_true rfl)
end
section
/-! the class: the setters; by program (wip/whole/gen) -/
abbrev rmX0_setRates : Room := { frames := 2, cells := 0, slots := 0, locals := 42 }
abbrev rbX0_setRates : Room := { frames := 7, cells := 1, slots := 6, locals := 112 }
abbrev rmX0_setMargins : Room := { frames := 2, cells := 0, slots := 0, locals := 42 }
abbrev rbX0_setMargins : Room := { frames := 7, cells := 1, slots := 6, locals := 112 }
abbrev rmX0_setEqual : Room := { frames := 2, cells := 0, slots := 0, locals := 42 }
abbrev rbX0_setEqual : Room := { frames := 7, cells := 1, slots := 6, locals := 112 }
set_option maxHeartbeats 4000000 in
set_option maxRecDepth 100000 in
theorem c_X0_setRates (l : Launch) (D : va_G) (cA : ClassId) (a : Nat → Nat) (F : Nat → Nat → Int32) (g : Nat → Int32) (N : Nat) (hW : wf F N) (z0 z1 z2 : Int32) (h1 : cI z0 4) (h2 : cR z1 1 10000) (h3 : cR z2 z1 10000) : Wv l D cA (S := Unit) (wX a cA F g) (fun _ => wX a cA (fUp (fUp F 0 z0.toNatClampNeg z1) 1 z0.toNatClampNeg z2) g) yX0_setRates wsX0_setRates rmX0_setRates [.ref (a 16), .int z0, .int z1, .int z2] (fun _ => True) := by
  refine Wv.of (cc := cX0_setRates) (maxL := 4) (by decide) rfl (Nat.le_of_ble_eq_true rfl) ?_
  intro p e s m args below meth c ls A Q hx hb hts hown hml hK hP hD hA hS hl hend
  have hown : s.vm.findClass RX0 = some m.cls := hown
  have hi : ∀ w ∈ wsX00, w ∈ wsX0_setRates := by decide +kernel
  have hl : lv_has ls 4 [(0, .ref (a 16)), (1, .int z0), (2, .int z1), (3, .int z2)] := hl
  have hN : N ≤ 80 := hW.n
  have hc : F 7 0 = nI N := hW.c
  obtain ⟨hjz0, ejz0⟩ := cI_of h1 (n := 4) (rfl) (by omega)
  refine lv_iload_n hx hb dX0_setRates_0 rfl (lv_at hl 1 rfl) ?_
  refine lv_iconst (v := 4) hx hb dX0_setRates_1 (by decide) ?_
  refine Ru.callS (rest := []) ⟨hx, hb, hml, hown, hts⟩ (c_X0_needOneOf l D cA z0 4 h1.1 h1.2) (va_cwS 2 hts gX0_setRates_X0_needOneOf rfl rfl rfl (by decide +kernel) ⟨Nat.le_of_ble_eq_true rfl, Nat.le_of_ble_eq_true rfl⟩) hK noP rfl rfl hl.1 (Nat.le_of_ble_eq_true rfl) dX0_setRates_2 ⟨Nat.zero_le _, Nat.zero_le _⟩ ?_
  refine lv_iload_n hx hb dX0_setRates_5 rfl (lv_at hl 2 rfl) ?_
  refine lv_iconst (v := 1) hx hb dX0_setRates_6 (by decide) ?_
  refine lv_sipush (v := 10000) hx hb dX0_setRates_7 (by decide) ?_
  refine Ru.callS (rest := []) ⟨hx, hb, hml, hown, hts⟩ (c_X0_needRange l D cA z1 1 10000 h2.1 h2.2) (va_cwS 3 hts gX0_setRates_X0_needRange rfl rfl rfl (by decide +kernel) ⟨Nat.le_of_ble_eq_true rfl, Nat.le_of_ble_eq_true rfl⟩) hK noP rfl rfl hl.1 (Nat.le_of_ble_eq_true rfl) dX0_setRates_10 ⟨Nat.zero_le _, Nat.zero_le _⟩ ?_
  refine lv_iload_n hx hb dX0_setRates_13 rfl (lv_at hl 3 rfl) ?_
  refine lv_iload_n hx hb dX0_setRates_14 rfl (lv_at hl 2 rfl) ?_
  refine lv_sipush (v := 10000) hx hb dX0_setRates_15 (by decide) ?_
  refine Ru.callS (rest := []) ⟨hx, hb, hml, hown, hts⟩ (c_X0_needRange l D cA z2 z1 10000 h3.1 h3.2) (va_cwS 3 hts gX0_setRates_X0_needRange rfl rfl rfl (by decide +kernel) ⟨Nat.le_of_ble_eq_true rfl, Nat.le_of_ble_eq_true rfl⟩) hK noP rfl rfl hl.1 (Nat.le_of_ble_eq_true rfl) dX0_setRates_18 ⟨Nat.zero_le _, Nat.zero_le _⟩ ?_
  refine lv_aload_n hx hb dX0_setRates_21 rfl (lv_at hl 0 rfl) ?_
  refine va_get (D := D) (ci := 0) (v := .ref (a 0)) (C := RX0) (T := TX0) (N := 16) hx hb hts hi hown hK hP 0 rfl rfl 0 (by decide) (hts (.fieldLink RX0 9 "AssignmentHouse" "plainRate" "[I") (by decide +kernel)) (fun _ h9 => h9) rfl dX0_setRates_22 ?_
  refine lv_iload_n hx hb dX0_setRates_25 rfl (lv_at hl 1 rfl) ?_
  refine lv_iload_n hx hb dX0_setRates_26 rfl (lv_at hl 2 rfl) ?_
  refine put_call (k := 1) (b := a 0) (n := 4) (f := (F 0)) (x := z0) (j := z0.toNatClampNeg) (v := z1) (rest := []) ⟨hx, hb, hml, hown, hts⟩ gX0_setRates_X0_put hK hP hD hS hA rfl (ejz0) (hjz0) (by decide) hl.1 (Nat.le_of_ble_eq_true rfl) dX0_setRates_27 ⟨Nat.zero_le _, Nat.zero_le _⟩ ⟨Nat.le_of_ble_eq_true rfl, Nat.le_of_ble_eq_true rfl⟩ (fun H locs hP hD hS => ?_)
  have hP : va_P D vwCl (wX a cA (fUp F 0 z0.toNatClampNeg z1) g) H := hP
  have hD : va_D A (wX a cA (fUp F 0 z0.toNatClampNeg z1) g) := hD
  refine lv_aload_n hx hb dX0_setRates_30 rfl (lv_at hl 0 rfl) ?_
  refine va_get (D := D) (ci := 0) (v := .ref (a 1)) (C := RX0) (T := TX0) (N := 16) hx hb hts hi hown hK hP 0 rfl rfl 1 (by decide) (hts (.fieldLink RX0 13 "AssignmentHouse" "equalRate" "[I") (by decide +kernel)) (fun _ h9 => h9) rfl dX0_setRates_31 ?_
  refine lv_iload_n hx hb dX0_setRates_34 rfl (lv_at hl 1 rfl) ?_
  refine lv_iload_n hx hb dX0_setRates_35 rfl (lv_at hl 3 rfl) ?_
  refine put_call (k := 2) (b := a 1) (n := 4) (f := ((fUp F 0 z0.toNatClampNeg z1) 1)) (x := z0) (j := z0.toNatClampNeg) (v := z2) (rest := []) ⟨hx, hb, hml, hown, hts⟩ gX0_setRates_X0_put hK hP hD hS hA rfl (ejz0) (hjz0) (by decide) hl.1 (Nat.le_of_ble_eq_true rfl) dX0_setRates_36 ⟨Nat.zero_le _, Nat.zero_le _⟩ ⟨Nat.le_of_ble_eq_true rfl, Nat.le_of_ble_eq_true rfl⟩ (fun H locs hP hD hS => ?_)
  have hP : va_P D vwCl (wX a cA (fUp (fUp F 0 z0.toNatClampNeg z1) 1 z0.toNatClampNeg z2) g) H := hP
  have hD : va_D A (wX a cA (fUp (fUp F 0 z0.toNatClampNeg z1) 1 z0.toNatClampNeg z2) g) := hD
  exact hend 39 ls (()) _ _ dX0_setRates_39 hP hD hS (trivial)

set_option maxHeartbeats 4000000 in
set_option maxRecDepth 100000 in
theorem b_X0_setRates (l : Launch) (D : va_G) (cA : ClassId) (hl9 : l.stackTraces = false) (a : Nat → Nat) (F : Nat → Nat → Int32) (g : Nat → Int32) (N : Nat) (hW : wf F N) (z0 z1 z2 : Int32) (hk : kRates z0 z1 z2 ≠ 0) : Bx l D cA (wX a cA F g) yX0_setRates wsX0_setRates rbX0_setRates [.ref (a 16), .int z0, .int z1, .int z2] (exN (kRates z0 z1 z2) eI eA eS) := by
  refine Bx.of (cc := cX0_setRates) (maxL := 4) (ret := none) (by decide) rfl (Nat.le_of_ble_eq_true rfl) ?_
  intro p e s m args below meth c ls hx hb hts hown hml hK hP hl htab hlocks hZ
  have hown : s.vm.findClass RX0 = some m.cls := hown
  have hi : ∀ w ∈ wsX00, w ∈ wsX0_setRates := by decide +kernel
  have hl : lv_has ls 4 [(0, .ref (a 16)), (1, .int z0), (2, .int z1), (3, .int z2)] := hl
  have hN : N ≤ 80 := hW.n
  have hc : F 7 0 = nI N := hW.c
  refine lv_iload_n hx hb dX0_setRates_0 rfl (lv_at hl 1 rfl) ?_
  refine lv_iconst (v := 4) hx hb dX0_setRates_1 (by decide) ?_
  refine (Classical.em (cI z0 4)).elim (fun h1 => ?_) (fun h1 => ?_)
  rotate_left
  rw [show exN (kRates z0 z1 z2) eI eA eS = eI from by rw [kRates, if_neg h1]; rfl]
  exact Bx.thruS (rest := []) ⟨hx, hb, hml, hown, hts⟩ htab hlocks (b_X0_needOneOf l D cA hl9 z0 4 (cI_n h1)) (va_cwS 2 hts gX0_setRates_X0_needOneOf rfl rfl rfl (by decide +kernel) ⟨Nat.le_of_ble_eq_true rfl, Nat.le_of_ble_eq_true rfl⟩) hK noP hZ rfl rfl hl.1 (Nat.le_of_ble_eq_true rfl) dX0_setRates_2 ⟨Nat.le_of_ble_eq_true rfl, Nat.le_of_ble_eq_true rfl⟩
  refine Ru.callS (rest := []) ⟨hx, hb, hml, hown, hts⟩ (c_X0_needOneOf l D cA z0 4 h1.1 h1.2) (va_cwS 2 hts gX0_setRates_X0_needOneOf rfl rfl rfl (by decide +kernel) ⟨Nat.le_of_ble_eq_true rfl, Nat.le_of_ble_eq_true rfl⟩) hK noP rfl rfl hl.1 (Nat.le_of_ble_eq_true rfl) dX0_setRates_2 ⟨Nat.zero_le _, Nat.zero_le _⟩ ?_
  refine lv_iload_n hx hb dX0_setRates_5 rfl (lv_at hl 2 rfl) ?_
  refine lv_iconst (v := 1) hx hb dX0_setRates_6 (by decide) ?_
  refine lv_sipush (v := 10000) hx hb dX0_setRates_7 (by decide) ?_
  refine (Classical.em (cR z1 1 10000)).elim (fun h2 => ?_) (fun h2 => ?_)
  rotate_left
  rw [show exN (kRates z0 z1 z2) eI eA eS = eA from by rw [kRates, if_pos h1, if_neg h2]; rfl]
  exact Bx.thruS (rest := []) ⟨hx, hb, hml, hown, hts⟩ htab hlocks (b_X0_needRange l D cA hl9 z1 1 10000 (cR_n h2)) (va_cwS 3 hts gX0_setRates_X0_needRange rfl rfl rfl (by decide +kernel) ⟨Nat.le_of_ble_eq_true rfl, Nat.le_of_ble_eq_true rfl⟩) hK noP hZ rfl rfl hl.1 (Nat.le_of_ble_eq_true rfl) dX0_setRates_10 ⟨Nat.le_of_ble_eq_true rfl, Nat.le_of_ble_eq_true rfl⟩
  refine Ru.callS (rest := []) ⟨hx, hb, hml, hown, hts⟩ (c_X0_needRange l D cA z1 1 10000 h2.1 h2.2) (va_cwS 3 hts gX0_setRates_X0_needRange rfl rfl rfl (by decide +kernel) ⟨Nat.le_of_ble_eq_true rfl, Nat.le_of_ble_eq_true rfl⟩) hK noP rfl rfl hl.1 (Nat.le_of_ble_eq_true rfl) dX0_setRates_10 ⟨Nat.zero_le _, Nat.zero_le _⟩ ?_
  refine lv_iload_n hx hb dX0_setRates_13 rfl (lv_at hl 3 rfl) ?_
  refine lv_iload_n hx hb dX0_setRates_14 rfl (lv_at hl 2 rfl) ?_
  refine lv_sipush (v := 10000) hx hb dX0_setRates_15 (by decide) ?_
  refine (Classical.em (cR z2 z1 10000)).elim (fun h3 => ?_) (fun h3 => ?_)
  rotate_left
  rw [show exN (kRates z0 z1 z2) eI eA eS = eA from by rw [kRates, if_pos h1, if_pos h2, if_neg h3]; rfl]
  exact Bx.thruS (rest := []) ⟨hx, hb, hml, hown, hts⟩ htab hlocks (b_X0_needRange l D cA hl9 z2 z1 10000 (cR_n h3)) (va_cwS 3 hts gX0_setRates_X0_needRange rfl rfl rfl (by decide +kernel) ⟨Nat.le_of_ble_eq_true rfl, Nat.le_of_ble_eq_true rfl⟩) hK noP hZ rfl rfl hl.1 (Nat.le_of_ble_eq_true rfl) dX0_setRates_18 ⟨Nat.le_of_ble_eq_true rfl, Nat.le_of_ble_eq_true rfl⟩
  exact absurd (by rw [kRates, if_pos h1, if_pos h2, if_pos h3]) hk

set_option maxHeartbeats 4000000 in
set_option maxRecDepth 100000 in
theorem c_X0_setMargins (l : Launch) (D : va_G) (cA : ClassId) (a : Nat → Nat) (F : Nat → Nat → Int32) (g : Nat → Int32) (N : Nat) (hW : wf F N) (z0 z1 z2 z3 : Int32) (h1 : cI z0 4) (h2 : cR z1 0 100) (h3 : cR z2 0 z1) (h4 : cR z3 1 1000) : Wv l D cA (S := Unit) (wX a cA F g) (fun _ => wX a cA (fMargins F z0.toNatClampNeg z1 z2 z3) g) yX0_setMargins wsX0_setMargins rmX0_setMargins [.ref (a 16), .int z0, .int z1, .int z2, .int z3] (fun _ => True) := by
  refine Wv.of (cc := cX0_setMargins) (maxL := 5) (by decide) rfl (Nat.le_of_ble_eq_true rfl) ?_
  intro p e s m args below meth c ls A Q hx hb hts hown hml hK hP hD hA hS hl hend
  have hown : s.vm.findClass RX0 = some m.cls := hown
  have hi : ∀ w ∈ wsX00, w ∈ wsX0_setMargins := by decide +kernel
  have hl : lv_has ls 5 [(0, .ref (a 16)), (1, .int z0), (2, .int z1), (3, .int z2), (4, .int z3)] := hl
  have hN : N ≤ 80 := hW.n
  have hc : F 7 0 = nI N := hW.c
  obtain ⟨hjz0, ejz0⟩ := cI_of h1 (n := 4) (rfl) (by omega)
  refine lv_iload_n hx hb dX0_setMargins_0 rfl (lv_at hl 1 rfl) ?_
  refine lv_iconst (v := 4) hx hb dX0_setMargins_1 (by decide) ?_
  refine Ru.callS (rest := []) ⟨hx, hb, hml, hown, hts⟩ (c_X0_needOneOf l D cA z0 4 h1.1 h1.2) (va_cwS 2 hts gX0_setMargins_X0_needOneOf rfl rfl rfl (by decide +kernel) ⟨Nat.le_of_ble_eq_true rfl, Nat.le_of_ble_eq_true rfl⟩) hK noP rfl rfl hl.1 (Nat.le_of_ble_eq_true rfl) dX0_setMargins_2 ⟨Nat.zero_le _, Nat.zero_le _⟩ ?_
  refine lv_iload_n hx hb dX0_setMargins_5 rfl (lv_at hl 2 rfl) ?_
  refine lv_iconst (v := 0) hx hb dX0_setMargins_6 (by decide) ?_
  refine lv_bipush (v := 100) hx hb dX0_setMargins_7 (by decide) ?_
  refine Ru.callS (rest := []) ⟨hx, hb, hml, hown, hts⟩ (c_X0_needRange l D cA z1 0 100 h2.1 h2.2) (va_cwS 3 hts gX0_setMargins_X0_needRange rfl rfl rfl (by decide +kernel) ⟨Nat.le_of_ble_eq_true rfl, Nat.le_of_ble_eq_true rfl⟩) hK noP rfl rfl hl.1 (Nat.le_of_ble_eq_true rfl) dX0_setMargins_9 ⟨Nat.zero_le _, Nat.zero_le _⟩ ?_
  refine lv_iload_n hx hb dX0_setMargins_12 rfl (lv_at hl 3 rfl) ?_
  refine lv_iconst (v := 0) hx hb dX0_setMargins_13 (by decide) ?_
  refine lv_iload_n hx hb dX0_setMargins_14 rfl (lv_at hl 2 rfl) ?_
  refine Ru.callS (rest := []) ⟨hx, hb, hml, hown, hts⟩ (c_X0_needRange l D cA z2 0 z1 h3.1 h3.2) (va_cwS 3 hts gX0_setMargins_X0_needRange rfl rfl rfl (by decide +kernel) ⟨Nat.le_of_ble_eq_true rfl, Nat.le_of_ble_eq_true rfl⟩) hK noP rfl rfl hl.1 (Nat.le_of_ble_eq_true rfl) dX0_setMargins_15 ⟨Nat.zero_le _, Nat.zero_le _⟩ ?_
  refine lv_iload hx hb dX0_setMargins_18 (lv_at hl 4 rfl) ?_
  refine lv_iconst (v := 1) hx hb dX0_setMargins_20 (by decide) ?_
  refine lv_sipush (v := 1000) hx hb dX0_setMargins_21 (by decide) ?_
  refine Ru.callS (rest := []) ⟨hx, hb, hml, hown, hts⟩ (c_X0_needRange l D cA z3 1 1000 h4.1 h4.2) (va_cwS 3 hts gX0_setMargins_X0_needRange rfl rfl rfl (by decide +kernel) ⟨Nat.le_of_ble_eq_true rfl, Nat.le_of_ble_eq_true rfl⟩) hK noP rfl rfl hl.1 (Nat.le_of_ble_eq_true rfl) dX0_setMargins_24 ⟨Nat.zero_le _, Nat.zero_le _⟩ ?_
  refine lv_aload_n hx hb dX0_setMargins_27 rfl (lv_at hl 0 rfl) ?_
  refine va_get (D := D) (ci := 0) (v := .ref (a 2)) (C := RX0) (T := TX0) (N := 16) hx hb hts hi hown hK hP 0 rfl rfl 2 (by decide) (hts (.fieldLink RX0 16 "AssignmentHouse" "highMargin" "[I") (by decide +kernel)) (fun _ h9 => h9) rfl dX0_setMargins_28 ?_
  refine lv_iload_n hx hb dX0_setMargins_31 rfl (lv_at hl 1 rfl) ?_
  refine lv_iload_n hx hb dX0_setMargins_32 rfl (lv_at hl 2 rfl) ?_
  refine put_call (k := 3) (b := a 2) (n := 4) (f := (F 2)) (x := z0) (j := z0.toNatClampNeg) (v := z1) (rest := []) ⟨hx, hb, hml, hown, hts⟩ gX0_setMargins_X0_put hK hP hD hS hA rfl (ejz0) (hjz0) (by decide) hl.1 (Nat.le_of_ble_eq_true rfl) dX0_setMargins_33 ⟨Nat.zero_le _, Nat.zero_le _⟩ ⟨Nat.le_of_ble_eq_true rfl, Nat.le_of_ble_eq_true rfl⟩ (fun H locs hP hD hS => ?_)
  have hP : va_P D vwCl (wX a cA (fUp F 2 z0.toNatClampNeg z1) g) H := hP
  have hD : va_D A (wX a cA (fUp F 2 z0.toNatClampNeg z1) g) := hD
  refine lv_aload_n hx hb dX0_setMargins_36 rfl (lv_at hl 0 rfl) ?_
  refine va_get (D := D) (ci := 0) (v := .ref (a 3)) (C := RX0) (T := TX0) (N := 16) hx hb hts hi hown hK hP 0 rfl rfl 3 (by decide) (hts (.fieldLink RX0 19 "AssignmentHouse" "lowMargin" "[I") (by decide +kernel)) (fun _ h9 => h9) rfl dX0_setMargins_37 ?_
  refine lv_iload_n hx hb dX0_setMargins_40 rfl (lv_at hl 1 rfl) ?_
  refine lv_iload_n hx hb dX0_setMargins_41 rfl (lv_at hl 3 rfl) ?_
  refine put_call (k := 4) (b := a 3) (n := 4) (f := ((fUp F 2 z0.toNatClampNeg z1) 3)) (x := z0) (j := z0.toNatClampNeg) (v := z2) (rest := []) ⟨hx, hb, hml, hown, hts⟩ gX0_setMargins_X0_put hK hP hD hS hA rfl (ejz0) (hjz0) (by decide) hl.1 (Nat.le_of_ble_eq_true rfl) dX0_setMargins_42 ⟨Nat.zero_le _, Nat.zero_le _⟩ ⟨Nat.le_of_ble_eq_true rfl, Nat.le_of_ble_eq_true rfl⟩ (fun H locs hP hD hS => ?_)
  have hP : va_P D vwCl (wX a cA (fUp (fUp F 2 z0.toNatClampNeg z1) 3 z0.toNatClampNeg z2) g) H := hP
  have hD : va_D A (wX a cA (fUp (fUp F 2 z0.toNatClampNeg z1) 3 z0.toNatClampNeg z2) g) := hD
  refine lv_aload_n hx hb dX0_setMargins_45 rfl (lv_at hl 0 rfl) ?_
  refine va_get (D := D) (ci := 0) (v := .ref (a 4)) (C := RX0) (T := TX0) (N := 16) hx hb hts hi hown hK hP 0 rfl rfl 4 (by decide) (hts (.fieldLink RX0 22 "AssignmentHouse" "lowVolume" "[I") (by decide +kernel)) (fun _ h9 => h9) rfl dX0_setMargins_46 ?_
  refine lv_iload_n hx hb dX0_setMargins_49 rfl (lv_at hl 1 rfl) ?_
  refine lv_iload hx hb dX0_setMargins_50 (lv_at hl 4 rfl) ?_
  refine put_call (k := 5) (b := a 4) (n := 4) (f := ((fUp (fUp F 2 z0.toNatClampNeg z1) 3 z0.toNatClampNeg z2) 4)) (x := z0) (j := z0.toNatClampNeg) (v := z3) (rest := []) ⟨hx, hb, hml, hown, hts⟩ gX0_setMargins_X0_put hK hP hD hS hA rfl (ejz0) (hjz0) (by decide) hl.1 (Nat.le_of_ble_eq_true rfl) dX0_setMargins_52 ⟨Nat.zero_le _, Nat.zero_le _⟩ ⟨Nat.le_of_ble_eq_true rfl, Nat.le_of_ble_eq_true rfl⟩ (fun H locs hP hD hS => ?_)
  have hP : va_P D vwCl (wX a cA (fUp (fUp (fUp F 2 z0.toNatClampNeg z1) 3 z0.toNatClampNeg z2) 4 z0.toNatClampNeg z3) g) H := hP
  have hD : va_D A (wX a cA (fUp (fUp (fUp F 2 z0.toNatClampNeg z1) 3 z0.toNatClampNeg z2) 4 z0.toNatClampNeg z3) g) := hD
  exact hend 55 ls (()) _ _ dX0_setMargins_55 hP hD hS (trivial)

set_option maxHeartbeats 4000000 in
set_option maxRecDepth 100000 in
theorem b_X0_setMargins (l : Launch) (D : va_G) (cA : ClassId) (hl9 : l.stackTraces = false) (a : Nat → Nat) (F : Nat → Nat → Int32) (g : Nat → Int32) (N : Nat) (hW : wf F N) (z0 z1 z2 z3 : Int32) (hk : kMargins z0 z1 z2 z3 ≠ 0) : Bx l D cA (wX a cA F g) yX0_setMargins wsX0_setMargins rbX0_setMargins [.ref (a 16), .int z0, .int z1, .int z2, .int z3] (exN (kMargins z0 z1 z2 z3) eI eA eS) := by
  refine Bx.of (cc := cX0_setMargins) (maxL := 5) (ret := none) (by decide) rfl (Nat.le_of_ble_eq_true rfl) ?_
  intro p e s m args below meth c ls hx hb hts hown hml hK hP hl htab hlocks hZ
  have hown : s.vm.findClass RX0 = some m.cls := hown
  have hi : ∀ w ∈ wsX00, w ∈ wsX0_setMargins := by decide +kernel
  have hl : lv_has ls 5 [(0, .ref (a 16)), (1, .int z0), (2, .int z1), (3, .int z2), (4, .int z3)] := hl
  have hN : N ≤ 80 := hW.n
  have hc : F 7 0 = nI N := hW.c
  refine lv_iload_n hx hb dX0_setMargins_0 rfl (lv_at hl 1 rfl) ?_
  refine lv_iconst (v := 4) hx hb dX0_setMargins_1 (by decide) ?_
  refine (Classical.em (cI z0 4)).elim (fun h1 => ?_) (fun h1 => ?_)
  rotate_left
  rw [show exN (kMargins z0 z1 z2 z3) eI eA eS = eI from by rw [kMargins, if_neg h1]; rfl]
  exact Bx.thruS (rest := []) ⟨hx, hb, hml, hown, hts⟩ htab hlocks (b_X0_needOneOf l D cA hl9 z0 4 (cI_n h1)) (va_cwS 2 hts gX0_setMargins_X0_needOneOf rfl rfl rfl (by decide +kernel) ⟨Nat.le_of_ble_eq_true rfl, Nat.le_of_ble_eq_true rfl⟩) hK noP hZ rfl rfl hl.1 (Nat.le_of_ble_eq_true rfl) dX0_setMargins_2 ⟨Nat.le_of_ble_eq_true rfl, Nat.le_of_ble_eq_true rfl⟩
  refine Ru.callS (rest := []) ⟨hx, hb, hml, hown, hts⟩ (c_X0_needOneOf l D cA z0 4 h1.1 h1.2) (va_cwS 2 hts gX0_setMargins_X0_needOneOf rfl rfl rfl (by decide +kernel) ⟨Nat.le_of_ble_eq_true rfl, Nat.le_of_ble_eq_true rfl⟩) hK noP rfl rfl hl.1 (Nat.le_of_ble_eq_true rfl) dX0_setMargins_2 ⟨Nat.zero_le _, Nat.zero_le _⟩ ?_
  refine lv_iload_n hx hb dX0_setMargins_5 rfl (lv_at hl 2 rfl) ?_
  refine lv_iconst (v := 0) hx hb dX0_setMargins_6 (by decide) ?_
  refine lv_bipush (v := 100) hx hb dX0_setMargins_7 (by decide) ?_
  refine (Classical.em (cR z1 0 100)).elim (fun h2 => ?_) (fun h2 => ?_)
  rotate_left
  rw [show exN (kMargins z0 z1 z2 z3) eI eA eS = eA from by rw [kMargins, if_pos h1, if_neg h2]; rfl]
  exact Bx.thruS (rest := []) ⟨hx, hb, hml, hown, hts⟩ htab hlocks (b_X0_needRange l D cA hl9 z1 0 100 (cR_n h2)) (va_cwS 3 hts gX0_setMargins_X0_needRange rfl rfl rfl (by decide +kernel) ⟨Nat.le_of_ble_eq_true rfl, Nat.le_of_ble_eq_true rfl⟩) hK noP hZ rfl rfl hl.1 (Nat.le_of_ble_eq_true rfl) dX0_setMargins_9 ⟨Nat.le_of_ble_eq_true rfl, Nat.le_of_ble_eq_true rfl⟩
  refine Ru.callS (rest := []) ⟨hx, hb, hml, hown, hts⟩ (c_X0_needRange l D cA z1 0 100 h2.1 h2.2) (va_cwS 3 hts gX0_setMargins_X0_needRange rfl rfl rfl (by decide +kernel) ⟨Nat.le_of_ble_eq_true rfl, Nat.le_of_ble_eq_true rfl⟩) hK noP rfl rfl hl.1 (Nat.le_of_ble_eq_true rfl) dX0_setMargins_9 ⟨Nat.zero_le _, Nat.zero_le _⟩ ?_
  refine lv_iload_n hx hb dX0_setMargins_12 rfl (lv_at hl 3 rfl) ?_
  refine lv_iconst (v := 0) hx hb dX0_setMargins_13 (by decide) ?_
  refine lv_iload_n hx hb dX0_setMargins_14 rfl (lv_at hl 2 rfl) ?_
  refine (Classical.em (cR z2 0 z1)).elim (fun h3 => ?_) (fun h3 => ?_)
  rotate_left
  rw [show exN (kMargins z0 z1 z2 z3) eI eA eS = eA from by rw [kMargins, if_pos h1, if_pos h2, if_neg h3]; rfl]
  exact Bx.thruS (rest := []) ⟨hx, hb, hml, hown, hts⟩ htab hlocks (b_X0_needRange l D cA hl9 z2 0 z1 (cR_n h3)) (va_cwS 3 hts gX0_setMargins_X0_needRange rfl rfl rfl (by decide +kernel) ⟨Nat.le_of_ble_eq_true rfl, Nat.le_of_ble_eq_true rfl⟩) hK noP hZ rfl rfl hl.1 (Nat.le_of_ble_eq_true rfl) dX0_setMargins_15 ⟨Nat.le_of_ble_eq_true rfl, Nat.le_of_ble_eq_true rfl⟩
  refine Ru.callS (rest := []) ⟨hx, hb, hml, hown, hts⟩ (c_X0_needRange l D cA z2 0 z1 h3.1 h3.2) (va_cwS 3 hts gX0_setMargins_X0_needRange rfl rfl rfl (by decide +kernel) ⟨Nat.le_of_ble_eq_true rfl, Nat.le_of_ble_eq_true rfl⟩) hK noP rfl rfl hl.1 (Nat.le_of_ble_eq_true rfl) dX0_setMargins_15 ⟨Nat.zero_le _, Nat.zero_le _⟩ ?_
  refine lv_iload hx hb dX0_setMargins_18 (lv_at hl 4 rfl) ?_
  refine lv_iconst (v := 1) hx hb dX0_setMargins_20 (by decide) ?_
  refine lv_sipush (v := 1000) hx hb dX0_setMargins_21 (by decide) ?_
  refine (Classical.em (cR z3 1 1000)).elim (fun h4 => ?_) (fun h4 => ?_)
  rotate_left
  rw [show exN (kMargins z0 z1 z2 z3) eI eA eS = eA from by rw [kMargins, if_pos h1, if_pos h2, if_pos h3, if_neg h4]; rfl]
  exact Bx.thruS (rest := []) ⟨hx, hb, hml, hown, hts⟩ htab hlocks (b_X0_needRange l D cA hl9 z3 1 1000 (cR_n h4)) (va_cwS 3 hts gX0_setMargins_X0_needRange rfl rfl rfl (by decide +kernel) ⟨Nat.le_of_ble_eq_true rfl, Nat.le_of_ble_eq_true rfl⟩) hK noP hZ rfl rfl hl.1 (Nat.le_of_ble_eq_true rfl) dX0_setMargins_24 ⟨Nat.le_of_ble_eq_true rfl, Nat.le_of_ble_eq_true rfl⟩
  exact absurd (by rw [kMargins, if_pos h1, if_pos h2, if_pos h3, if_pos h4]) hk

set_option maxHeartbeats 4000000 in
set_option maxRecDepth 100000 in
theorem c_X0_setEqual (l : Launch) (D : va_G) (cA : ClassId) (a : Nat → Nat) (F : Nat → Nat → Int32) (g : Nat → Int32) (N : Nat) (hW : wf F N) (z0 z1 : Int32) (h1 : cR z0 1 12) (h2 : cR z1 0 6) : Wv l D cA (S := Unit) (wX a cA F g) (fun _ => wX a cA (fUp (fUp F 5 0 z0) 6 0 z1) g) yX0_setEqual wsX0_setEqual rmX0_setEqual [.ref (a 16), .int z0, .int z1] (fun _ => True) := by
  refine Wv.of (cc := cX0_setEqual) (maxL := 3) (by decide) rfl (Nat.le_of_ble_eq_true rfl) ?_
  intro p e s m args below meth c ls A Q hx hb hts hown hml hK hP hD hA hS hl hend
  have hown : s.vm.findClass RX0 = some m.cls := hown
  have hi : ∀ w ∈ wsX00, w ∈ wsX0_setEqual := by decide +kernel
  have hl : lv_has ls 3 [(0, .ref (a 16)), (1, .int z0), (2, .int z1)] := hl
  have hN : N ≤ 80 := hW.n
  have hc : F 7 0 = nI N := hW.c
  refine lv_iload_n hx hb dX0_setEqual_0 rfl (lv_at hl 1 rfl) ?_
  refine lv_iconst (v := 1) hx hb dX0_setEqual_1 (by decide) ?_
  refine lv_bipush (v := 12) hx hb dX0_setEqual_2 (by decide) ?_
  refine Ru.callS (rest := []) ⟨hx, hb, hml, hown, hts⟩ (c_X0_needRange l D cA z0 1 12 h1.1 h1.2) (va_cwS 3 hts gX0_setEqual_X0_needRange rfl rfl rfl (by decide +kernel) ⟨Nat.le_of_ble_eq_true rfl, Nat.le_of_ble_eq_true rfl⟩) hK noP rfl rfl hl.1 (Nat.le_of_ble_eq_true rfl) dX0_setEqual_4 ⟨Nat.zero_le _, Nat.zero_le _⟩ ?_
  refine lv_iload_n hx hb dX0_setEqual_7 rfl (lv_at hl 2 rfl) ?_
  refine lv_iconst (v := 0) hx hb dX0_setEqual_8 (by decide) ?_
  refine lv_bipush (v := 6) hx hb dX0_setEqual_9 (by decide) ?_
  refine Ru.callS (rest := []) ⟨hx, hb, hml, hown, hts⟩ (c_X0_needRange l D cA z1 0 6 h2.1 h2.2) (va_cwS 3 hts gX0_setEqual_X0_needRange rfl rfl rfl (by decide +kernel) ⟨Nat.le_of_ble_eq_true rfl, Nat.le_of_ble_eq_true rfl⟩) hK noP rfl rfl hl.1 (Nat.le_of_ble_eq_true rfl) dX0_setEqual_11 ⟨Nat.zero_le _, Nat.zero_le _⟩ ?_
  refine lv_aload_n hx hb dX0_setEqual_14 rfl (lv_at hl 0 rfl) ?_
  refine lv_iload_n hx hb dX0_setEqual_15 rfl (lv_at hl 1 rfl) ?_
  refine va_put (D := D) (ci := 0) (v := .int z0) (ty := .int) (C := RX0) (T := TX0) (N := 16) hx hb hts hi tyX0 tyX0_ok nmX0 hown hK hP hD hS 0 rfl rfl 5 (by decide) (hts (.fieldLink RX0 25 "AssignmentHouse" "equalSpan" "I") (by decide +kernel)) (fun _ h9 => h9) rfl (by decide +kernel) rfl rfl (Nat.le_of_ble_eq_true rfl) dX0_setEqual_16 (fun H locs hP hD hS => ?_)
  have hP : va_P D vwCl (wX a cA (fUp F 5 0 z0) g) H := hP
  have hD : va_D A (wX a cA (fUp F 5 0 z0) g) := hD
  refine lv_aload_n hx hb dX0_setEqual_19 rfl (lv_at hl 0 rfl) ?_
  refine lv_iload_n hx hb dX0_setEqual_20 rfl (lv_at hl 2 rfl) ?_
  refine va_put (D := D) (ci := 0) (v := .int z1) (ty := .int) (C := RX0) (T := TX0) (N := 16) hx hb hts hi tyX0 tyX0_ok nmX0 hown hK hP hD hS 0 rfl rfl 6 (by decide) (hts (.fieldLink RX0 29 "AssignmentHouse" "equalGap" "I") (by decide +kernel)) (fun _ h9 => h9) rfl (by decide +kernel) rfl rfl (Nat.le_of_ble_eq_true rfl) dX0_setEqual_21 (fun H locs hP hD hS => ?_)
  have hP : va_P D vwCl (wX a cA (fUp (fUp F 5 0 z0) 6 0 z1) g) H := hP
  have hD : va_D A (wX a cA (fUp (fUp F 5 0 z0) 6 0 z1) g) := hD
  exact hend 24 ls (()) _ _ dX0_setEqual_24 hP hD hS (trivial)

set_option maxHeartbeats 4000000 in
set_option maxRecDepth 100000 in
theorem b_X0_setEqual (l : Launch) (D : va_G) (cA : ClassId) (hl9 : l.stackTraces = false) (a : Nat → Nat) (F : Nat → Nat → Int32) (g : Nat → Int32) (N : Nat) (hW : wf F N) (z0 z1 : Int32) (hk : kEqual z0 z1 ≠ 0) : Bx l D cA (wX a cA F g) yX0_setEqual wsX0_setEqual rbX0_setEqual [.ref (a 16), .int z0, .int z1] (exN (kEqual z0 z1) eA eA eA) := by
  refine Bx.of (cc := cX0_setEqual) (maxL := 3) (ret := none) (by decide) rfl (Nat.le_of_ble_eq_true rfl) ?_
  intro p e s m args below meth c ls hx hb hts hown hml hK hP hl htab hlocks hZ
  have hown : s.vm.findClass RX0 = some m.cls := hown
  have hi : ∀ w ∈ wsX00, w ∈ wsX0_setEqual := by decide +kernel
  have hl : lv_has ls 3 [(0, .ref (a 16)), (1, .int z0), (2, .int z1)] := hl
  have hN : N ≤ 80 := hW.n
  have hc : F 7 0 = nI N := hW.c
  refine lv_iload_n hx hb dX0_setEqual_0 rfl (lv_at hl 1 rfl) ?_
  refine lv_iconst (v := 1) hx hb dX0_setEqual_1 (by decide) ?_
  refine lv_bipush (v := 12) hx hb dX0_setEqual_2 (by decide) ?_
  refine (Classical.em (cR z0 1 12)).elim (fun h1 => ?_) (fun h1 => ?_)
  rotate_left
  rw [show exN (kEqual z0 z1) eA eA eA = eA from by rw [kEqual, if_neg h1]; rfl]
  exact Bx.thruS (rest := []) ⟨hx, hb, hml, hown, hts⟩ htab hlocks (b_X0_needRange l D cA hl9 z0 1 12 (cR_n h1)) (va_cwS 3 hts gX0_setEqual_X0_needRange rfl rfl rfl (by decide +kernel) ⟨Nat.le_of_ble_eq_true rfl, Nat.le_of_ble_eq_true rfl⟩) hK noP hZ rfl rfl hl.1 (Nat.le_of_ble_eq_true rfl) dX0_setEqual_4 ⟨Nat.le_of_ble_eq_true rfl, Nat.le_of_ble_eq_true rfl⟩
  refine Ru.callS (rest := []) ⟨hx, hb, hml, hown, hts⟩ (c_X0_needRange l D cA z0 1 12 h1.1 h1.2) (va_cwS 3 hts gX0_setEqual_X0_needRange rfl rfl rfl (by decide +kernel) ⟨Nat.le_of_ble_eq_true rfl, Nat.le_of_ble_eq_true rfl⟩) hK noP rfl rfl hl.1 (Nat.le_of_ble_eq_true rfl) dX0_setEqual_4 ⟨Nat.zero_le _, Nat.zero_le _⟩ ?_
  refine lv_iload_n hx hb dX0_setEqual_7 rfl (lv_at hl 2 rfl) ?_
  refine lv_iconst (v := 0) hx hb dX0_setEqual_8 (by decide) ?_
  refine lv_bipush (v := 6) hx hb dX0_setEqual_9 (by decide) ?_
  refine (Classical.em (cR z1 0 6)).elim (fun h2 => ?_) (fun h2 => ?_)
  rotate_left
  rw [show exN (kEqual z0 z1) eA eA eA = eA from by rw [kEqual, if_pos h1, if_neg h2]; rfl]
  exact Bx.thruS (rest := []) ⟨hx, hb, hml, hown, hts⟩ htab hlocks (b_X0_needRange l D cA hl9 z1 0 6 (cR_n h2)) (va_cwS 3 hts gX0_setEqual_X0_needRange rfl rfl rfl (by decide +kernel) ⟨Nat.le_of_ble_eq_true rfl, Nat.le_of_ble_eq_true rfl⟩) hK noP hZ rfl rfl hl.1 (Nat.le_of_ble_eq_true rfl) dX0_setEqual_11 ⟨Nat.le_of_ble_eq_true rfl, Nat.le_of_ble_eq_true rfl⟩
  exact absurd (by rw [kEqual, if_pos h1, if_pos h2]) hk
end
section
/-! the class: its other public methods; by program (wip/whole/gen) -/
abbrev rmX0_shift : Room := { frames := 2, cells := 0, slots := 0, locals := 45 }
abbrev rbX0_shift : Room := { frames := 7, cells := 1, slots := 6, locals := 112 }
abbrev rmX0_correct : Room := { frames := 2, cells := 0, slots := 0, locals := 45 }
abbrev rbX0_correct : Room := { frames := 7, cells := 1, slots := 6, locals := 112 }
abbrev rmX0_takeHoliday : Room := { frames := 2, cells := 0, slots := 0, locals := 44 }
abbrev rbX0_takeHoliday : Room := { frames := 7, cells := 1, slots := 6, locals := 112 }
abbrev rmX0_holiday : Room := { frames := 2, cells := 0, slots := 0, locals := 44 }
abbrev rbX0_holiday : Room := { frames := 7, cells := 1, slots := 6, locals := 111 }
abbrev rmX0_hours : Room := { frames := 2, cells := 0, slots := 0, locals := 44 }
abbrev rbX0_hours : Room := { frames := 7, cells := 1, slots := 6, locals := 111 }
abbrev rmX0_paid : Room := { frames := 2, cells := 0, slots := 0, locals := 41 }
abbrev rbX0_paid : Room := { frames := 7, cells := 1, slots := 6, locals := 111 }
abbrev rmX0_billed : Room := { frames := 2, cells := 0, slots := 0, locals := 41 }
abbrev rbX0_billed : Room := { frames := 7, cells := 1, slots := 6, locals := 111 }
abbrev rmX0_pay : Room := { frames := 6, cells := 0, slots := 0, locals := 145 }
abbrev rbX0_pay : Room := { frames := 7, cells := 1, slots := 6, locals := 145 }
abbrev rmX0_owing : Room := { frames := 6, cells := 0, slots := 0, locals := 145 }
abbrev rbX0_owing : Room := { frames := 7, cells := 1, slots := 6, locals := 145 }
abbrev rmX0_toBill : Room := { frames := 6, cells := 0, slots := 0, locals := 146 }
abbrev rbX0_toBill : Room := { frames := 7, cells := 1, slots := 6, locals := 146 }
abbrev rmX0_hasEqual : Room := { frames := 3, cells := 0, slots := 0, locals := 72 }
abbrev rbX0_hasEqual : Room := { frames := 7, cells := 1, slots := 6, locals := 111 }
abbrev rmX0_overtime : Room := { frames := 4, cells := 0, slots := 0, locals := 97 }
abbrev rbX0_overtime : Room := { frames := 7, cells := 1, slots := 6, locals := 111 }
abbrev rmX0_payOf : Room := { frames := 5, cells := 0, slots := 0, locals := 121 }
abbrev rbX0_payOf : Room := { frames := 7, cells := 1, slots := 6, locals := 121 }
abbrev rmX0_chargeOf : Room := { frames := 5, cells := 0, slots := 0, locals := 121 }
abbrev rbX0_chargeOf : Room := { frames := 7, cells := 1, slots := 6, locals := 121 }
abbrev rmX0_run : Room := { frames := 6, cells := 0, slots := 0, locals := 146 }
abbrev rbX0_run : Room := { frames := 7, cells := 1, slots := 6, locals := 146 }
set_option maxHeartbeats 4000000 in
set_option maxRecDepth 100000 in
theorem c_X0_shift (l : Launch) (D : va_G) (cA : ClassId) (a : Nat → Nat) (F : Nat → Nat → Int32) (g : Nat → Int32) (N : Nat) (hW : wf F N) (z0 z1 z2 z3 : Int32) (h1 : cI z0 6) (h2 : cI z1 4) (h3 : cR z2 0 139) (h4 : cR z3 1 16) (h5 : F 7 0 < 80) (h6 : ps (tOn F z0 z2) N + z3 ≤ 24) : Wi l D cA (S := Unit) (wX a cA F g) (fun _ => wX a cA (fShift F N z0 z1 z2 z3) g) yX0_shift wsX0_shift rmX0_shift [.ref (a 16), .int z0, .int z1, .int z2, .int z3] (fun r _ => r = F 7 0) := by
  refine Wi.of (cc := cX0_shift) (maxL := 6) (by decide) rfl (Nat.le_of_ble_eq_true rfl) ?_
  intro p e s m args below meth c ls A Q hx hb hts hown hml hK hP hD hA hS hl hend
  have hown : s.vm.findClass RX0 = some m.cls := hown
  have hi : ∀ w ∈ wsX00, w ∈ wsX0_shift := by decide +kernel
  have hl : lv_has ls 6 [(0, .ref (a 16)), (1, .int z0), (2, .int z1), (3, .int z2), (4, .int z3)] := hl
  have hN : N ≤ 80 := hW.n
  have hc : F 7 0 = nI N := hW.c
  have hN80 : N < 80 := (nI_ltI (by omega) (by omega)).mp (by rw [← hc]; exact h5)
  refine lv_iload_n hx hb dX0_shift_0 rfl (lv_at hl 1 rfl) ?_
  refine lv_bipush (v := 6) hx hb dX0_shift_1 (by decide) ?_
  refine Ru.callS (rest := []) ⟨hx, hb, hml, hown, hts⟩ (c_X0_needOneOf l D cA z0 6 h1.1 h1.2) (va_cwS 2 hts gX0_shift_X0_needOneOf rfl rfl rfl (by decide +kernel) ⟨Nat.le_of_ble_eq_true rfl, Nat.le_of_ble_eq_true rfl⟩) hK noP rfl rfl hl.1 (Nat.le_of_ble_eq_true rfl) dX0_shift_3 ⟨Nat.zero_le _, Nat.zero_le _⟩ ?_
  refine lv_iload_n hx hb dX0_shift_6 rfl (lv_at hl 2 rfl) ?_
  refine lv_iconst (v := 4) hx hb dX0_shift_7 (by decide) ?_
  refine Ru.callS (rest := []) ⟨hx, hb, hml, hown, hts⟩ (c_X0_needOneOf l D cA z1 4 h2.1 h2.2) (va_cwS 2 hts gX0_shift_X0_needOneOf rfl rfl rfl (by decide +kernel) ⟨Nat.le_of_ble_eq_true rfl, Nat.le_of_ble_eq_true rfl⟩) hK noP rfl rfl hl.1 (Nat.le_of_ble_eq_true rfl) dX0_shift_8 ⟨Nat.zero_le _, Nat.zero_le _⟩ ?_
  refine lv_iload_n hx hb dX0_shift_11 rfl (lv_at hl 3 rfl) ?_
  refine lv_iconst (v := 0) hx hb dX0_shift_12 (by decide) ?_
  refine lv_sipush (v := 139) hx hb dX0_shift_13 (by decide) ?_
  refine Ru.callS (rest := []) ⟨hx, hb, hml, hown, hts⟩ (c_X0_needRange l D cA z2 0 139 h3.1 h3.2) (va_cwS 3 hts gX0_shift_X0_needRange rfl rfl rfl (by decide +kernel) ⟨Nat.le_of_ble_eq_true rfl, Nat.le_of_ble_eq_true rfl⟩) hK noP rfl rfl hl.1 (Nat.le_of_ble_eq_true rfl) dX0_shift_16 ⟨Nat.zero_le _, Nat.zero_le _⟩ ?_
  refine lv_iload hx hb dX0_shift_19 (lv_at hl 4 rfl) ?_
  refine lv_iconst (v := 1) hx hb dX0_shift_21 (by decide) ?_
  refine lv_bipush (v := 16) hx hb dX0_shift_22 (by decide) ?_
  refine Ru.callS (rest := []) ⟨hx, hb, hml, hown, hts⟩ (c_X0_needRange l D cA z3 1 16 h4.1 h4.2) (va_cwS 3 hts gX0_shift_X0_needRange rfl rfl rfl (by decide +kernel) ⟨Nat.le_of_ble_eq_true rfl, Nat.le_of_ble_eq_true rfl⟩) hK noP rfl rfl hl.1 (Nat.le_of_ble_eq_true rfl) dX0_shift_24 ⟨Nat.zero_le _, Nat.zero_le _⟩ ?_
  refine lv_aload_n hx hb dX0_shift_27 rfl (lv_at hl 0 rfl) ?_
  refine va_get (D := D) (ci := 0) (v := .int (F 7 0)) (C := RX0) (T := TX0) (N := 16) hx hb hts hi hown hK hP 0 rfl rfl 7 (by decide) (hts (.fieldLink RX0 32 "AssignmentHouse" "shiftCount" "I") (by decide +kernel)) (fun _ h9 => h9) rfl dX0_shift_28 ?_
  refine lv_bipush (v := 80) hx hb dX0_shift_31 (by decide) ?_
  refine lv_icmp_ge (tgt := 40) hx hb dX0_shift_33 (by decide) (fun c_33 => (absurd c_33 (Int32.not_le.mpr h5) : False).elim) (fun c_33 => ?_)
  refine lv_iconst (v := 1) hx hb dX0_shift_36 (by decide) ?_
  refine lv_goto (tgt := 41) hx hb dX0_shift_37 (by decide) ?_
  refine Ru.callS (rest := []) ⟨hx, hb, hml, hown, hts⟩ (c_X0_needState l D cA 1 (by decide)) (va_cwS 1 hts gX0_shift_X0_needState rfl rfl rfl (by decide +kernel) ⟨Nat.le_of_ble_eq_true rfl, Nat.le_of_ble_eq_true rfl⟩) hK noP rfl rfl hl.1 (Nat.le_of_ble_eq_true rfl) dX0_shift_41 ⟨Nat.zero_le _, Nat.zero_le _⟩ ?_
  refine lv_aload_n hx hb dX0_shift_44 rfl (lv_at hl 0 rfl) ?_
  refine lv_iload_n hx hb dX0_shift_45 rfl (lv_at hl 1 rfl) ?_
  refine lv_iload_n hx hb dX0_shift_46 rfl (lv_at hl 3 rfl) ?_
  refine Rd.callV (rest := []) (q0 := 0) (ci := 0) ⟨hx, hb, hml, hown, hts⟩ (c_X0_hoursOnDay l D cA a F g N hW z0 z2) (cwV 2 hts gX0_shift_X0_hoursOnDay rfl rfl rfl (by decide +kernel) ⟨Nat.le_of_ble_eq_true rfl, Nat.le_of_ble_eq_true rfl⟩) hK hP rfl rfl rfl rfl rfl hl.1 (Nat.le_of_ble_eq_true rfl) dX0_shift_47 ⟨Nat.zero_le _, Nat.zero_le _⟩ ?_
  refine lv_iload hx hb dX0_shift_50 (lv_at hl 4 rfl) ?_
  refine lv_iadd hx hb dX0_shift_52 ?_
  refine lv_bipush (v := 24) hx hb dX0_shift_53 (by decide) ?_
  refine lv_icmp_gt (tgt := 62) hx hb dX0_shift_55 (by decide) (fun c_55 => (absurd c_55 (Int32.not_lt.mpr h6) : False).elim) (fun c_55 => ?_)
  refine lv_iconst (v := 1) hx hb dX0_shift_58 (by decide) ?_
  refine lv_goto (tgt := 63) hx hb dX0_shift_59 (by decide) ?_
  refine Ru.callS (rest := []) ⟨hx, hb, hml, hown, hts⟩ (c_X0_needState l D cA 1 (by decide)) (va_cwS 1 hts gX0_shift_X0_needState rfl rfl rfl (by decide +kernel) ⟨Nat.le_of_ble_eq_true rfl, Nat.le_of_ble_eq_true rfl⟩) hK noP rfl rfl hl.1 (Nat.le_of_ble_eq_true rfl) dX0_shift_63 ⟨Nat.zero_le _, Nat.zero_le _⟩ ?_
  refine lv_aload_n hx hb dX0_shift_66 rfl (lv_at hl 0 rfl) ?_
  refine va_get (D := D) (ci := 0) (v := .int (F 7 0)) (C := RX0) (T := TX0) (N := 16) hx hb hts hi hown hK hP 0 rfl rfl 7 (by decide) (hts (.fieldLink RX0 32 "AssignmentHouse" "shiftCount" "I") (by decide +kernel)) (fun _ h9 => h9) rfl dX0_shift_67 ?_
  refine lv_istore (lv' := [(5, .int (F 7 0)), (0, .ref (a 16)), (1, .int z0), (2, .int z1), (3, .int z2), (4, .int z3)]) hx hb dX0_shift_70 hl (by decide) rfl (fun ls hl => ?_)
  refine lv_aload_n hx hb dX0_shift_72 rfl (lv_at hl 1 rfl) ?_
  refine va_get (D := D) (ci := 0) (v := .ref (a 8)) (C := RX0) (T := TX0) (N := 16) hx hb hts hi hown hK hP 0 rfl rfl 8 (by decide) (hts (.fieldLink RX0 35 "AssignmentHouse" "workerOf" "[I") (by decide +kernel)) (fun _ h9 => h9) rfl dX0_shift_73 ?_
  refine lv_iload hx hb dX0_shift_76 (lv_at hl 0 rfl) ?_
  refine lv_iload_n hx hb dX0_shift_78 rfl (lv_at hl 2 rfl) ?_
  refine put_call (k := 6) (b := a 8) (n := 80) (f := (F 8)) (x := (F 7 0)) (j := N) (v := z0) (rest := []) ⟨hx, hb, hml, hown, hts⟩ gX0_shift_X0_put hK hP hD hS hA rfl (hc) (hN80) (by decide) hl.1 (Nat.le_of_ble_eq_true rfl) dX0_shift_79 ⟨Nat.zero_le _, Nat.zero_le _⟩ ⟨Nat.le_of_ble_eq_true rfl, Nat.le_of_ble_eq_true rfl⟩ (fun H locs hP hD hS => ?_)
  have hP : va_P D vwCl (wX a cA (fUp F 8 N z0) g) H := hP
  have hD : va_D A (wX a cA (fUp F 8 N z0) g) := hD
  refine lv_aload_n hx hb dX0_shift_82 rfl (lv_at hl 1 rfl) ?_
  refine va_get (D := D) (ci := 0) (v := .ref (a 9)) (C := RX0) (T := TX0) (N := 16) hx hb hts hi hown hK hP 0 rfl rfl 9 (by decide) (hts (.fieldLink RX0 38 "AssignmentHouse" "siteOf" "[I") (by decide +kernel)) (fun _ h9 => h9) rfl dX0_shift_83 ?_
  refine lv_iload hx hb dX0_shift_86 (lv_at hl 0 rfl) ?_
  refine lv_iload_n hx hb dX0_shift_88 rfl (lv_at hl 3 rfl) ?_
  refine put_call (k := 7) (b := a 9) (n := 80) (f := ((fUp F 8 N z0) 9)) (x := (F 7 0)) (j := N) (v := z1) (rest := []) ⟨hx, hb, hml, hown, hts⟩ gX0_shift_X0_put hK hP hD hS hA rfl (hc) (hN80) (by decide) hl.1 (Nat.le_of_ble_eq_true rfl) dX0_shift_89 ⟨Nat.zero_le _, Nat.zero_le _⟩ ⟨Nat.le_of_ble_eq_true rfl, Nat.le_of_ble_eq_true rfl⟩ (fun H locs hP hD hS => ?_)
  have hP : va_P D vwCl (wX a cA (fUp (fUp F 8 N z0) 9 N z1) g) H := hP
  have hD : va_D A (wX a cA (fUp (fUp F 8 N z0) 9 N z1) g) := hD
  refine lv_aload_n hx hb dX0_shift_92 rfl (lv_at hl 1 rfl) ?_
  refine va_get (D := D) (ci := 0) (v := .ref (a 10)) (C := RX0) (T := TX0) (N := 16) hx hb hts hi hown hK hP 0 rfl rfl 10 (by decide) (hts (.fieldLink RX0 41 "AssignmentHouse" "dayOf" "[I") (by decide +kernel)) (fun _ h9 => h9) rfl dX0_shift_93 ?_
  refine lv_iload hx hb dX0_shift_96 (lv_at hl 0 rfl) ?_
  refine lv_iload_n hx hb dX0_shift_98 rfl (lv_at hl 4 rfl) ?_
  refine put_call (k := 8) (b := a 10) (n := 80) (f := ((fUp (fUp F 8 N z0) 9 N z1) 10)) (x := (F 7 0)) (j := N) (v := z2) (rest := []) ⟨hx, hb, hml, hown, hts⟩ gX0_shift_X0_put hK hP hD hS hA rfl (hc) (hN80) (by decide) hl.1 (Nat.le_of_ble_eq_true rfl) dX0_shift_99 ⟨Nat.zero_le _, Nat.zero_le _⟩ ⟨Nat.le_of_ble_eq_true rfl, Nat.le_of_ble_eq_true rfl⟩ (fun H locs hP hD hS => ?_)
  have hP : va_P D vwCl (wX a cA (fUp (fUp (fUp F 8 N z0) 9 N z1) 10 N z2) g) H := hP
  have hD : va_D A (wX a cA (fUp (fUp (fUp F 8 N z0) 9 N z1) 10 N z2) g) := hD
  refine lv_aload_n hx hb dX0_shift_102 rfl (lv_at hl 1 rfl) ?_
  refine va_get (D := D) (ci := 0) (v := .ref (a 11)) (C := RX0) (T := TX0) (N := 16) hx hb hts hi hown hK hP 0 rfl rfl 11 (by decide) (hts (.fieldLink RX0 44 "AssignmentHouse" "hoursOf" "[I") (by decide +kernel)) (fun _ h9 => h9) rfl dX0_shift_103 ?_
  refine lv_iload hx hb dX0_shift_106 (lv_at hl 0 rfl) ?_
  refine lv_iload hx hb dX0_shift_108 (lv_at hl 5 rfl) ?_
  refine put_call (k := 9) (b := a 11) (n := 80) (f := ((fUp (fUp (fUp F 8 N z0) 9 N z1) 10 N z2) 11)) (x := (F 7 0)) (j := N) (v := z3) (rest := []) ⟨hx, hb, hml, hown, hts⟩ gX0_shift_X0_put hK hP hD hS hA rfl (hc) (hN80) (by decide) hl.1 (Nat.le_of_ble_eq_true rfl) dX0_shift_110 ⟨Nat.zero_le _, Nat.zero_le _⟩ ⟨Nat.le_of_ble_eq_true rfl, Nat.le_of_ble_eq_true rfl⟩ (fun H locs hP hD hS => ?_)
  have hP : va_P D vwCl (wX a cA (fUp (fUp (fUp (fUp F 8 N z0) 9 N z1) 10 N z2) 11 N z3) g) H := hP
  have hD : va_D A (wX a cA (fUp (fUp (fUp (fUp F 8 N z0) 9 N z1) 10 N z2) 11 N z3) g) := hD
  refine lv_aload_n hx hb dX0_shift_113 rfl (lv_at hl 1 rfl) ?_
  refine lv_iload hx hb dX0_shift_114 (lv_at hl 0 rfl) ?_
  refine lv_iconst (v := 1) hx hb dX0_shift_116 (by decide) ?_
  refine lv_iadd hx hb dX0_shift_117 ?_
  refine va_put (D := D) (ci := 0) (v := .int ((F 7 0) + 1)) (ty := .int) (C := RX0) (T := TX0) (N := 16) hx hb hts hi tyX0 tyX0_ok nmX0 hown hK hP hD hS 0 rfl rfl 7 (by decide) (hts (.fieldLink RX0 32 "AssignmentHouse" "shiftCount" "I") (by decide +kernel)) (fun _ h9 => h9) rfl (by decide +kernel) rfl rfl (Nat.le_of_ble_eq_true rfl) dX0_shift_118 (fun H locs hP hD hS => ?_)
  have hP : va_P D vwCl (wX a cA (fUp (fUp (fUp (fUp (fUp F 8 N z0) 9 N z1) 10 N z2) 11 N z3) 7 0 ((F 7 0) + 1)) g) H := hP
  have hD : va_D A (wX a cA (fUp (fUp (fUp (fUp (fUp F 8 N z0) 9 N z1) 10 N z2) 11 N z3) 7 0 ((F 7 0) + 1)) g) := hD
  refine lv_iload hx hb dX0_shift_121 (lv_at hl 0 rfl) ?_
  exact hend 123 ls _ (()) _ _ dX0_shift_123 hP hD hS (rfl)

set_option maxHeartbeats 4000000 in
set_option maxRecDepth 100000 in
theorem b_X0_shift (l : Launch) (D : va_G) (cA : ClassId) (hl9 : l.stackTraces = false) (a : Nat → Nat) (F : Nat → Nat → Int32) (g : Nat → Int32) (N : Nat) (hW : wf F N) (z0 z1 z2 z3 : Int32) (hk : kShift F N z0 z1 z2 z3 ≠ 0) : Bx l D cA (wX a cA F g) yX0_shift wsX0_shift rbX0_shift [.ref (a 16), .int z0, .int z1, .int z2, .int z3] (exN (kShift F N z0 z1 z2 z3) eI eA eS) := by
  refine Bx.of (cc := cX0_shift) (maxL := 6) (ret := (some .int)) (by decide) rfl (Nat.le_of_ble_eq_true rfl) ?_
  intro p e s m args below meth c ls hx hb hts hown hml hK hP hl htab hlocks hZ
  have hown : s.vm.findClass RX0 = some m.cls := hown
  have hi : ∀ w ∈ wsX00, w ∈ wsX0_shift := by decide +kernel
  have hl : lv_has ls 6 [(0, .ref (a 16)), (1, .int z0), (2, .int z1), (3, .int z2), (4, .int z3)] := hl
  have hN : N ≤ 80 := hW.n
  have hc : F 7 0 = nI N := hW.c
  refine lv_iload_n hx hb dX0_shift_0 rfl (lv_at hl 1 rfl) ?_
  refine lv_bipush (v := 6) hx hb dX0_shift_1 (by decide) ?_
  refine (Classical.em (cI z0 6)).elim (fun h1 => ?_) (fun h1 => ?_)
  rotate_left
  rw [show exN (kShift F N z0 z1 z2 z3) eI eA eS = eI from by rw [kShift, if_neg h1]; rfl]
  exact Bx.thruS (rest := []) ⟨hx, hb, hml, hown, hts⟩ htab hlocks (b_X0_needOneOf l D cA hl9 z0 6 (cI_n h1)) (va_cwS 2 hts gX0_shift_X0_needOneOf rfl rfl rfl (by decide +kernel) ⟨Nat.le_of_ble_eq_true rfl, Nat.le_of_ble_eq_true rfl⟩) hK noP hZ rfl rfl hl.1 (Nat.le_of_ble_eq_true rfl) dX0_shift_3 ⟨Nat.le_of_ble_eq_true rfl, Nat.le_of_ble_eq_true rfl⟩
  refine Ru.callS (rest := []) ⟨hx, hb, hml, hown, hts⟩ (c_X0_needOneOf l D cA z0 6 h1.1 h1.2) (va_cwS 2 hts gX0_shift_X0_needOneOf rfl rfl rfl (by decide +kernel) ⟨Nat.le_of_ble_eq_true rfl, Nat.le_of_ble_eq_true rfl⟩) hK noP rfl rfl hl.1 (Nat.le_of_ble_eq_true rfl) dX0_shift_3 ⟨Nat.zero_le _, Nat.zero_le _⟩ ?_
  refine lv_iload_n hx hb dX0_shift_6 rfl (lv_at hl 2 rfl) ?_
  refine lv_iconst (v := 4) hx hb dX0_shift_7 (by decide) ?_
  refine (Classical.em (cI z1 4)).elim (fun h2 => ?_) (fun h2 => ?_)
  rotate_left
  rw [show exN (kShift F N z0 z1 z2 z3) eI eA eS = eI from by rw [kShift, if_pos h1, if_neg h2]; rfl]
  exact Bx.thruS (rest := []) ⟨hx, hb, hml, hown, hts⟩ htab hlocks (b_X0_needOneOf l D cA hl9 z1 4 (cI_n h2)) (va_cwS 2 hts gX0_shift_X0_needOneOf rfl rfl rfl (by decide +kernel) ⟨Nat.le_of_ble_eq_true rfl, Nat.le_of_ble_eq_true rfl⟩) hK noP hZ rfl rfl hl.1 (Nat.le_of_ble_eq_true rfl) dX0_shift_8 ⟨Nat.le_of_ble_eq_true rfl, Nat.le_of_ble_eq_true rfl⟩
  refine Ru.callS (rest := []) ⟨hx, hb, hml, hown, hts⟩ (c_X0_needOneOf l D cA z1 4 h2.1 h2.2) (va_cwS 2 hts gX0_shift_X0_needOneOf rfl rfl rfl (by decide +kernel) ⟨Nat.le_of_ble_eq_true rfl, Nat.le_of_ble_eq_true rfl⟩) hK noP rfl rfl hl.1 (Nat.le_of_ble_eq_true rfl) dX0_shift_8 ⟨Nat.zero_le _, Nat.zero_le _⟩ ?_
  refine lv_iload_n hx hb dX0_shift_11 rfl (lv_at hl 3 rfl) ?_
  refine lv_iconst (v := 0) hx hb dX0_shift_12 (by decide) ?_
  refine lv_sipush (v := 139) hx hb dX0_shift_13 (by decide) ?_
  refine (Classical.em (cR z2 0 139)).elim (fun h3 => ?_) (fun h3 => ?_)
  rotate_left
  rw [show exN (kShift F N z0 z1 z2 z3) eI eA eS = eA from by rw [kShift, if_pos h1, if_pos h2, if_neg h3]; rfl]
  exact Bx.thruS (rest := []) ⟨hx, hb, hml, hown, hts⟩ htab hlocks (b_X0_needRange l D cA hl9 z2 0 139 (cR_n h3)) (va_cwS 3 hts gX0_shift_X0_needRange rfl rfl rfl (by decide +kernel) ⟨Nat.le_of_ble_eq_true rfl, Nat.le_of_ble_eq_true rfl⟩) hK noP hZ rfl rfl hl.1 (Nat.le_of_ble_eq_true rfl) dX0_shift_16 ⟨Nat.le_of_ble_eq_true rfl, Nat.le_of_ble_eq_true rfl⟩
  refine Ru.callS (rest := []) ⟨hx, hb, hml, hown, hts⟩ (c_X0_needRange l D cA z2 0 139 h3.1 h3.2) (va_cwS 3 hts gX0_shift_X0_needRange rfl rfl rfl (by decide +kernel) ⟨Nat.le_of_ble_eq_true rfl, Nat.le_of_ble_eq_true rfl⟩) hK noP rfl rfl hl.1 (Nat.le_of_ble_eq_true rfl) dX0_shift_16 ⟨Nat.zero_le _, Nat.zero_le _⟩ ?_
  refine lv_iload hx hb dX0_shift_19 (lv_at hl 4 rfl) ?_
  refine lv_iconst (v := 1) hx hb dX0_shift_21 (by decide) ?_
  refine lv_bipush (v := 16) hx hb dX0_shift_22 (by decide) ?_
  refine (Classical.em (cR z3 1 16)).elim (fun h4 => ?_) (fun h4 => ?_)
  rotate_left
  rw [show exN (kShift F N z0 z1 z2 z3) eI eA eS = eA from by rw [kShift, if_pos h1, if_pos h2, if_pos h3, if_neg h4]; rfl]
  exact Bx.thruS (rest := []) ⟨hx, hb, hml, hown, hts⟩ htab hlocks (b_X0_needRange l D cA hl9 z3 1 16 (cR_n h4)) (va_cwS 3 hts gX0_shift_X0_needRange rfl rfl rfl (by decide +kernel) ⟨Nat.le_of_ble_eq_true rfl, Nat.le_of_ble_eq_true rfl⟩) hK noP hZ rfl rfl hl.1 (Nat.le_of_ble_eq_true rfl) dX0_shift_24 ⟨Nat.le_of_ble_eq_true rfl, Nat.le_of_ble_eq_true rfl⟩
  refine Ru.callS (rest := []) ⟨hx, hb, hml, hown, hts⟩ (c_X0_needRange l D cA z3 1 16 h4.1 h4.2) (va_cwS 3 hts gX0_shift_X0_needRange rfl rfl rfl (by decide +kernel) ⟨Nat.le_of_ble_eq_true rfl, Nat.le_of_ble_eq_true rfl⟩) hK noP rfl rfl hl.1 (Nat.le_of_ble_eq_true rfl) dX0_shift_24 ⟨Nat.zero_le _, Nat.zero_le _⟩ ?_
  refine lv_aload_n hx hb dX0_shift_27 rfl (lv_at hl 0 rfl) ?_
  refine va_get (D := D) (ci := 0) (v := .int (F 7 0)) (C := RX0) (T := TX0) (N := 16) hx hb hts hi hown hK hP 0 rfl rfl 7 (by decide) (hts (.fieldLink RX0 32 "AssignmentHouse" "shiftCount" "I") (by decide +kernel)) (fun _ h9 => h9) rfl dX0_shift_28 ?_
  refine lv_bipush (v := 80) hx hb dX0_shift_31 (by decide) ?_
  refine lv_icmp_ge (tgt := 40) hx hb dX0_shift_33 (by decide) (fun c_33 => ?_) (fun c_33 => ?_)
  · skip
    have h5 : ¬ F 7 0 < 80 := Int32.not_lt.mpr c_33
    refine lv_iconst (v := 0) hx hb dX0_shift_40 (by decide) ?_
    rw [show exN (kShift F N z0 z1 z2 z3) eI eA eS = eS from by rw [kShift, if_pos h1, if_pos h2, if_pos h3, if_pos h4, if_neg h5]; rfl]
    exact Bx.thruS (rest := []) ⟨hx, hb, hml, hown, hts⟩ htab hlocks (b_X0_needState l D cA hl9 0 (rfl)) (va_cwS 1 hts gX0_shift_X0_needState rfl rfl rfl (by decide +kernel) ⟨Nat.le_of_ble_eq_true rfl, Nat.le_of_ble_eq_true rfl⟩) hK noP hZ rfl rfl hl.1 (Nat.le_of_ble_eq_true rfl) dX0_shift_41 ⟨Nat.le_of_ble_eq_true rfl, Nat.le_of_ble_eq_true rfl⟩
  · skip
    have h5 : F 7 0 < 80 := Int32.not_le.mp c_33
    refine lv_iconst (v := 1) hx hb dX0_shift_36 (by decide) ?_
    refine lv_goto (tgt := 41) hx hb dX0_shift_37 (by decide) ?_
    refine Ru.callS (rest := []) ⟨hx, hb, hml, hown, hts⟩ (c_X0_needState l D cA 1 (by decide)) (va_cwS 1 hts gX0_shift_X0_needState rfl rfl rfl (by decide +kernel) ⟨Nat.le_of_ble_eq_true rfl, Nat.le_of_ble_eq_true rfl⟩) hK noP rfl rfl hl.1 (Nat.le_of_ble_eq_true rfl) dX0_shift_41 ⟨Nat.zero_le _, Nat.zero_le _⟩ ?_
    refine lv_aload_n hx hb dX0_shift_44 rfl (lv_at hl 0 rfl) ?_
    refine lv_iload_n hx hb dX0_shift_45 rfl (lv_at hl 1 rfl) ?_
    refine lv_iload_n hx hb dX0_shift_46 rfl (lv_at hl 3 rfl) ?_
    refine Rd.callV (rest := []) (q0 := 0) (ci := 0) ⟨hx, hb, hml, hown, hts⟩ (c_X0_hoursOnDay l D cA a F g N hW z0 z2) (cwV 2 hts gX0_shift_X0_hoursOnDay rfl rfl rfl (by decide +kernel) ⟨Nat.le_of_ble_eq_true rfl, Nat.le_of_ble_eq_true rfl⟩) hK hP rfl rfl rfl rfl rfl hl.1 (Nat.le_of_ble_eq_true rfl) dX0_shift_47 ⟨Nat.zero_le _, Nat.zero_le _⟩ ?_
    refine lv_iload hx hb dX0_shift_50 (lv_at hl 4 rfl) ?_
    refine lv_iadd hx hb dX0_shift_52 ?_
    refine lv_bipush (v := 24) hx hb dX0_shift_53 (by decide) ?_
    refine lv_icmp_gt (tgt := 62) hx hb dX0_shift_55 (by decide) (fun c_55 => ?_) (fun c_55 => ?_)
    · skip
      have h6 : ¬ ps (tOn F z0 z2) N + z3 ≤ 24 := Int32.not_le.mpr c_55
      refine lv_iconst (v := 0) hx hb dX0_shift_62 (by decide) ?_
      rw [show exN (kShift F N z0 z1 z2 z3) eI eA eS = eS from by rw [kShift, if_pos h1, if_pos h2, if_pos h3, if_pos h4, if_pos h5, if_neg h6]; rfl]
      exact Bx.thruS (rest := []) ⟨hx, hb, hml, hown, hts⟩ htab hlocks (b_X0_needState l D cA hl9 0 (rfl)) (va_cwS 1 hts gX0_shift_X0_needState rfl rfl rfl (by decide +kernel) ⟨Nat.le_of_ble_eq_true rfl, Nat.le_of_ble_eq_true rfl⟩) hK noP hZ rfl rfl hl.1 (Nat.le_of_ble_eq_true rfl) dX0_shift_63 ⟨Nat.le_of_ble_eq_true rfl, Nat.le_of_ble_eq_true rfl⟩
    · skip
      have h6 : ps (tOn F z0 z2) N + z3 ≤ 24 := Int32.not_lt.mp c_55
      refine lv_iconst (v := 1) hx hb dX0_shift_58 (by decide) ?_
      refine lv_goto (tgt := 63) hx hb dX0_shift_59 (by decide) ?_
      exact absurd (by rw [kShift, if_pos h1, if_pos h2, if_pos h3, if_pos h4, if_pos h5, if_pos h6]) hk

set_option maxHeartbeats 4000000 in
set_option maxRecDepth 100000 in
theorem c_X0_correct (l : Launch) (D : va_G) (cA : ClassId) (a : Nat → Nat) (F : Nat → Nat → Int32) (g : Nat → Int32) (N : Nat) (hW : wf F N) (z0 z1 : Int32) (h1 : cI z0 (F 7 0)) (h2 : cR z1 0 16) (h3 : ps (tOn F (F 8 z0.toNatClampNeg) (F 10 z0.toNatClampNeg)) N + (z1 - F 11 z0.toNatClampNeg) ≤ 24) (h4 : ¬ 7 * ps (tHr F (F 8 z0.toNatClampNeg)) N - F 14 (F 8 z0.toNatClampNeg).toNatClampNeg + 7 * (z1 - F 11 z0.toNatClampNeg) < 0) : Wi l D cA (S := Unit) (wX a cA F g) (fun _ => wX a cA (fUp F 11 z0.toNatClampNeg z1) g) yX0_correct wsX0_correct rmX0_correct [.ref (a 16), .int z0, .int z1] (fun r _ => r = F 11 z0.toNatClampNeg) := by
  refine Wi.of (cc := cX0_correct) (maxL := 6) (by decide) rfl (Nat.le_of_ble_eq_true rfl) ?_
  intro p e s m args below meth c ls A Q hx hb hts hown hml hK hP hD hA hS hl hend
  have hown : s.vm.findClass RX0 = some m.cls := hown
  have hi : ∀ w ∈ wsX00, w ∈ wsX0_correct := by decide +kernel
  have hl : lv_has ls 6 [(0, .ref (a 16)), (1, .int z0), (2, .int z1)] := hl
  have hN : N ≤ 80 := hW.n
  have hc : F 7 0 = nI N := hW.c
  obtain ⟨hjz0, ejz0⟩ := cI_of h1 (n := N) (hc) (by omega)
  refine lv_iload_n hx hb dX0_correct_0 rfl (lv_at hl 1 rfl) ?_
  refine lv_aload_n hx hb dX0_correct_1 rfl (lv_at hl 0 rfl) ?_
  refine va_get (D := D) (ci := 0) (v := .int (F 7 0)) (C := RX0) (T := TX0) (N := 16) hx hb hts hi hown hK hP 0 rfl rfl 7 (by decide) (hts (.fieldLink RX0 32 "AssignmentHouse" "shiftCount" "I") (by decide +kernel)) (fun _ h9 => h9) rfl dX0_correct_2 ?_
  refine Ru.callS (rest := []) ⟨hx, hb, hml, hown, hts⟩ (c_X0_needOneOf l D cA z0 (F 7 0) h1.1 h1.2) (va_cwS 2 hts gX0_correct_X0_needOneOf rfl rfl rfl (by decide +kernel) ⟨Nat.le_of_ble_eq_true rfl, Nat.le_of_ble_eq_true rfl⟩) hK noP rfl rfl hl.1 (Nat.le_of_ble_eq_true rfl) dX0_correct_5 ⟨Nat.zero_le _, Nat.zero_le _⟩ ?_
  refine lv_iload_n hx hb dX0_correct_8 rfl (lv_at hl 2 rfl) ?_
  refine lv_iconst (v := 0) hx hb dX0_correct_9 (by decide) ?_
  refine lv_bipush (v := 16) hx hb dX0_correct_10 (by decide) ?_
  refine Ru.callS (rest := []) ⟨hx, hb, hml, hown, hts⟩ (c_X0_needRange l D cA z1 0 16 h2.1 h2.2) (va_cwS 3 hts gX0_correct_X0_needRange rfl rfl rfl (by decide +kernel) ⟨Nat.le_of_ble_eq_true rfl, Nat.le_of_ble_eq_true rfl⟩) hK noP rfl rfl hl.1 (Nat.le_of_ble_eq_true rfl) dX0_correct_12 ⟨Nat.zero_le _, Nat.zero_le _⟩ ?_
  refine lv_aload_n hx hb dX0_correct_15 rfl (lv_at hl 0 rfl) ?_
  refine va_get (D := D) (ci := 0) (v := .ref (a 8)) (C := RX0) (T := TX0) (N := 16) hx hb hts hi hown hK hP 0 rfl rfl 8 (by decide) (hts (.fieldLink RX0 35 "AssignmentHouse" "workerOf" "[I") (by decide +kernel)) (fun _ h9 => h9) rfl dX0_correct_16 ?_
  refine lv_iload_n hx hb dX0_correct_19 rfl (lv_at hl 1 rfl) ?_
  refine Rd.callS (rest := []) ⟨hx, hb, hml, hown, hts⟩ (c_X0_at l D cA (a 8) 80 (F 8) (z0) (z0.toNatClampNeg) (ejz0) (by omega) (by decide)) (va_cwS 2 hts gX0_correct_X0_at rfl rfl rfl (by decide +kernel) ⟨Nat.le_of_ble_eq_true rfl, Nat.le_of_ble_eq_true rfl⟩) hK (hP.sub [6] rfl) rfl rfl hl.1 (Nat.le_of_ble_eq_true rfl) dX0_correct_20 ⟨Nat.zero_le _, Nat.zero_le _⟩ ?_
  refine lv_istore_n (lv' := [(3, .int (F 8 z0.toNatClampNeg)), (0, .ref (a 16)), (1, .int z0), (2, .int z1)]) hx hb dX0_correct_23 rfl hl (by decide) rfl (fun ls hl => ?_)
  refine lv_aload_n hx hb dX0_correct_24 rfl (lv_at hl 1 rfl) ?_
  refine va_get (D := D) (ci := 0) (v := .ref (a 11)) (C := RX0) (T := TX0) (N := 16) hx hb hts hi hown hK hP 0 rfl rfl 11 (by decide) (hts (.fieldLink RX0 44 "AssignmentHouse" "hoursOf" "[I") (by decide +kernel)) (fun _ h9 => h9) rfl dX0_correct_25 ?_
  refine lv_iload_n hx hb dX0_correct_28 rfl (lv_at hl 2 rfl) ?_
  refine Rd.callS (rest := []) ⟨hx, hb, hml, hown, hts⟩ (c_X0_at l D cA (a 11) 80 (F 11) (z0) (z0.toNatClampNeg) (ejz0) (by omega) (by decide)) (va_cwS 2 hts gX0_correct_X0_at rfl rfl rfl (by decide +kernel) ⟨Nat.le_of_ble_eq_true rfl, Nat.le_of_ble_eq_true rfl⟩) hK (hP.sub [9] rfl) rfl rfl hl.1 (Nat.le_of_ble_eq_true rfl) dX0_correct_29 ⟨Nat.zero_le _, Nat.zero_le _⟩ ?_
  refine lv_istore (lv' := [(4, .int (F 11 z0.toNatClampNeg)), (3, .int (F 8 z0.toNatClampNeg)), (0, .ref (a 16)), (1, .int z0), (2, .int z1)]) hx hb dX0_correct_32 hl (by decide) rfl (fun ls hl => ?_)
  refine lv_iload_n hx hb dX0_correct_34 rfl (lv_at hl 4 rfl) ?_
  refine lv_iload hx hb dX0_correct_35 (lv_at hl 0 rfl) ?_
  refine lv_isub hx hb dX0_correct_37 ?_
  refine lv_istore (lv' := [(5, .int (z1 - (F 11 z0.toNatClampNeg))), (4, .int (F 11 z0.toNatClampNeg)), (3, .int (F 8 z0.toNatClampNeg)), (0, .ref (a 16)), (1, .int z0), (2, .int z1)]) hx hb dX0_correct_38 hl (by decide) rfl (fun ls hl => ?_)
  refine lv_aload_n hx hb dX0_correct_40 rfl (lv_at hl 3 rfl) ?_
  refine lv_iload_n hx hb dX0_correct_41 rfl (lv_at hl 2 rfl) ?_
  refine lv_aload_n hx hb dX0_correct_42 rfl (lv_at hl 3 rfl) ?_
  refine va_get (D := D) (ci := 0) (v := .ref (a 10)) (C := RX0) (T := TX0) (N := 16) hx hb hts hi hown hK hP 0 rfl rfl 10 (by decide) (hts (.fieldLink RX0 41 "AssignmentHouse" "dayOf" "[I") (by decide +kernel)) (fun _ h9 => h9) rfl dX0_correct_43 ?_
  refine lv_iload_n hx hb dX0_correct_46 rfl (lv_at hl 4 rfl) ?_
  refine Rd.callS (rest := [.int (F 8 z0.toNatClampNeg), .ref (a 16)]) ⟨hx, hb, hml, hown, hts⟩ (c_X0_at l D cA (a 10) 80 (F 10) (z0) (z0.toNatClampNeg) (ejz0) (by omega) (by decide)) (va_cwS 2 hts gX0_correct_X0_at rfl rfl rfl (by decide +kernel) ⟨Nat.le_of_ble_eq_true rfl, Nat.le_of_ble_eq_true rfl⟩) hK (hP.sub [8] rfl) rfl rfl hl.1 (Nat.le_of_ble_eq_true rfl) dX0_correct_47 ⟨Nat.zero_le _, Nat.zero_le _⟩ ?_
  refine Rd.callV (rest := []) (q0 := 0) (ci := 0) ⟨hx, hb, hml, hown, hts⟩ (c_X0_hoursOnDay l D cA a F g N hW (F 8 z0.toNatClampNeg) (F 10 z0.toNatClampNeg)) (cwV 2 hts gX0_correct_X0_hoursOnDay rfl rfl rfl (by decide +kernel) ⟨Nat.le_of_ble_eq_true rfl, Nat.le_of_ble_eq_true rfl⟩) hK hP rfl rfl rfl rfl rfl hl.1 (Nat.le_of_ble_eq_true rfl) dX0_correct_50 ⟨Nat.zero_le _, Nat.zero_le _⟩ ?_
  refine lv_iload hx hb dX0_correct_53 (lv_at hl 0 rfl) ?_
  refine lv_iadd hx hb dX0_correct_55 ?_
  refine lv_bipush (v := 24) hx hb dX0_correct_56 (by decide) ?_
  refine lv_icmp_gt (tgt := 65) hx hb dX0_correct_58 (by decide) (fun c_58 => (absurd c_58 (Int32.not_lt.mpr h3) : False).elim) (fun c_58 => ?_)
  refine lv_iconst (v := 1) hx hb dX0_correct_61 (by decide) ?_
  refine lv_goto (tgt := 66) hx hb dX0_correct_62 (by decide) ?_
  refine Ru.callS (rest := []) ⟨hx, hb, hml, hown, hts⟩ (c_X0_needState l D cA 1 (by decide)) (va_cwS 1 hts gX0_correct_X0_needState rfl rfl rfl (by decide +kernel) ⟨Nat.le_of_ble_eq_true rfl, Nat.le_of_ble_eq_true rfl⟩) hK noP rfl rfl hl.1 (Nat.le_of_ble_eq_true rfl) dX0_correct_66 ⟨Nat.zero_le _, Nat.zero_le _⟩ ?_
  refine lv_aload_n hx hb dX0_correct_69 rfl (lv_at hl 3 rfl) ?_
  refine lv_iload_n hx hb dX0_correct_70 rfl (lv_at hl 2 rfl) ?_
  refine Rd.callV (rest := []) (q0 := 0) (ci := 0) ⟨hx, hb, hml, hown, hts⟩ (c_X0_minutesLeft l D cA a F g N hW (F 8 z0.toNatClampNeg) (F 8 z0.toNatClampNeg).toNatClampNeg ((hW.wkr hjz0).2) (hW.wkr hjz0).1) (cwV 1 hts gX0_correct_X0_minutesLeft rfl rfl rfl (by decide +kernel) ⟨Nat.le_of_ble_eq_true rfl, Nat.le_of_ble_eq_true rfl⟩) hK hP rfl rfl rfl rfl rfl hl.1 (Nat.le_of_ble_eq_true rfl) dX0_correct_71 ⟨Nat.zero_le _, Nat.zero_le _⟩ ?_
  refine lv_bipush (v := 7) hx hb dX0_correct_74 (by decide) ?_
  refine lv_iload hx hb dX0_correct_76 (lv_at hl 0 rfl) ?_
  refine lv_imul hx hb dX0_correct_78 ?_
  refine lv_iadd hx hb dX0_correct_79 ?_
  refine lv_if_lt (tgt := 87) hx hb dX0_correct_80 (by decide) (fun c_80 => (h4 c_80 : False).elim) (fun c_80 => ?_)
  refine lv_iconst (v := 1) hx hb dX0_correct_83 (by decide) ?_
  refine lv_goto (tgt := 88) hx hb dX0_correct_84 (by decide) ?_
  refine Ru.callS (rest := []) ⟨hx, hb, hml, hown, hts⟩ (c_X0_needState l D cA 1 (by decide)) (va_cwS 1 hts gX0_correct_X0_needState rfl rfl rfl (by decide +kernel) ⟨Nat.le_of_ble_eq_true rfl, Nat.le_of_ble_eq_true rfl⟩) hK noP rfl rfl hl.1 (Nat.le_of_ble_eq_true rfl) dX0_correct_88 ⟨Nat.zero_le _, Nat.zero_le _⟩ ?_
  refine lv_aload_n hx hb dX0_correct_91 rfl (lv_at hl 3 rfl) ?_
  refine va_get (D := D) (ci := 0) (v := .ref (a 11)) (C := RX0) (T := TX0) (N := 16) hx hb hts hi hown hK hP 0 rfl rfl 11 (by decide) (hts (.fieldLink RX0 44 "AssignmentHouse" "hoursOf" "[I") (by decide +kernel)) (fun _ h9 => h9) rfl dX0_correct_92 ?_
  refine lv_iload_n hx hb dX0_correct_95 rfl (lv_at hl 4 rfl) ?_
  refine lv_iload_n hx hb dX0_correct_96 rfl (lv_at hl 5 rfl) ?_
  refine put_call (k := 9) (b := a 11) (n := 80) (f := (F 11)) (x := z0) (j := z0.toNatClampNeg) (v := z1) (rest := []) ⟨hx, hb, hml, hown, hts⟩ gX0_correct_X0_put hK hP hD hS hA rfl (ejz0) (by omega) (by decide) hl.1 (Nat.le_of_ble_eq_true rfl) dX0_correct_97 ⟨Nat.zero_le _, Nat.zero_le _⟩ ⟨Nat.le_of_ble_eq_true rfl, Nat.le_of_ble_eq_true rfl⟩ (fun H locs hP hD hS => ?_)
  have hP : va_P D vwCl (wX a cA (fUp F 11 z0.toNatClampNeg z1) g) H := hP
  have hD : va_D A (wX a cA (fUp F 11 z0.toNatClampNeg z1) g) := hD
  refine lv_iload hx hb dX0_correct_100 (lv_at hl 1 rfl) ?_
  exact hend 102 ls _ (()) _ _ dX0_correct_102 hP hD hS (rfl)

set_option maxHeartbeats 4000000 in
set_option maxRecDepth 100000 in
theorem b_X0_correct (l : Launch) (D : va_G) (cA : ClassId) (hl9 : l.stackTraces = false) (a : Nat → Nat) (F : Nat → Nat → Int32) (g : Nat → Int32) (N : Nat) (hW : wf F N) (z0 z1 : Int32) (hk : kCorrect F N z0 z1 ≠ 0) : Bx l D cA (wX a cA F g) yX0_correct wsX0_correct rbX0_correct [.ref (a 16), .int z0, .int z1] (exN (kCorrect F N z0 z1) eI eA eS) := by
  refine Bx.of (cc := cX0_correct) (maxL := 6) (ret := (some .int)) (by decide) rfl (Nat.le_of_ble_eq_true rfl) ?_
  intro p e s m args below meth c ls hx hb hts hown hml hK hP hl htab hlocks hZ
  have hown : s.vm.findClass RX0 = some m.cls := hown
  have hi : ∀ w ∈ wsX00, w ∈ wsX0_correct := by decide +kernel
  have hl : lv_has ls 6 [(0, .ref (a 16)), (1, .int z0), (2, .int z1)] := hl
  have hN : N ≤ 80 := hW.n
  have hc : F 7 0 = nI N := hW.c
  refine lv_iload_n hx hb dX0_correct_0 rfl (lv_at hl 1 rfl) ?_
  refine lv_aload_n hx hb dX0_correct_1 rfl (lv_at hl 0 rfl) ?_
  refine va_get (D := D) (ci := 0) (v := .int (F 7 0)) (C := RX0) (T := TX0) (N := 16) hx hb hts hi hown hK hP 0 rfl rfl 7 (by decide) (hts (.fieldLink RX0 32 "AssignmentHouse" "shiftCount" "I") (by decide +kernel)) (fun _ h9 => h9) rfl dX0_correct_2 ?_
  refine (Classical.em (cI z0 (F 7 0))).elim (fun h1 => ?_) (fun h1 => ?_)
  rotate_left
  rw [show exN (kCorrect F N z0 z1) eI eA eS = eI from by rw [kCorrect, if_neg h1]; rfl]
  exact Bx.thruS (rest := []) ⟨hx, hb, hml, hown, hts⟩ htab hlocks (b_X0_needOneOf l D cA hl9 z0 (F 7 0) (cI_n h1)) (va_cwS 2 hts gX0_correct_X0_needOneOf rfl rfl rfl (by decide +kernel) ⟨Nat.le_of_ble_eq_true rfl, Nat.le_of_ble_eq_true rfl⟩) hK noP hZ rfl rfl hl.1 (Nat.le_of_ble_eq_true rfl) dX0_correct_5 ⟨Nat.le_of_ble_eq_true rfl, Nat.le_of_ble_eq_true rfl⟩
  refine Ru.callS (rest := []) ⟨hx, hb, hml, hown, hts⟩ (c_X0_needOneOf l D cA z0 (F 7 0) h1.1 h1.2) (va_cwS 2 hts gX0_correct_X0_needOneOf rfl rfl rfl (by decide +kernel) ⟨Nat.le_of_ble_eq_true rfl, Nat.le_of_ble_eq_true rfl⟩) hK noP rfl rfl hl.1 (Nat.le_of_ble_eq_true rfl) dX0_correct_5 ⟨Nat.zero_le _, Nat.zero_le _⟩ ?_
  obtain ⟨hjz0, ejz0⟩ := cI_of h1 (n := N) (hc) (by omega)
  refine lv_iload_n hx hb dX0_correct_8 rfl (lv_at hl 2 rfl) ?_
  refine lv_iconst (v := 0) hx hb dX0_correct_9 (by decide) ?_
  refine lv_bipush (v := 16) hx hb dX0_correct_10 (by decide) ?_
  refine (Classical.em (cR z1 0 16)).elim (fun h2 => ?_) (fun h2 => ?_)
  rotate_left
  rw [show exN (kCorrect F N z0 z1) eI eA eS = eA from by rw [kCorrect, if_pos h1, if_neg h2]; rfl]
  exact Bx.thruS (rest := []) ⟨hx, hb, hml, hown, hts⟩ htab hlocks (b_X0_needRange l D cA hl9 z1 0 16 (cR_n h2)) (va_cwS 3 hts gX0_correct_X0_needRange rfl rfl rfl (by decide +kernel) ⟨Nat.le_of_ble_eq_true rfl, Nat.le_of_ble_eq_true rfl⟩) hK noP hZ rfl rfl hl.1 (Nat.le_of_ble_eq_true rfl) dX0_correct_12 ⟨Nat.le_of_ble_eq_true rfl, Nat.le_of_ble_eq_true rfl⟩
  refine Ru.callS (rest := []) ⟨hx, hb, hml, hown, hts⟩ (c_X0_needRange l D cA z1 0 16 h2.1 h2.2) (va_cwS 3 hts gX0_correct_X0_needRange rfl rfl rfl (by decide +kernel) ⟨Nat.le_of_ble_eq_true rfl, Nat.le_of_ble_eq_true rfl⟩) hK noP rfl rfl hl.1 (Nat.le_of_ble_eq_true rfl) dX0_correct_12 ⟨Nat.zero_le _, Nat.zero_le _⟩ ?_
  refine lv_aload_n hx hb dX0_correct_15 rfl (lv_at hl 0 rfl) ?_
  refine va_get (D := D) (ci := 0) (v := .ref (a 8)) (C := RX0) (T := TX0) (N := 16) hx hb hts hi hown hK hP 0 rfl rfl 8 (by decide) (hts (.fieldLink RX0 35 "AssignmentHouse" "workerOf" "[I") (by decide +kernel)) (fun _ h9 => h9) rfl dX0_correct_16 ?_
  refine lv_iload_n hx hb dX0_correct_19 rfl (lv_at hl 1 rfl) ?_
  refine Rd.callS (rest := []) ⟨hx, hb, hml, hown, hts⟩ (c_X0_at l D cA (a 8) 80 (F 8) (z0) (z0.toNatClampNeg) (ejz0) (by omega) (by decide)) (va_cwS 2 hts gX0_correct_X0_at rfl rfl rfl (by decide +kernel) ⟨Nat.le_of_ble_eq_true rfl, Nat.le_of_ble_eq_true rfl⟩) hK (hP.sub [6] rfl) rfl rfl hl.1 (Nat.le_of_ble_eq_true rfl) dX0_correct_20 ⟨Nat.zero_le _, Nat.zero_le _⟩ ?_
  refine lv_istore_n (lv' := [(3, .int (F 8 z0.toNatClampNeg)), (0, .ref (a 16)), (1, .int z0), (2, .int z1)]) hx hb dX0_correct_23 rfl hl (by decide) rfl (fun ls hl => ?_)
  refine lv_aload_n hx hb dX0_correct_24 rfl (lv_at hl 1 rfl) ?_
  refine va_get (D := D) (ci := 0) (v := .ref (a 11)) (C := RX0) (T := TX0) (N := 16) hx hb hts hi hown hK hP 0 rfl rfl 11 (by decide) (hts (.fieldLink RX0 44 "AssignmentHouse" "hoursOf" "[I") (by decide +kernel)) (fun _ h9 => h9) rfl dX0_correct_25 ?_
  refine lv_iload_n hx hb dX0_correct_28 rfl (lv_at hl 2 rfl) ?_
  refine Rd.callS (rest := []) ⟨hx, hb, hml, hown, hts⟩ (c_X0_at l D cA (a 11) 80 (F 11) (z0) (z0.toNatClampNeg) (ejz0) (by omega) (by decide)) (va_cwS 2 hts gX0_correct_X0_at rfl rfl rfl (by decide +kernel) ⟨Nat.le_of_ble_eq_true rfl, Nat.le_of_ble_eq_true rfl⟩) hK (hP.sub [9] rfl) rfl rfl hl.1 (Nat.le_of_ble_eq_true rfl) dX0_correct_29 ⟨Nat.zero_le _, Nat.zero_le _⟩ ?_
  refine lv_istore (lv' := [(4, .int (F 11 z0.toNatClampNeg)), (3, .int (F 8 z0.toNatClampNeg)), (0, .ref (a 16)), (1, .int z0), (2, .int z1)]) hx hb dX0_correct_32 hl (by decide) rfl (fun ls hl => ?_)
  refine lv_iload_n hx hb dX0_correct_34 rfl (lv_at hl 4 rfl) ?_
  refine lv_iload hx hb dX0_correct_35 (lv_at hl 0 rfl) ?_
  refine lv_isub hx hb dX0_correct_37 ?_
  refine lv_istore (lv' := [(5, .int (z1 - (F 11 z0.toNatClampNeg))), (4, .int (F 11 z0.toNatClampNeg)), (3, .int (F 8 z0.toNatClampNeg)), (0, .ref (a 16)), (1, .int z0), (2, .int z1)]) hx hb dX0_correct_38 hl (by decide) rfl (fun ls hl => ?_)
  refine lv_aload_n hx hb dX0_correct_40 rfl (lv_at hl 3 rfl) ?_
  refine lv_iload_n hx hb dX0_correct_41 rfl (lv_at hl 2 rfl) ?_
  refine lv_aload_n hx hb dX0_correct_42 rfl (lv_at hl 3 rfl) ?_
  refine va_get (D := D) (ci := 0) (v := .ref (a 10)) (C := RX0) (T := TX0) (N := 16) hx hb hts hi hown hK hP 0 rfl rfl 10 (by decide) (hts (.fieldLink RX0 41 "AssignmentHouse" "dayOf" "[I") (by decide +kernel)) (fun _ h9 => h9) rfl dX0_correct_43 ?_
  refine lv_iload_n hx hb dX0_correct_46 rfl (lv_at hl 4 rfl) ?_
  refine Rd.callS (rest := [.int (F 8 z0.toNatClampNeg), .ref (a 16)]) ⟨hx, hb, hml, hown, hts⟩ (c_X0_at l D cA (a 10) 80 (F 10) (z0) (z0.toNatClampNeg) (ejz0) (by omega) (by decide)) (va_cwS 2 hts gX0_correct_X0_at rfl rfl rfl (by decide +kernel) ⟨Nat.le_of_ble_eq_true rfl, Nat.le_of_ble_eq_true rfl⟩) hK (hP.sub [8] rfl) rfl rfl hl.1 (Nat.le_of_ble_eq_true rfl) dX0_correct_47 ⟨Nat.zero_le _, Nat.zero_le _⟩ ?_
  refine Rd.callV (rest := []) (q0 := 0) (ci := 0) ⟨hx, hb, hml, hown, hts⟩ (c_X0_hoursOnDay l D cA a F g N hW (F 8 z0.toNatClampNeg) (F 10 z0.toNatClampNeg)) (cwV 2 hts gX0_correct_X0_hoursOnDay rfl rfl rfl (by decide +kernel) ⟨Nat.le_of_ble_eq_true rfl, Nat.le_of_ble_eq_true rfl⟩) hK hP rfl rfl rfl rfl rfl hl.1 (Nat.le_of_ble_eq_true rfl) dX0_correct_50 ⟨Nat.zero_le _, Nat.zero_le _⟩ ?_
  refine lv_iload hx hb dX0_correct_53 (lv_at hl 0 rfl) ?_
  refine lv_iadd hx hb dX0_correct_55 ?_
  refine lv_bipush (v := 24) hx hb dX0_correct_56 (by decide) ?_
  refine lv_icmp_gt (tgt := 65) hx hb dX0_correct_58 (by decide) (fun c_58 => ?_) (fun c_58 => ?_)
  · skip
    have h3 : ¬ ps (tOn F (F 8 z0.toNatClampNeg) (F 10 z0.toNatClampNeg)) N + (z1 - F 11 z0.toNatClampNeg) ≤ 24 := Int32.not_le.mpr c_58
    refine lv_iconst (v := 0) hx hb dX0_correct_65 (by decide) ?_
    rw [show exN (kCorrect F N z0 z1) eI eA eS = eS from by rw [kCorrect, if_pos h1, if_pos h2, if_neg h3]; rfl]
    exact Bx.thruS (rest := []) ⟨hx, hb, hml, hown, hts⟩ htab hlocks (b_X0_needState l D cA hl9 0 (rfl)) (va_cwS 1 hts gX0_correct_X0_needState rfl rfl rfl (by decide +kernel) ⟨Nat.le_of_ble_eq_true rfl, Nat.le_of_ble_eq_true rfl⟩) hK noP hZ rfl rfl hl.1 (Nat.le_of_ble_eq_true rfl) dX0_correct_66 ⟨Nat.le_of_ble_eq_true rfl, Nat.le_of_ble_eq_true rfl⟩
  · skip
    have h3 : ps (tOn F (F 8 z0.toNatClampNeg) (F 10 z0.toNatClampNeg)) N + (z1 - F 11 z0.toNatClampNeg) ≤ 24 := Int32.not_lt.mp c_58
    refine lv_iconst (v := 1) hx hb dX0_correct_61 (by decide) ?_
    refine lv_goto (tgt := 66) hx hb dX0_correct_62 (by decide) ?_
    refine Ru.callS (rest := []) ⟨hx, hb, hml, hown, hts⟩ (c_X0_needState l D cA 1 (by decide)) (va_cwS 1 hts gX0_correct_X0_needState rfl rfl rfl (by decide +kernel) ⟨Nat.le_of_ble_eq_true rfl, Nat.le_of_ble_eq_true rfl⟩) hK noP rfl rfl hl.1 (Nat.le_of_ble_eq_true rfl) dX0_correct_66 ⟨Nat.zero_le _, Nat.zero_le _⟩ ?_
    refine lv_aload_n hx hb dX0_correct_69 rfl (lv_at hl 3 rfl) ?_
    refine lv_iload_n hx hb dX0_correct_70 rfl (lv_at hl 2 rfl) ?_
    refine Rd.callV (rest := []) (q0 := 0) (ci := 0) ⟨hx, hb, hml, hown, hts⟩ (c_X0_minutesLeft l D cA a F g N hW (F 8 z0.toNatClampNeg) (F 8 z0.toNatClampNeg).toNatClampNeg ((hW.wkr hjz0).2) (hW.wkr hjz0).1) (cwV 1 hts gX0_correct_X0_minutesLeft rfl rfl rfl (by decide +kernel) ⟨Nat.le_of_ble_eq_true rfl, Nat.le_of_ble_eq_true rfl⟩) hK hP rfl rfl rfl rfl rfl hl.1 (Nat.le_of_ble_eq_true rfl) dX0_correct_71 ⟨Nat.zero_le _, Nat.zero_le _⟩ ?_
    refine lv_bipush (v := 7) hx hb dX0_correct_74 (by decide) ?_
    refine lv_iload hx hb dX0_correct_76 (lv_at hl 0 rfl) ?_
    refine lv_imul hx hb dX0_correct_78 ?_
    refine lv_iadd hx hb dX0_correct_79 ?_
    refine lv_if_lt (tgt := 87) hx hb dX0_correct_80 (by decide) (fun c_80 => ?_) (fun c_80 => ?_)
    · skip
      have h4 : ¬ ¬ 7 * ps (tHr F (F 8 z0.toNatClampNeg)) N - F 14 (F 8 z0.toNatClampNeg).toNatClampNeg + 7 * (z1 - F 11 z0.toNatClampNeg) < 0 := fun z => z c_80
      refine lv_iconst (v := 0) hx hb dX0_correct_87 (by decide) ?_
      rw [show exN (kCorrect F N z0 z1) eI eA eS = eS from by rw [kCorrect, if_pos h1, if_pos h2, if_pos h3, if_neg h4]; rfl]
      exact Bx.thruS (rest := []) ⟨hx, hb, hml, hown, hts⟩ htab hlocks (b_X0_needState l D cA hl9 0 (rfl)) (va_cwS 1 hts gX0_correct_X0_needState rfl rfl rfl (by decide +kernel) ⟨Nat.le_of_ble_eq_true rfl, Nat.le_of_ble_eq_true rfl⟩) hK noP hZ rfl rfl hl.1 (Nat.le_of_ble_eq_true rfl) dX0_correct_88 ⟨Nat.le_of_ble_eq_true rfl, Nat.le_of_ble_eq_true rfl⟩
    · skip
      have h4 : ¬ 7 * ps (tHr F (F 8 z0.toNatClampNeg)) N - F 14 (F 8 z0.toNatClampNeg).toNatClampNeg + 7 * (z1 - F 11 z0.toNatClampNeg) < 0 := c_80
      refine lv_iconst (v := 1) hx hb dX0_correct_83 (by decide) ?_
      refine lv_goto (tgt := 88) hx hb dX0_correct_84 (by decide) ?_
      exact absurd (by rw [kCorrect, if_pos h1, if_pos h2, if_pos h3, if_pos h4]) hk

set_option maxHeartbeats 4000000 in
set_option maxRecDepth 100000 in
theorem c_X0_takeHoliday (l : Launch) (D : va_G) (cA : ClassId) (a : Nat → Nat) (F : Nat → Nat → Int32) (g : Nat → Int32) (N : Nat) (hW : wf F N) (z0 z1 : Int32) (h1 : cI z0 6) (h2 : cR z1 1 10000) (h3 : z1 ≤ 7 * ps (tHr F z0) N - F 14 z0.toNatClampNeg) : Wi l D cA (S := Unit) (wX a cA F g) (fun _ => wX a cA (fUp F 14 z0.toNatClampNeg (F 14 z0.toNatClampNeg + z1)) g) yX0_takeHoliday wsX0_takeHoliday rmX0_takeHoliday [.ref (a 16), .int z0, .int z1] (fun r _ => r = 7 * ps (tHr F z0) N - F 14 z0.toNatClampNeg - z1) := by
  refine Wi.of (cc := cX0_takeHoliday) (maxL := 4) (by decide) rfl (Nat.le_of_ble_eq_true rfl) ?_
  intro p e s m args below meth c ls A Q hx hb hts hown hml hK hP hD hA hS hl hend
  have hown : s.vm.findClass RX0 = some m.cls := hown
  have hi : ∀ w ∈ wsX00, w ∈ wsX0_takeHoliday := by decide +kernel
  have hl : lv_has ls 4 [(0, .ref (a 16)), (1, .int z0), (2, .int z1)] := hl
  have hN : N ≤ 80 := hW.n
  have hc : F 7 0 = nI N := hW.c
  obtain ⟨hjz0, ejz0⟩ := cI_of h1 (n := 6) (rfl) (by omega)
  refine lv_iload_n hx hb dX0_takeHoliday_0 rfl (lv_at hl 1 rfl) ?_
  refine lv_bipush (v := 6) hx hb dX0_takeHoliday_1 (by decide) ?_
  refine Ru.callS (rest := []) ⟨hx, hb, hml, hown, hts⟩ (c_X0_needOneOf l D cA z0 6 h1.1 h1.2) (va_cwS 2 hts gX0_takeHoliday_X0_needOneOf rfl rfl rfl (by decide +kernel) ⟨Nat.le_of_ble_eq_true rfl, Nat.le_of_ble_eq_true rfl⟩) hK noP rfl rfl hl.1 (Nat.le_of_ble_eq_true rfl) dX0_takeHoliday_3 ⟨Nat.zero_le _, Nat.zero_le _⟩ ?_
  refine lv_iload_n hx hb dX0_takeHoliday_6 rfl (lv_at hl 2 rfl) ?_
  refine lv_iconst (v := 1) hx hb dX0_takeHoliday_7 (by decide) ?_
  refine lv_sipush (v := 10000) hx hb dX0_takeHoliday_8 (by decide) ?_
  refine Ru.callS (rest := []) ⟨hx, hb, hml, hown, hts⟩ (c_X0_needRange l D cA z1 1 10000 h2.1 h2.2) (va_cwS 3 hts gX0_takeHoliday_X0_needRange rfl rfl rfl (by decide +kernel) ⟨Nat.le_of_ble_eq_true rfl, Nat.le_of_ble_eq_true rfl⟩) hK noP rfl rfl hl.1 (Nat.le_of_ble_eq_true rfl) dX0_takeHoliday_11 ⟨Nat.zero_le _, Nat.zero_le _⟩ ?_
  refine lv_aload_n hx hb dX0_takeHoliday_14 rfl (lv_at hl 0 rfl) ?_
  refine lv_iload_n hx hb dX0_takeHoliday_15 rfl (lv_at hl 1 rfl) ?_
  refine Rd.callV (rest := []) (q0 := 0) (ci := 0) ⟨hx, hb, hml, hown, hts⟩ (c_X0_minutesLeft l D cA a F g N hW z0 z0.toNatClampNeg (ejz0) hjz0) (cwV 1 hts gX0_takeHoliday_X0_minutesLeft rfl rfl rfl (by decide +kernel) ⟨Nat.le_of_ble_eq_true rfl, Nat.le_of_ble_eq_true rfl⟩) hK hP rfl rfl rfl rfl rfl hl.1 (Nat.le_of_ble_eq_true rfl) dX0_takeHoliday_16 ⟨Nat.zero_le _, Nat.zero_le _⟩ ?_
  refine lv_istore_n (lv' := [(3, .int (7 * ps (tHr F z0) N - F 14 z0.toNatClampNeg)), (0, .ref (a 16)), (1, .int z0), (2, .int z1)]) hx hb dX0_takeHoliday_19 rfl hl (by decide) rfl (fun ls hl => ?_)
  refine lv_iload_n hx hb dX0_takeHoliday_20 rfl (lv_at hl 3 rfl) ?_
  refine lv_iload_n hx hb dX0_takeHoliday_21 rfl (lv_at hl 0 rfl) ?_
  refine lv_icmp_gt (tgt := 29) hx hb dX0_takeHoliday_22 (by decide) (fun c_22 => (absurd c_22 (Int32.not_lt.mpr h3) : False).elim) (fun c_22 => ?_)
  refine lv_iconst (v := 1) hx hb dX0_takeHoliday_25 (by decide) ?_
  refine lv_goto (tgt := 30) hx hb dX0_takeHoliday_26 (by decide) ?_
  refine Ru.callS (rest := []) ⟨hx, hb, hml, hown, hts⟩ (c_X0_needState l D cA 1 (by decide)) (va_cwS 1 hts gX0_takeHoliday_X0_needState rfl rfl rfl (by decide +kernel) ⟨Nat.le_of_ble_eq_true rfl, Nat.le_of_ble_eq_true rfl⟩) hK noP rfl rfl hl.1 (Nat.le_of_ble_eq_true rfl) dX0_takeHoliday_30 ⟨Nat.zero_le _, Nat.zero_le _⟩ ?_
  refine lv_aload_n hx hb dX0_takeHoliday_33 rfl (lv_at hl 1 rfl) ?_
  refine va_get (D := D) (ci := 0) (v := .ref (a 14)) (C := RX0) (T := TX0) (N := 16) hx hb hts hi hown hK hP 0 rfl rfl 14 (by decide) (hts (.fieldLink RX0 53 "AssignmentHouse" "minutesTaken" "[I") (by decide +kernel)) (fun _ h9 => h9) rfl dX0_takeHoliday_34 ?_
  refine lv_iload_n hx hb dX0_takeHoliday_37 rfl (lv_at hl 2 rfl) ?_
  refine lv_aload_n hx hb dX0_takeHoliday_38 rfl (lv_at hl 1 rfl) ?_
  refine va_get (D := D) (ci := 0) (v := .ref (a 14)) (C := RX0) (T := TX0) (N := 16) hx hb hts hi hown hK hP 0 rfl rfl 14 (by decide) (hts (.fieldLink RX0 53 "AssignmentHouse" "minutesTaken" "[I") (by decide +kernel)) (fun _ h9 => h9) rfl dX0_takeHoliday_39 ?_
  refine lv_iload_n hx hb dX0_takeHoliday_42 rfl (lv_at hl 2 rfl) ?_
  refine Rd.callS (rest := [.int z0, .ref (a 14)]) ⟨hx, hb, hml, hown, hts⟩ (c_X0_at l D cA (a 14) 6 (F 14) (z0) (z0.toNatClampNeg) (ejz0) (by omega) (by decide)) (va_cwS 2 hts gX0_takeHoliday_X0_at rfl rfl rfl (by decide +kernel) ⟨Nat.le_of_ble_eq_true rfl, Nat.le_of_ble_eq_true rfl⟩) hK (hP.sub [12] rfl) rfl rfl hl.1 (Nat.le_of_ble_eq_true rfl) dX0_takeHoliday_43 ⟨Nat.zero_le _, Nat.zero_le _⟩ ?_
  refine lv_iload_n hx hb dX0_takeHoliday_46 rfl (lv_at hl 3 rfl) ?_
  refine lv_iadd hx hb dX0_takeHoliday_47 ?_
  refine put_call (k := 12) (b := a 14) (n := 6) (f := (F 14)) (x := z0) (j := z0.toNatClampNeg) (v := ((F 14 z0.toNatClampNeg) + z1)) (rest := []) ⟨hx, hb, hml, hown, hts⟩ gX0_takeHoliday_X0_put hK hP hD hS hA rfl (ejz0) (by omega) (by decide) hl.1 (Nat.le_of_ble_eq_true rfl) dX0_takeHoliday_48 ⟨Nat.zero_le _, Nat.zero_le _⟩ ⟨Nat.le_of_ble_eq_true rfl, Nat.le_of_ble_eq_true rfl⟩ (fun H locs hP hD hS => ?_)
  have hP : va_P D vwCl (wX a cA (fUp F 14 z0.toNatClampNeg ((F 14 z0.toNatClampNeg) + z1)) g) H := hP
  have hD : va_D A (wX a cA (fUp F 14 z0.toNatClampNeg ((F 14 z0.toNatClampNeg) + z1)) g) := hD
  refine lv_iload_n hx hb dX0_takeHoliday_51 rfl (lv_at hl 0 rfl) ?_
  refine lv_iload_n hx hb dX0_takeHoliday_52 rfl (lv_at hl 3 rfl) ?_
  refine lv_isub hx hb dX0_takeHoliday_53 ?_
  exact hend 54 ls _ (()) _ _ dX0_takeHoliday_54 hP hD hS (rfl)

set_option maxHeartbeats 4000000 in
set_option maxRecDepth 100000 in
theorem b_X0_takeHoliday (l : Launch) (D : va_G) (cA : ClassId) (hl9 : l.stackTraces = false) (a : Nat → Nat) (F : Nat → Nat → Int32) (g : Nat → Int32) (N : Nat) (hW : wf F N) (z0 z1 : Int32) (hk : kTake F N z0 z1 ≠ 0) : Bx l D cA (wX a cA F g) yX0_takeHoliday wsX0_takeHoliday rbX0_takeHoliday [.ref (a 16), .int z0, .int z1] (exN (kTake F N z0 z1) eI eA eS) := by
  refine Bx.of (cc := cX0_takeHoliday) (maxL := 4) (ret := (some .int)) (by decide) rfl (Nat.le_of_ble_eq_true rfl) ?_
  intro p e s m args below meth c ls hx hb hts hown hml hK hP hl htab hlocks hZ
  have hown : s.vm.findClass RX0 = some m.cls := hown
  have hi : ∀ w ∈ wsX00, w ∈ wsX0_takeHoliday := by decide +kernel
  have hl : lv_has ls 4 [(0, .ref (a 16)), (1, .int z0), (2, .int z1)] := hl
  have hN : N ≤ 80 := hW.n
  have hc : F 7 0 = nI N := hW.c
  refine lv_iload_n hx hb dX0_takeHoliday_0 rfl (lv_at hl 1 rfl) ?_
  refine lv_bipush (v := 6) hx hb dX0_takeHoliday_1 (by decide) ?_
  refine (Classical.em (cI z0 6)).elim (fun h1 => ?_) (fun h1 => ?_)
  rotate_left
  rw [show exN (kTake F N z0 z1) eI eA eS = eI from by rw [kTake, if_neg h1]; rfl]
  exact Bx.thruS (rest := []) ⟨hx, hb, hml, hown, hts⟩ htab hlocks (b_X0_needOneOf l D cA hl9 z0 6 (cI_n h1)) (va_cwS 2 hts gX0_takeHoliday_X0_needOneOf rfl rfl rfl (by decide +kernel) ⟨Nat.le_of_ble_eq_true rfl, Nat.le_of_ble_eq_true rfl⟩) hK noP hZ rfl rfl hl.1 (Nat.le_of_ble_eq_true rfl) dX0_takeHoliday_3 ⟨Nat.le_of_ble_eq_true rfl, Nat.le_of_ble_eq_true rfl⟩
  refine Ru.callS (rest := []) ⟨hx, hb, hml, hown, hts⟩ (c_X0_needOneOf l D cA z0 6 h1.1 h1.2) (va_cwS 2 hts gX0_takeHoliday_X0_needOneOf rfl rfl rfl (by decide +kernel) ⟨Nat.le_of_ble_eq_true rfl, Nat.le_of_ble_eq_true rfl⟩) hK noP rfl rfl hl.1 (Nat.le_of_ble_eq_true rfl) dX0_takeHoliday_3 ⟨Nat.zero_le _, Nat.zero_le _⟩ ?_
  obtain ⟨hjz0, ejz0⟩ := cI_of h1 (n := 6) (rfl) (by omega)
  refine lv_iload_n hx hb dX0_takeHoliday_6 rfl (lv_at hl 2 rfl) ?_
  refine lv_iconst (v := 1) hx hb dX0_takeHoliday_7 (by decide) ?_
  refine lv_sipush (v := 10000) hx hb dX0_takeHoliday_8 (by decide) ?_
  refine (Classical.em (cR z1 1 10000)).elim (fun h2 => ?_) (fun h2 => ?_)
  rotate_left
  rw [show exN (kTake F N z0 z1) eI eA eS = eA from by rw [kTake, if_pos h1, if_neg h2]; rfl]
  exact Bx.thruS (rest := []) ⟨hx, hb, hml, hown, hts⟩ htab hlocks (b_X0_needRange l D cA hl9 z1 1 10000 (cR_n h2)) (va_cwS 3 hts gX0_takeHoliday_X0_needRange rfl rfl rfl (by decide +kernel) ⟨Nat.le_of_ble_eq_true rfl, Nat.le_of_ble_eq_true rfl⟩) hK noP hZ rfl rfl hl.1 (Nat.le_of_ble_eq_true rfl) dX0_takeHoliday_11 ⟨Nat.le_of_ble_eq_true rfl, Nat.le_of_ble_eq_true rfl⟩
  refine Ru.callS (rest := []) ⟨hx, hb, hml, hown, hts⟩ (c_X0_needRange l D cA z1 1 10000 h2.1 h2.2) (va_cwS 3 hts gX0_takeHoliday_X0_needRange rfl rfl rfl (by decide +kernel) ⟨Nat.le_of_ble_eq_true rfl, Nat.le_of_ble_eq_true rfl⟩) hK noP rfl rfl hl.1 (Nat.le_of_ble_eq_true rfl) dX0_takeHoliday_11 ⟨Nat.zero_le _, Nat.zero_le _⟩ ?_
  refine lv_aload_n hx hb dX0_takeHoliday_14 rfl (lv_at hl 0 rfl) ?_
  refine lv_iload_n hx hb dX0_takeHoliday_15 rfl (lv_at hl 1 rfl) ?_
  refine Rd.callV (rest := []) (q0 := 0) (ci := 0) ⟨hx, hb, hml, hown, hts⟩ (c_X0_minutesLeft l D cA a F g N hW z0 z0.toNatClampNeg (ejz0) hjz0) (cwV 1 hts gX0_takeHoliday_X0_minutesLeft rfl rfl rfl (by decide +kernel) ⟨Nat.le_of_ble_eq_true rfl, Nat.le_of_ble_eq_true rfl⟩) hK hP rfl rfl rfl rfl rfl hl.1 (Nat.le_of_ble_eq_true rfl) dX0_takeHoliday_16 ⟨Nat.zero_le _, Nat.zero_le _⟩ ?_
  refine lv_istore_n (lv' := [(3, .int (7 * ps (tHr F z0) N - F 14 z0.toNatClampNeg)), (0, .ref (a 16)), (1, .int z0), (2, .int z1)]) hx hb dX0_takeHoliday_19 rfl hl (by decide) rfl (fun ls hl => ?_)
  refine lv_iload_n hx hb dX0_takeHoliday_20 rfl (lv_at hl 3 rfl) ?_
  refine lv_iload_n hx hb dX0_takeHoliday_21 rfl (lv_at hl 0 rfl) ?_
  refine lv_icmp_gt (tgt := 29) hx hb dX0_takeHoliday_22 (by decide) (fun c_22 => ?_) (fun c_22 => ?_)
  · skip
    have h3 : ¬ z1 ≤ 7 * ps (tHr F z0) N - F 14 z0.toNatClampNeg := Int32.not_le.mpr c_22
    refine lv_iconst (v := 0) hx hb dX0_takeHoliday_29 (by decide) ?_
    rw [show exN (kTake F N z0 z1) eI eA eS = eS from by rw [kTake, if_pos h1, if_pos h2, if_neg h3]; rfl]
    exact Bx.thruS (rest := []) ⟨hx, hb, hml, hown, hts⟩ htab hlocks (b_X0_needState l D cA hl9 0 (rfl)) (va_cwS 1 hts gX0_takeHoliday_X0_needState rfl rfl rfl (by decide +kernel) ⟨Nat.le_of_ble_eq_true rfl, Nat.le_of_ble_eq_true rfl⟩) hK noP hZ rfl rfl hl.1 (Nat.le_of_ble_eq_true rfl) dX0_takeHoliday_30 ⟨Nat.le_of_ble_eq_true rfl, Nat.le_of_ble_eq_true rfl⟩
  · skip
    have h3 : z1 ≤ 7 * ps (tHr F z0) N - F 14 z0.toNatClampNeg := Int32.not_lt.mp c_22
    refine lv_iconst (v := 1) hx hb dX0_takeHoliday_25 (by decide) ?_
    refine lv_goto (tgt := 30) hx hb dX0_takeHoliday_26 (by decide) ?_
    exact absurd (by rw [kTake, if_pos h1, if_pos h2, if_pos h3]) hk

set_option maxHeartbeats 4000000 in
set_option maxRecDepth 100000 in
theorem c_X0_holiday (l : Launch) (D : va_G) (cA : ClassId) (a : Nat → Nat) (F : Nat → Nat → Int32) (g : Nat → Int32) (N : Nat) (hW : wf F N) (z0 : Int32) (h1 : cI z0 6) : Rd l D cA (wX a cA F g) yX0_holiday wsX0_holiday rmX0_holiday [.ref (a 16), .int z0] (7 * ps (tHr F z0) N - F 14 z0.toNatClampNeg) := by
  refine Rd.of (cc := cX0_holiday) (maxL := 2) (by decide) rfl (Nat.le_of_ble_eq_true rfl) ?_
  intro p e s m args below meth c ls Q hx hb hts hown hml hK hP hl hend
  have hown : s.vm.findClass RX0 = some m.cls := hown
  have hl : lv_has ls 2 [(0, .ref (a 16)), (1, .int z0)] := hl
  have hN : N ≤ 80 := hW.n
  have hc : F 7 0 = nI N := hW.c
  obtain ⟨hjz0, ejz0⟩ := cI_of h1 (n := 6) (rfl) (by omega)
  refine lv_iload_n hx hb dX0_holiday_0 rfl (lv_at hl 1 rfl) ?_
  refine lv_bipush (v := 6) hx hb dX0_holiday_1 (by decide) ?_
  refine Ru.callS (rest := []) ⟨hx, hb, hml, hown, hts⟩ (c_X0_needOneOf l D cA z0 6 h1.1 h1.2) (va_cwS 2 hts gX0_holiday_X0_needOneOf rfl rfl rfl (by decide +kernel) ⟨Nat.le_of_ble_eq_true rfl, Nat.le_of_ble_eq_true rfl⟩) hK noP rfl rfl hl.1 (Nat.le_of_ble_eq_true rfl) dX0_holiday_3 ⟨Nat.zero_le _, Nat.zero_le _⟩ ?_
  refine lv_aload_n hx hb dX0_holiday_6 rfl (lv_at hl 0 rfl) ?_
  refine lv_iload_n hx hb dX0_holiday_7 rfl (lv_at hl 1 rfl) ?_
  refine Rd.callV (rest := []) (q0 := 0) (ci := 0) ⟨hx, hb, hml, hown, hts⟩ (c_X0_minutesLeft l D cA a F g N hW z0 z0.toNatClampNeg (ejz0) hjz0) (cwV 1 hts gX0_holiday_X0_minutesLeft rfl rfl rfl (by decide +kernel) ⟨Nat.le_of_ble_eq_true rfl, Nat.le_of_ble_eq_true rfl⟩) hK hP rfl rfl rfl rfl rfl hl.1 (Nat.le_of_ble_eq_true rfl) dX0_holiday_8 ⟨Nat.zero_le _, Nat.zero_le _⟩ ?_
  exact hend 11 ls _ dX0_holiday_11 (rfl)

set_option maxHeartbeats 4000000 in
set_option maxRecDepth 100000 in
theorem b_X0_holiday (l : Launch) (D : va_G) (cA : ClassId) (hl9 : l.stackTraces = false) (a : Nat → Nat) (F : Nat → Nat → Int32) (g : Nat → Int32) (N : Nat) (hW : wf F N) (z0 : Int32) (hk : kW z0 ≠ 0) : Bx l D cA (wX a cA F g) yX0_holiday wsX0_holiday rbX0_holiday [.ref (a 16), .int z0] (exN (kW z0) eI eA eS) := by
  refine Bx.of (cc := cX0_holiday) (maxL := 2) (ret := (some .int)) (by decide) rfl (Nat.le_of_ble_eq_true rfl) ?_
  intro p e s m args below meth c ls hx hb hts hown hml hK hP hl htab hlocks hZ
  have hown : s.vm.findClass RX0 = some m.cls := hown
  have hl : lv_has ls 2 [(0, .ref (a 16)), (1, .int z0)] := hl
  have hN : N ≤ 80 := hW.n
  have hc : F 7 0 = nI N := hW.c
  refine lv_iload_n hx hb dX0_holiday_0 rfl (lv_at hl 1 rfl) ?_
  refine lv_bipush (v := 6) hx hb dX0_holiday_1 (by decide) ?_
  refine (Classical.em (cI z0 6)).elim (fun h1 => ?_) (fun h1 => ?_)
  rotate_left
  rw [show exN (kW z0) eI eA eS = eI from by rw [kW, if_neg h1]; rfl]
  exact Bx.thruS (rest := []) ⟨hx, hb, hml, hown, hts⟩ htab hlocks (b_X0_needOneOf l D cA hl9 z0 6 (cI_n h1)) (va_cwS 2 hts gX0_holiday_X0_needOneOf rfl rfl rfl (by decide +kernel) ⟨Nat.le_of_ble_eq_true rfl, Nat.le_of_ble_eq_true rfl⟩) hK noP hZ rfl rfl hl.1 (Nat.le_of_ble_eq_true rfl) dX0_holiday_3 ⟨Nat.le_of_ble_eq_true rfl, Nat.le_of_ble_eq_true rfl⟩
  exact absurd (by rw [kW, if_pos h1]) hk

set_option maxHeartbeats 4000000 in
set_option maxRecDepth 100000 in
theorem c_X0_hours (l : Launch) (D : va_G) (cA : ClassId) (a : Nat → Nat) (F : Nat → Nat → Int32) (g : Nat → Int32) (N : Nat) (hW : wf F N) (z0 z1 : Int32) (h1 : cI z0 6) (h2 : cI z1 20) : Rd l D cA (wX a cA F g) yX0_hours wsX0_hours rmX0_hours [.ref (a 16), .int z0, .int z1] (ps (tWk F z0 z1) N) := by
  refine Rd.of (cc := cX0_hours) (maxL := 5) (by decide) rfl (Nat.le_of_ble_eq_true rfl) ?_
  intro p e s m args below meth c ls Q hx hb hts hown hml hK hP hl hend
  have hown : s.vm.findClass RX0 = some m.cls := hown
  have hi : ∀ w ∈ wsX00, w ∈ wsX0_hours := by decide +kernel
  have hl : lv_has ls 5 [(0, .ref (a 16)), (1, .int z0), (2, .int z1)] := hl
  have hN : N ≤ 80 := hW.n
  have hc : F 7 0 = nI N := hW.c
  obtain ⟨hjz0, ejz0⟩ := cI_of h1 (n := 6) (rfl) (by omega)
  obtain ⟨hjz1, ejz1⟩ := cI_of h2 (n := 20) (rfl) (by omega)
  refine lv_iload_n hx hb dX0_hours_0 rfl (lv_at hl 1 rfl) ?_
  refine lv_bipush (v := 6) hx hb dX0_hours_1 (by decide) ?_
  refine Ru.callS (rest := []) ⟨hx, hb, hml, hown, hts⟩ (c_X0_needOneOf l D cA z0 6 h1.1 h1.2) (va_cwS 2 hts gX0_hours_X0_needOneOf rfl rfl rfl (by decide +kernel) ⟨Nat.le_of_ble_eq_true rfl, Nat.le_of_ble_eq_true rfl⟩) hK noP rfl rfl hl.1 (Nat.le_of_ble_eq_true rfl) dX0_hours_3 ⟨Nat.zero_le _, Nat.zero_le _⟩ ?_
  refine lv_iload_n hx hb dX0_hours_6 rfl (lv_at hl 2 rfl) ?_
  refine lv_bipush (v := 20) hx hb dX0_hours_7 (by decide) ?_
  refine Ru.callS (rest := []) ⟨hx, hb, hml, hown, hts⟩ (c_X0_needOneOf l D cA z1 20 h2.1 h2.2) (va_cwS 2 hts gX0_hours_X0_needOneOf rfl rfl rfl (by decide +kernel) ⟨Nat.le_of_ble_eq_true rfl, Nat.le_of_ble_eq_true rfl⟩) hK noP rfl rfl hl.1 (Nat.le_of_ble_eq_true rfl) dX0_hours_9 ⟨Nat.zero_le _, Nat.zero_le _⟩ ?_
  refine lv_iconst (v := 0) hx hb dX0_hours_12 (by decide) ?_
  refine lv_istore_n (lv' := [(3, .int 0), (0, .ref (a 16)), (1, .int z0), (2, .int z1)]) hx hb dX0_hours_13 rfl hl (by decide) rfl (fun ls hl => ?_)
  refine lv_iconst (v := 0) hx hb dX0_hours_14 (by decide) ?_
  refine lv_istore (lv' := [(4, .int 0), (3, .int 0), (0, .ref (a 16)), (1, .int z0), (2, .int z1)]) hx hb dX0_hours_15 hl (by decide) rfl (fun ls hl => ?_)
  have K_17 : ∀ (n i : Nat) (x3 : Int32) (ls : Array Slot), i + n = N → x3 = ps (tWk F z0 z1) i → lv_has ls 5 [(0, .ref (a 16)), (1, .int z0), (2, .int z1), (3, .int x3), (4, .int (nI i))] → W p l e rmX0_hours s m args below meth c s.heap [] 0 0 Q (F0 m 17 ls []) := by
    intro n
    induction n with
    | zero =>
      intro i x3 ls hin_17 ex3 hl
      have hiN : i = N := by omega
      refine lv_iload hx hb dX0_hours_17 (lv_at hl 4 rfl) ?_
      refine lv_aload_n hx hb dX0_hours_19 rfl (lv_at hl 0 rfl) ?_
      refine va_get (D := D) (ci := 0) (v := .int (F 7 0)) (C := RX0) (T := TX0) (N := 16) hx hb hts hi hown hK hP 0 rfl rfl 7 (by decide) (hts (.fieldLink RX0 32 "AssignmentHouse" "shiftCount" "I") (by decide +kernel)) (fun _ h9 => h9) rfl dX0_hours_20 ?_
      refine lv_icmp_ge (tgt := 55) hx hb dX0_hours_23 (by decide) (fun c_23 => ?_) (fun c_23 => (absurd (((br_ge hc (by omega) (by omega : i ≤ N)).mpr hiN)) c_23 : False).elim)
      refine lv_iload_n hx hb dX0_hours_55 rfl (lv_at hl 3 rfl) ?_
      exact hend 56 ls _ dX0_hours_56 (by rw [ex3, hiN])
    | succ n ih_17 =>
      intro i x3 ls hin_17 ex3 hl
      have hiN : i < N := by omega
      refine lv_iload hx hb dX0_hours_17 (lv_at hl 4 rfl) ?_
      refine lv_aload_n hx hb dX0_hours_19 rfl (lv_at hl 0 rfl) ?_
      refine va_get (D := D) (ci := 0) (v := .int (F 7 0)) (C := RX0) (T := TX0) (N := 16) hx hb hts hi hown hK hP 0 rfl rfl 7 (by decide) (hts (.fieldLink RX0 32 "AssignmentHouse" "shiftCount" "I") (by decide +kernel)) (fun _ h9 => h9) rfl dX0_hours_20 ?_
      refine lv_icmp_ge (tgt := 55) hx hb dX0_hours_23 (by decide) (fun c_23 => (absurd (((br_ge hc (by omega) (by omega : i ≤ N)).mp c_23)) (by omega) : False).elim) (fun c_23 => ?_)
      refine lv_aload_n hx hb dX0_hours_26 rfl (lv_at hl 0 rfl) ?_
      refine lv_iload hx hb dX0_hours_27 (lv_at hl 4 rfl) ?_
      refine lv_iload_n hx hb dX0_hours_29 rfl (lv_at hl 1 rfl) ?_
      refine lv_iload_n hx hb dX0_hours_30 rfl (lv_at hl 2 rfl) ?_
      refine Rd.callV (rest := []) (q0 := 0) (ci := 0) ⟨hx, hb, hml, hown, hts⟩ (c_X0_isOfWorker l D cA a F g (nI i) i rfl (by omega) z0 z1) (cwV 3 hts gX0_hours_X0_isOfWorker rfl rfl rfl (by decide +kernel) ⟨Nat.le_of_ble_eq_true rfl, Nat.le_of_ble_eq_true rfl⟩) hK hP rfl rfl rfl rfl rfl hl.1 (Nat.le_of_ble_eq_true rfl) dX0_hours_31 ⟨Nat.zero_le _, Nat.zero_le _⟩ ?_
      refine lv_if_eq (tgt := 49) hx hb dX0_hours_34 (by decide) (fun c_34 => ?_) (fun c_34 => ?_)
      · skip
        have hq : ¬ (F 8 i = z0 ∧ F 10 i / 7 = z1) := fun h => absurd c_34 (by rw [if_pos h]; decide)
        refine lv_iinc (v := (nI (i + 1))) (lv' := [(4, .int (nI (i + 1))), (0, .ref (a 16)), (1, .int z0), (2, .int z1), (3, .int x3)]) hx hb dX0_hours_49 hl (k := 4) rfl (nI_1 i) (by decide) rfl (fun ls hl => ?_)
        refine lv_goto (tgt := 17) hx hb dX0_hours_52 (by decide) ?_
        exact ih_17 (i + 1) _ ls (by omega) (by rw [ps_s, ex3]; unfold tWk; rw [if_neg hq, i32_a0]) (lv_sub hl [1, 2, 3, 4, 0] rfl)
      · skip
        have hq : (F 8 i = z0 ∧ F 10 i / 7 = z1) := Classical.byContradiction (fun h => c_34 (if_neg h))
        refine lv_iload_n hx hb dX0_hours_37 rfl (lv_at hl 3 rfl) ?_
        refine lv_aload_n hx hb dX0_hours_38 rfl (lv_at hl 0 rfl) ?_
        refine va_get (D := D) (ci := 0) (v := .ref (a 11)) (C := RX0) (T := TX0) (N := 16) hx hb hts hi hown hK hP 0 rfl rfl 11 (by decide) (hts (.fieldLink RX0 44 "AssignmentHouse" "hoursOf" "[I") (by decide +kernel)) (fun _ h9 => h9) rfl dX0_hours_39 ?_
        refine lv_iload hx hb dX0_hours_42 (lv_at hl 4 rfl) ?_
        refine Rd.callS (rest := [.int x3]) ⟨hx, hb, hml, hown, hts⟩ (c_X0_at l D cA (a 11) 80 (F 11) (nI i) i (rfl) (by omega) (by decide)) (va_cwS 2 hts gX0_hours_X0_at rfl rfl rfl (by decide +kernel) ⟨Nat.le_of_ble_eq_true rfl, Nat.le_of_ble_eq_true rfl⟩) hK (hP.sub [9] rfl) rfl rfl hl.1 (Nat.le_of_ble_eq_true rfl) dX0_hours_44 ⟨Nat.zero_le _, Nat.zero_le _⟩ ?_
        refine lv_iadd hx hb dX0_hours_47 ?_
        refine lv_istore_n (lv' := [(3, .int (x3 + (F 11 i))), (0, .ref (a 16)), (1, .int z0), (2, .int z1), (4, .int (nI i))]) hx hb dX0_hours_48 rfl hl (by decide) rfl (fun ls hl => ?_)
        refine lv_iinc (v := (nI (i + 1))) (lv' := [(4, .int (nI (i + 1))), (3, .int (x3 + (F 11 i))), (0, .ref (a 16)), (1, .int z0), (2, .int z1)]) hx hb dX0_hours_49 hl (k := 4) rfl (nI_1 i) (by decide) rfl (fun ls hl => ?_)
        refine lv_goto (tgt := 17) hx hb dX0_hours_52 (by decide) ?_
        exact ih_17 (i + 1) _ ls (by omega) (by rw [ps_s, ex3]; unfold tWk; rw [if_pos hq]) (lv_sub hl [2, 3, 4, 1, 0] rfl)
  exact K_17 N 0 _ ls (by omega) (rfl) (lv_sub hl [2, 3, 4, 1, 0] rfl)

set_option maxHeartbeats 4000000 in
set_option maxRecDepth 100000 in
theorem b_X0_hours (l : Launch) (D : va_G) (cA : ClassId) (hl9 : l.stackTraces = false) (a : Nat → Nat) (F : Nat → Nat → Int32) (g : Nat → Int32) (N : Nat) (hW : wf F N) (z0 z1 : Int32) (hk : kWW z0 z1 ≠ 0) : Bx l D cA (wX a cA F g) yX0_hours wsX0_hours rbX0_hours [.ref (a 16), .int z0, .int z1] (exN (kWW z0 z1) eI eA eS) := by
  refine Bx.of (cc := cX0_hours) (maxL := 5) (ret := (some .int)) (by decide) rfl (Nat.le_of_ble_eq_true rfl) ?_
  intro p e s m args below meth c ls hx hb hts hown hml hK hP hl htab hlocks hZ
  have hown : s.vm.findClass RX0 = some m.cls := hown
  have hi : ∀ w ∈ wsX00, w ∈ wsX0_hours := by decide +kernel
  have hl : lv_has ls 5 [(0, .ref (a 16)), (1, .int z0), (2, .int z1)] := hl
  have hN : N ≤ 80 := hW.n
  have hc : F 7 0 = nI N := hW.c
  refine lv_iload_n hx hb dX0_hours_0 rfl (lv_at hl 1 rfl) ?_
  refine lv_bipush (v := 6) hx hb dX0_hours_1 (by decide) ?_
  refine (Classical.em (cI z0 6)).elim (fun h1 => ?_) (fun h1 => ?_)
  rotate_left
  rw [show exN (kWW z0 z1) eI eA eS = eI from by rw [kWW, if_neg h1]; rfl]
  exact Bx.thruS (rest := []) ⟨hx, hb, hml, hown, hts⟩ htab hlocks (b_X0_needOneOf l D cA hl9 z0 6 (cI_n h1)) (va_cwS 2 hts gX0_hours_X0_needOneOf rfl rfl rfl (by decide +kernel) ⟨Nat.le_of_ble_eq_true rfl, Nat.le_of_ble_eq_true rfl⟩) hK noP hZ rfl rfl hl.1 (Nat.le_of_ble_eq_true rfl) dX0_hours_3 ⟨Nat.le_of_ble_eq_true rfl, Nat.le_of_ble_eq_true rfl⟩
  refine Ru.callS (rest := []) ⟨hx, hb, hml, hown, hts⟩ (c_X0_needOneOf l D cA z0 6 h1.1 h1.2) (va_cwS 2 hts gX0_hours_X0_needOneOf rfl rfl rfl (by decide +kernel) ⟨Nat.le_of_ble_eq_true rfl, Nat.le_of_ble_eq_true rfl⟩) hK noP rfl rfl hl.1 (Nat.le_of_ble_eq_true rfl) dX0_hours_3 ⟨Nat.zero_le _, Nat.zero_le _⟩ ?_
  refine lv_iload_n hx hb dX0_hours_6 rfl (lv_at hl 2 rfl) ?_
  refine lv_bipush (v := 20) hx hb dX0_hours_7 (by decide) ?_
  refine (Classical.em (cI z1 20)).elim (fun h2 => ?_) (fun h2 => ?_)
  rotate_left
  rw [show exN (kWW z0 z1) eI eA eS = eI from by rw [kWW, if_pos h1, if_neg h2]; rfl]
  exact Bx.thruS (rest := []) ⟨hx, hb, hml, hown, hts⟩ htab hlocks (b_X0_needOneOf l D cA hl9 z1 20 (cI_n h2)) (va_cwS 2 hts gX0_hours_X0_needOneOf rfl rfl rfl (by decide +kernel) ⟨Nat.le_of_ble_eq_true rfl, Nat.le_of_ble_eq_true rfl⟩) hK noP hZ rfl rfl hl.1 (Nat.le_of_ble_eq_true rfl) dX0_hours_9 ⟨Nat.le_of_ble_eq_true rfl, Nat.le_of_ble_eq_true rfl⟩
  exact absurd (by rw [kWW, if_pos h1, if_pos h2]) hk

set_option maxHeartbeats 4000000 in
set_option maxRecDepth 100000 in
theorem c_X0_paid (l : Launch) (D : va_G) (cA : ClassId) (a : Nat → Nat) (F : Nat → Nat → Int32) (g : Nat → Int32) (N : Nat) (hW : wf F N) (z0 z1 : Int32) (h1 : cI z0 6) (h2 : cI z1 20) : Rd l D cA (wX a cA F g) yX0_paid wsX0_paid rmX0_paid [.ref (a 16), .int z0, .int z1] (F 12 (z0.toNatClampNeg * 20 + z1.toNatClampNeg)) := by
  refine Rd.of (cc := cX0_paid) (maxL := 3) (by decide) rfl (Nat.le_of_ble_eq_true rfl) ?_
  intro p e s m args below meth c ls Q hx hb hts hown hml hK hP hl hend
  have hown : s.vm.findClass RX0 = some m.cls := hown
  have hi : ∀ w ∈ wsX00, w ∈ wsX0_paid := by decide +kernel
  have hl : lv_has ls 3 [(0, .ref (a 16)), (1, .int z0), (2, .int z1)] := hl
  have hN : N ≤ 80 := hW.n
  have hc : F 7 0 = nI N := hW.c
  obtain ⟨hjz0, ejz0⟩ := cI_of h1 (n := 6) (rfl) (by omega)
  obtain ⟨hjz1, ejz1⟩ := cI_of h2 (n := 20) (rfl) (by omega)
  refine lv_iload_n hx hb dX0_paid_0 rfl (lv_at hl 1 rfl) ?_
  refine lv_bipush (v := 6) hx hb dX0_paid_1 (by decide) ?_
  refine Ru.callS (rest := []) ⟨hx, hb, hml, hown, hts⟩ (c_X0_needOneOf l D cA z0 6 h1.1 h1.2) (va_cwS 2 hts gX0_paid_X0_needOneOf rfl rfl rfl (by decide +kernel) ⟨Nat.le_of_ble_eq_true rfl, Nat.le_of_ble_eq_true rfl⟩) hK noP rfl rfl hl.1 (Nat.le_of_ble_eq_true rfl) dX0_paid_3 ⟨Nat.zero_le _, Nat.zero_le _⟩ ?_
  refine lv_iload_n hx hb dX0_paid_6 rfl (lv_at hl 2 rfl) ?_
  refine lv_bipush (v := 20) hx hb dX0_paid_7 (by decide) ?_
  refine Ru.callS (rest := []) ⟨hx, hb, hml, hown, hts⟩ (c_X0_needOneOf l D cA z1 20 h2.1 h2.2) (va_cwS 2 hts gX0_paid_X0_needOneOf rfl rfl rfl (by decide +kernel) ⟨Nat.le_of_ble_eq_true rfl, Nat.le_of_ble_eq_true rfl⟩) hK noP rfl rfl hl.1 (Nat.le_of_ble_eq_true rfl) dX0_paid_9 ⟨Nat.zero_le _, Nat.zero_le _⟩ ?_
  refine lv_aload_n hx hb dX0_paid_12 rfl (lv_at hl 0 rfl) ?_
  refine va_get (D := D) (ci := 0) (v := .ref (a 12)) (C := RX0) (T := TX0) (N := 16) hx hb hts hi hown hK hP 0 rfl rfl 12 (by decide) (hts (.fieldLink RX0 47 "AssignmentHouse" "paidFor" "[I") (by decide +kernel)) (fun _ h9 => h9) rfl dX0_paid_13 ?_
  refine lv_iload_n hx hb dX0_paid_16 rfl (lv_at hl 1 rfl) ?_
  refine lv_bipush (v := 20) hx hb dX0_paid_17 (by decide) ?_
  refine lv_imul hx hb dX0_paid_19 ?_
  refine lv_iload_n hx hb dX0_paid_20 rfl (lv_at hl 2 rfl) ?_
  refine lv_iadd hx hb dX0_paid_21 ?_
  refine Rd.callS (rest := []) ⟨hx, hb, hml, hown, hts⟩ (c_X0_at l D cA (a 12) 120 (F 12) ((z0 * 20) + z1) (z0.toNatClampNeg * 20 + z1.toNatClampNeg) (ix20 ejz0 ejz1) (by omega) (by decide)) (va_cwS 2 hts gX0_paid_X0_at rfl rfl rfl (by decide +kernel) ⟨Nat.le_of_ble_eq_true rfl, Nat.le_of_ble_eq_true rfl⟩) hK (hP.sub [10] rfl) rfl rfl hl.1 (Nat.le_of_ble_eq_true rfl) dX0_paid_22 ⟨Nat.zero_le _, Nat.zero_le _⟩ ?_
  exact hend 25 ls _ dX0_paid_25 (rfl)

set_option maxHeartbeats 4000000 in
set_option maxRecDepth 100000 in
theorem b_X0_paid (l : Launch) (D : va_G) (cA : ClassId) (hl9 : l.stackTraces = false) (a : Nat → Nat) (F : Nat → Nat → Int32) (g : Nat → Int32) (N : Nat) (hW : wf F N) (z0 z1 : Int32) (hk : kWW z0 z1 ≠ 0) : Bx l D cA (wX a cA F g) yX0_paid wsX0_paid rbX0_paid [.ref (a 16), .int z0, .int z1] (exN (kWW z0 z1) eI eA eS) := by
  refine Bx.of (cc := cX0_paid) (maxL := 3) (ret := (some .int)) (by decide) rfl (Nat.le_of_ble_eq_true rfl) ?_
  intro p e s m args below meth c ls hx hb hts hown hml hK hP hl htab hlocks hZ
  have hown : s.vm.findClass RX0 = some m.cls := hown
  have hi : ∀ w ∈ wsX00, w ∈ wsX0_paid := by decide +kernel
  have hl : lv_has ls 3 [(0, .ref (a 16)), (1, .int z0), (2, .int z1)] := hl
  have hN : N ≤ 80 := hW.n
  have hc : F 7 0 = nI N := hW.c
  refine lv_iload_n hx hb dX0_paid_0 rfl (lv_at hl 1 rfl) ?_
  refine lv_bipush (v := 6) hx hb dX0_paid_1 (by decide) ?_
  refine (Classical.em (cI z0 6)).elim (fun h1 => ?_) (fun h1 => ?_)
  rotate_left
  rw [show exN (kWW z0 z1) eI eA eS = eI from by rw [kWW, if_neg h1]; rfl]
  exact Bx.thruS (rest := []) ⟨hx, hb, hml, hown, hts⟩ htab hlocks (b_X0_needOneOf l D cA hl9 z0 6 (cI_n h1)) (va_cwS 2 hts gX0_paid_X0_needOneOf rfl rfl rfl (by decide +kernel) ⟨Nat.le_of_ble_eq_true rfl, Nat.le_of_ble_eq_true rfl⟩) hK noP hZ rfl rfl hl.1 (Nat.le_of_ble_eq_true rfl) dX0_paid_3 ⟨Nat.le_of_ble_eq_true rfl, Nat.le_of_ble_eq_true rfl⟩
  refine Ru.callS (rest := []) ⟨hx, hb, hml, hown, hts⟩ (c_X0_needOneOf l D cA z0 6 h1.1 h1.2) (va_cwS 2 hts gX0_paid_X0_needOneOf rfl rfl rfl (by decide +kernel) ⟨Nat.le_of_ble_eq_true rfl, Nat.le_of_ble_eq_true rfl⟩) hK noP rfl rfl hl.1 (Nat.le_of_ble_eq_true rfl) dX0_paid_3 ⟨Nat.zero_le _, Nat.zero_le _⟩ ?_
  refine lv_iload_n hx hb dX0_paid_6 rfl (lv_at hl 2 rfl) ?_
  refine lv_bipush (v := 20) hx hb dX0_paid_7 (by decide) ?_
  refine (Classical.em (cI z1 20)).elim (fun h2 => ?_) (fun h2 => ?_)
  rotate_left
  rw [show exN (kWW z0 z1) eI eA eS = eI from by rw [kWW, if_pos h1, if_neg h2]; rfl]
  exact Bx.thruS (rest := []) ⟨hx, hb, hml, hown, hts⟩ htab hlocks (b_X0_needOneOf l D cA hl9 z1 20 (cI_n h2)) (va_cwS 2 hts gX0_paid_X0_needOneOf rfl rfl rfl (by decide +kernel) ⟨Nat.le_of_ble_eq_true rfl, Nat.le_of_ble_eq_true rfl⟩) hK noP hZ rfl rfl hl.1 (Nat.le_of_ble_eq_true rfl) dX0_paid_9 ⟨Nat.le_of_ble_eq_true rfl, Nat.le_of_ble_eq_true rfl⟩
  exact absurd (by rw [kWW, if_pos h1, if_pos h2]) hk

set_option maxHeartbeats 4000000 in
set_option maxRecDepth 100000 in
theorem c_X0_billed (l : Launch) (D : va_G) (cA : ClassId) (a : Nat → Nat) (F : Nat → Nat → Int32) (g : Nat → Int32) (N : Nat) (hW : wf F N) (z0 z1 : Int32) (h1 : cI z0 4) (h2 : cI z1 20) : Rd l D cA (wX a cA F g) yX0_billed wsX0_billed rmX0_billed [.ref (a 16), .int z0, .int z1] (F 13 (z0.toNatClampNeg * 20 + z1.toNatClampNeg)) := by
  refine Rd.of (cc := cX0_billed) (maxL := 3) (by decide) rfl (Nat.le_of_ble_eq_true rfl) ?_
  intro p e s m args below meth c ls Q hx hb hts hown hml hK hP hl hend
  have hown : s.vm.findClass RX0 = some m.cls := hown
  have hi : ∀ w ∈ wsX00, w ∈ wsX0_billed := by decide +kernel
  have hl : lv_has ls 3 [(0, .ref (a 16)), (1, .int z0), (2, .int z1)] := hl
  have hN : N ≤ 80 := hW.n
  have hc : F 7 0 = nI N := hW.c
  obtain ⟨hjz0, ejz0⟩ := cI_of h1 (n := 4) (rfl) (by omega)
  obtain ⟨hjz1, ejz1⟩ := cI_of h2 (n := 20) (rfl) (by omega)
  refine lv_iload_n hx hb dX0_billed_0 rfl (lv_at hl 1 rfl) ?_
  refine lv_iconst (v := 4) hx hb dX0_billed_1 (by decide) ?_
  refine Ru.callS (rest := []) ⟨hx, hb, hml, hown, hts⟩ (c_X0_needOneOf l D cA z0 4 h1.1 h1.2) (va_cwS 2 hts gX0_billed_X0_needOneOf rfl rfl rfl (by decide +kernel) ⟨Nat.le_of_ble_eq_true rfl, Nat.le_of_ble_eq_true rfl⟩) hK noP rfl rfl hl.1 (Nat.le_of_ble_eq_true rfl) dX0_billed_2 ⟨Nat.zero_le _, Nat.zero_le _⟩ ?_
  refine lv_iload_n hx hb dX0_billed_5 rfl (lv_at hl 2 rfl) ?_
  refine lv_bipush (v := 20) hx hb dX0_billed_6 (by decide) ?_
  refine Ru.callS (rest := []) ⟨hx, hb, hml, hown, hts⟩ (c_X0_needOneOf l D cA z1 20 h2.1 h2.2) (va_cwS 2 hts gX0_billed_X0_needOneOf rfl rfl rfl (by decide +kernel) ⟨Nat.le_of_ble_eq_true rfl, Nat.le_of_ble_eq_true rfl⟩) hK noP rfl rfl hl.1 (Nat.le_of_ble_eq_true rfl) dX0_billed_8 ⟨Nat.zero_le _, Nat.zero_le _⟩ ?_
  refine lv_aload_n hx hb dX0_billed_11 rfl (lv_at hl 0 rfl) ?_
  refine va_get (D := D) (ci := 0) (v := .ref (a 13)) (C := RX0) (T := TX0) (N := 16) hx hb hts hi hown hK hP 0 rfl rfl 13 (by decide) (hts (.fieldLink RX0 50 "AssignmentHouse" "billedFor" "[I") (by decide +kernel)) (fun _ h9 => h9) rfl dX0_billed_12 ?_
  refine lv_iload_n hx hb dX0_billed_15 rfl (lv_at hl 1 rfl) ?_
  refine lv_bipush (v := 20) hx hb dX0_billed_16 (by decide) ?_
  refine lv_imul hx hb dX0_billed_18 ?_
  refine lv_iload_n hx hb dX0_billed_19 rfl (lv_at hl 2 rfl) ?_
  refine lv_iadd hx hb dX0_billed_20 ?_
  refine Rd.callS (rest := []) ⟨hx, hb, hml, hown, hts⟩ (c_X0_at l D cA (a 13) 80 (F 13) ((z0 * 20) + z1) (z0.toNatClampNeg * 20 + z1.toNatClampNeg) (ix20 ejz0 ejz1) (by omega) (by decide)) (va_cwS 2 hts gX0_billed_X0_at rfl rfl rfl (by decide +kernel) ⟨Nat.le_of_ble_eq_true rfl, Nat.le_of_ble_eq_true rfl⟩) hK (hP.sub [11] rfl) rfl rfl hl.1 (Nat.le_of_ble_eq_true rfl) dX0_billed_21 ⟨Nat.zero_le _, Nat.zero_le _⟩ ?_
  exact hend 24 ls _ dX0_billed_24 (rfl)

set_option maxHeartbeats 4000000 in
set_option maxRecDepth 100000 in
theorem b_X0_billed (l : Launch) (D : va_G) (cA : ClassId) (hl9 : l.stackTraces = false) (a : Nat → Nat) (F : Nat → Nat → Int32) (g : Nat → Int32) (N : Nat) (hW : wf F N) (z0 z1 : Int32) (hk : kSW z0 z1 ≠ 0) : Bx l D cA (wX a cA F g) yX0_billed wsX0_billed rbX0_billed [.ref (a 16), .int z0, .int z1] (exN (kSW z0 z1) eI eA eS) := by
  refine Bx.of (cc := cX0_billed) (maxL := 3) (ret := (some .int)) (by decide) rfl (Nat.le_of_ble_eq_true rfl) ?_
  intro p e s m args below meth c ls hx hb hts hown hml hK hP hl htab hlocks hZ
  have hown : s.vm.findClass RX0 = some m.cls := hown
  have hi : ∀ w ∈ wsX00, w ∈ wsX0_billed := by decide +kernel
  have hl : lv_has ls 3 [(0, .ref (a 16)), (1, .int z0), (2, .int z1)] := hl
  have hN : N ≤ 80 := hW.n
  have hc : F 7 0 = nI N := hW.c
  refine lv_iload_n hx hb dX0_billed_0 rfl (lv_at hl 1 rfl) ?_
  refine lv_iconst (v := 4) hx hb dX0_billed_1 (by decide) ?_
  refine (Classical.em (cI z0 4)).elim (fun h1 => ?_) (fun h1 => ?_)
  rotate_left
  rw [show exN (kSW z0 z1) eI eA eS = eI from by rw [kSW, if_neg h1]; rfl]
  exact Bx.thruS (rest := []) ⟨hx, hb, hml, hown, hts⟩ htab hlocks (b_X0_needOneOf l D cA hl9 z0 4 (cI_n h1)) (va_cwS 2 hts gX0_billed_X0_needOneOf rfl rfl rfl (by decide +kernel) ⟨Nat.le_of_ble_eq_true rfl, Nat.le_of_ble_eq_true rfl⟩) hK noP hZ rfl rfl hl.1 (Nat.le_of_ble_eq_true rfl) dX0_billed_2 ⟨Nat.le_of_ble_eq_true rfl, Nat.le_of_ble_eq_true rfl⟩
  refine Ru.callS (rest := []) ⟨hx, hb, hml, hown, hts⟩ (c_X0_needOneOf l D cA z0 4 h1.1 h1.2) (va_cwS 2 hts gX0_billed_X0_needOneOf rfl rfl rfl (by decide +kernel) ⟨Nat.le_of_ble_eq_true rfl, Nat.le_of_ble_eq_true rfl⟩) hK noP rfl rfl hl.1 (Nat.le_of_ble_eq_true rfl) dX0_billed_2 ⟨Nat.zero_le _, Nat.zero_le _⟩ ?_
  refine lv_iload_n hx hb dX0_billed_5 rfl (lv_at hl 2 rfl) ?_
  refine lv_bipush (v := 20) hx hb dX0_billed_6 (by decide) ?_
  refine (Classical.em (cI z1 20)).elim (fun h2 => ?_) (fun h2 => ?_)
  rotate_left
  rw [show exN (kSW z0 z1) eI eA eS = eI from by rw [kSW, if_pos h1, if_neg h2]; rfl]
  exact Bx.thruS (rest := []) ⟨hx, hb, hml, hown, hts⟩ htab hlocks (b_X0_needOneOf l D cA hl9 z1 20 (cI_n h2)) (va_cwS 2 hts gX0_billed_X0_needOneOf rfl rfl rfl (by decide +kernel) ⟨Nat.le_of_ble_eq_true rfl, Nat.le_of_ble_eq_true rfl⟩) hK noP hZ rfl rfl hl.1 (Nat.le_of_ble_eq_true rfl) dX0_billed_8 ⟨Nat.le_of_ble_eq_true rfl, Nat.le_of_ble_eq_true rfl⟩
  exact absurd (by rw [kSW, if_pos h1, if_pos h2]) hk

set_option maxHeartbeats 4000000 in
set_option maxRecDepth 100000 in
theorem c_X0_pay (l : Launch) (D : va_G) (cA : ClassId) (a : Nat → Nat) (F : Nat → Nat → Int32) (g : Nat → Int32) (N : Nat) (hW : wf F N) (z0 z1 : Int32) (h1 : cI z0 6) (h2 : cI z1 20) : Wi l D cA (S := Nat → Int32) (wX a cA F g) (fun g => wX a cA F g) yX0_pay wsX0_pay rmX0_pay [.ref (a 16), .int z0, .int z1] (fun r _ => r = ps (tPw F N z0 z1) N) := by
  refine Wi.of (cc := cX0_pay) (maxL := 3) (by decide) rfl (Nat.le_of_ble_eq_true rfl) ?_
  intro p e s m args below meth c ls A Q hx hb hts hown hml hK hP hD hA hS hl hend
  have hown : s.vm.findClass RX0 = some m.cls := hown
  have hl : lv_has ls 3 [(0, .ref (a 16)), (1, .int z0), (2, .int z1)] := hl
  have hN : N ≤ 80 := hW.n
  have hc : F 7 0 = nI N := hW.c
  obtain ⟨hjz0, ejz0⟩ := cI_of h1 (n := 6) (rfl) (by omega)
  obtain ⟨hjz1, ejz1⟩ := cI_of h2 (n := 20) (rfl) (by omega)
  refine lv_iload_n hx hb dX0_pay_0 rfl (lv_at hl 1 rfl) ?_
  refine lv_bipush (v := 6) hx hb dX0_pay_1 (by decide) ?_
  refine Ru.callS (rest := []) ⟨hx, hb, hml, hown, hts⟩ (c_X0_needOneOf l D cA z0 6 h1.1 h1.2) (va_cwS 2 hts gX0_pay_X0_needOneOf rfl rfl rfl (by decide +kernel) ⟨Nat.le_of_ble_eq_true rfl, Nat.le_of_ble_eq_true rfl⟩) hK noP rfl rfl hl.1 (Nat.le_of_ble_eq_true rfl) dX0_pay_3 ⟨Nat.zero_le _, Nat.zero_le _⟩ ?_
  refine lv_iload_n hx hb dX0_pay_6 rfl (lv_at hl 2 rfl) ?_
  refine lv_bipush (v := 20) hx hb dX0_pay_7 (by decide) ?_
  refine Ru.callS (rest := []) ⟨hx, hb, hml, hown, hts⟩ (c_X0_needOneOf l D cA z1 20 h2.1 h2.2) (va_cwS 2 hts gX0_pay_X0_needOneOf rfl rfl rfl (by decide +kernel) ⟨Nat.le_of_ble_eq_true rfl, Nat.le_of_ble_eq_true rfl⟩) hK noP rfl rfl hl.1 (Nat.le_of_ble_eq_true rfl) dX0_pay_9 ⟨Nat.zero_le _, Nat.zero_le _⟩ ?_
  refine lv_aload_n hx hb dX0_pay_12 rfl (lv_at hl 0 rfl) ?_
  refine lv_iload_n hx hb dX0_pay_13 rfl (lv_at hl 1 rfl) ?_
  refine lv_iload_n hx hb dX0_pay_14 rfl (lv_at hl 2 rfl) ?_
  refine Wi.callV (rest := []) (q0 := 0) (ci := 0) (wr := []) [0, 1, 2, 3, 4, 5, 6, 7, 8, 9, 10, 11, 12, 13] [] ⟨hx, hb, hml, hown, hts⟩ (c_X0_weekPay l D cA a F g N hW z0 z1) (cwV 2 hts gX0_pay_X0_weekPay rfl rfl rfl (by decide +kernel) ⟨Nat.le_of_ble_eq_true rfl, Nat.le_of_ble_eq_true rfl⟩) hK hP hD hS hA rfl rfl (by decide) (by decide) (by decide) rfl rfl rfl rfl rfl hl.1 (Nat.le_of_ble_eq_true rfl) dX0_pay_15 ⟨Nat.zero_le _, Nat.zero_le _⟩ (fun r15 u15 H locs hu15 hP hD hS => ?_)
  have hP : va_P D vwCl (wX a cA F u15) H := hP
  have hD : va_D A (wX a cA F u15) := hD
  exact hend 18 ls _ (u15) _ _ dX0_pay_18 hP hD hS (hu15)

set_option maxHeartbeats 4000000 in
set_option maxRecDepth 100000 in
theorem b_X0_pay (l : Launch) (D : va_G) (cA : ClassId) (hl9 : l.stackTraces = false) (a : Nat → Nat) (F : Nat → Nat → Int32) (g : Nat → Int32) (N : Nat) (hW : wf F N) (z0 z1 : Int32) (hk : kWW z0 z1 ≠ 0) : Bx l D cA (wX a cA F g) yX0_pay wsX0_pay rbX0_pay [.ref (a 16), .int z0, .int z1] (exN (kWW z0 z1) eI eA eS) := by
  refine Bx.of (cc := cX0_pay) (maxL := 3) (ret := (some .int)) (by decide) rfl (Nat.le_of_ble_eq_true rfl) ?_
  intro p e s m args below meth c ls hx hb hts hown hml hK hP hl htab hlocks hZ
  have hown : s.vm.findClass RX0 = some m.cls := hown
  have hl : lv_has ls 3 [(0, .ref (a 16)), (1, .int z0), (2, .int z1)] := hl
  have hN : N ≤ 80 := hW.n
  have hc : F 7 0 = nI N := hW.c
  refine lv_iload_n hx hb dX0_pay_0 rfl (lv_at hl 1 rfl) ?_
  refine lv_bipush (v := 6) hx hb dX0_pay_1 (by decide) ?_
  refine (Classical.em (cI z0 6)).elim (fun h1 => ?_) (fun h1 => ?_)
  rotate_left
  rw [show exN (kWW z0 z1) eI eA eS = eI from by rw [kWW, if_neg h1]; rfl]
  exact Bx.thruS (rest := []) ⟨hx, hb, hml, hown, hts⟩ htab hlocks (b_X0_needOneOf l D cA hl9 z0 6 (cI_n h1)) (va_cwS 2 hts gX0_pay_X0_needOneOf rfl rfl rfl (by decide +kernel) ⟨Nat.le_of_ble_eq_true rfl, Nat.le_of_ble_eq_true rfl⟩) hK noP hZ rfl rfl hl.1 (Nat.le_of_ble_eq_true rfl) dX0_pay_3 ⟨Nat.le_of_ble_eq_true rfl, Nat.le_of_ble_eq_true rfl⟩
  refine Ru.callS (rest := []) ⟨hx, hb, hml, hown, hts⟩ (c_X0_needOneOf l D cA z0 6 h1.1 h1.2) (va_cwS 2 hts gX0_pay_X0_needOneOf rfl rfl rfl (by decide +kernel) ⟨Nat.le_of_ble_eq_true rfl, Nat.le_of_ble_eq_true rfl⟩) hK noP rfl rfl hl.1 (Nat.le_of_ble_eq_true rfl) dX0_pay_3 ⟨Nat.zero_le _, Nat.zero_le _⟩ ?_
  refine lv_iload_n hx hb dX0_pay_6 rfl (lv_at hl 2 rfl) ?_
  refine lv_bipush (v := 20) hx hb dX0_pay_7 (by decide) ?_
  refine (Classical.em (cI z1 20)).elim (fun h2 => ?_) (fun h2 => ?_)
  rotate_left
  rw [show exN (kWW z0 z1) eI eA eS = eI from by rw [kWW, if_pos h1, if_neg h2]; rfl]
  exact Bx.thruS (rest := []) ⟨hx, hb, hml, hown, hts⟩ htab hlocks (b_X0_needOneOf l D cA hl9 z1 20 (cI_n h2)) (va_cwS 2 hts gX0_pay_X0_needOneOf rfl rfl rfl (by decide +kernel) ⟨Nat.le_of_ble_eq_true rfl, Nat.le_of_ble_eq_true rfl⟩) hK noP hZ rfl rfl hl.1 (Nat.le_of_ble_eq_true rfl) dX0_pay_9 ⟨Nat.le_of_ble_eq_true rfl, Nat.le_of_ble_eq_true rfl⟩
  exact absurd (by rw [kWW, if_pos h1, if_pos h2]) hk

set_option maxHeartbeats 4000000 in
set_option maxRecDepth 100000 in
theorem c_X0_owing (l : Launch) (D : va_G) (cA : ClassId) (a : Nat → Nat) (F : Nat → Nat → Int32) (g : Nat → Int32) (N : Nat) (hW : wf F N) (z0 z1 : Int32) (h1 : cI z0 6) (h2 : cI z1 20) : Wi l D cA (S := Nat → Int32) (wX a cA F g) (fun g => wX a cA F g) yX0_owing wsX0_owing rmX0_owing [.ref (a 16), .int z0, .int z1] (fun r _ => r = ps (tPw F N z0 z1) N - F 12 (z0.toNatClampNeg * 20 + z1.toNatClampNeg)) := by
  refine Wi.of (cc := cX0_owing) (maxL := 3) (by decide) rfl (Nat.le_of_ble_eq_true rfl) ?_
  intro p e s m args below meth c ls A Q hx hb hts hown hml hK hP hD hA hS hl hend
  have hown : s.vm.findClass RX0 = some m.cls := hown
  have hi : ∀ w ∈ wsX00, w ∈ wsX0_owing := by decide +kernel
  have hl : lv_has ls 3 [(0, .ref (a 16)), (1, .int z0), (2, .int z1)] := hl
  have hN : N ≤ 80 := hW.n
  have hc : F 7 0 = nI N := hW.c
  obtain ⟨hjz0, ejz0⟩ := cI_of h1 (n := 6) (rfl) (by omega)
  obtain ⟨hjz1, ejz1⟩ := cI_of h2 (n := 20) (rfl) (by omega)
  refine lv_iload_n hx hb dX0_owing_0 rfl (lv_at hl 1 rfl) ?_
  refine lv_bipush (v := 6) hx hb dX0_owing_1 (by decide) ?_
  refine Ru.callS (rest := []) ⟨hx, hb, hml, hown, hts⟩ (c_X0_needOneOf l D cA z0 6 h1.1 h1.2) (va_cwS 2 hts gX0_owing_X0_needOneOf rfl rfl rfl (by decide +kernel) ⟨Nat.le_of_ble_eq_true rfl, Nat.le_of_ble_eq_true rfl⟩) hK noP rfl rfl hl.1 (Nat.le_of_ble_eq_true rfl) dX0_owing_3 ⟨Nat.zero_le _, Nat.zero_le _⟩ ?_
  refine lv_iload_n hx hb dX0_owing_6 rfl (lv_at hl 2 rfl) ?_
  refine lv_bipush (v := 20) hx hb dX0_owing_7 (by decide) ?_
  refine Ru.callS (rest := []) ⟨hx, hb, hml, hown, hts⟩ (c_X0_needOneOf l D cA z1 20 h2.1 h2.2) (va_cwS 2 hts gX0_owing_X0_needOneOf rfl rfl rfl (by decide +kernel) ⟨Nat.le_of_ble_eq_true rfl, Nat.le_of_ble_eq_true rfl⟩) hK noP rfl rfl hl.1 (Nat.le_of_ble_eq_true rfl) dX0_owing_9 ⟨Nat.zero_le _, Nat.zero_le _⟩ ?_
  refine lv_aload_n hx hb dX0_owing_12 rfl (lv_at hl 0 rfl) ?_
  refine lv_iload_n hx hb dX0_owing_13 rfl (lv_at hl 1 rfl) ?_
  refine lv_iload_n hx hb dX0_owing_14 rfl (lv_at hl 2 rfl) ?_
  refine Wi.callV (rest := []) (q0 := 0) (ci := 0) (wr := []) [0, 1, 2, 3, 4, 5, 6, 7, 8, 9, 10, 11, 12, 13] [] ⟨hx, hb, hml, hown, hts⟩ (c_X0_weekPay l D cA a F g N hW z0 z1) (cwV 2 hts gX0_owing_X0_weekPay rfl rfl rfl (by decide +kernel) ⟨Nat.le_of_ble_eq_true rfl, Nat.le_of_ble_eq_true rfl⟩) hK hP hD hS hA rfl rfl (by decide) (by decide) (by decide) rfl rfl rfl rfl rfl hl.1 (Nat.le_of_ble_eq_true rfl) dX0_owing_15 ⟨Nat.zero_le _, Nat.zero_le _⟩ (fun r15 u15 H locs hu15 hP hD hS => ?_)
  have hP : va_P D vwCl (wX a cA F u15) H := hP
  have hD : va_D A (wX a cA F u15) := hD
  refine lv_aload_n hx hb dX0_owing_18 rfl (lv_at hl 0 rfl) ?_
  refine va_get (D := D) (ci := 0) (v := .ref (a 12)) (C := RX0) (T := TX0) (N := 16) hx hb hts hi hown hK hP 0 rfl rfl 12 (by decide) (hts (.fieldLink RX0 47 "AssignmentHouse" "paidFor" "[I") (by decide +kernel)) (fun _ h9 => h9) rfl dX0_owing_19 ?_
  refine lv_iload_n hx hb dX0_owing_22 rfl (lv_at hl 1 rfl) ?_
  refine lv_bipush (v := 20) hx hb dX0_owing_23 (by decide) ?_
  refine lv_imul hx hb dX0_owing_25 ?_
  refine lv_iload_n hx hb dX0_owing_26 rfl (lv_at hl 2 rfl) ?_
  refine lv_iadd hx hb dX0_owing_27 ?_
  refine Rd.callS (rest := [.int r15]) ⟨hx, hb, hml, hown, hts⟩ (c_X0_at l D cA (a 12) 120 (F 12) ((z0 * 20) + z1) (z0.toNatClampNeg * 20 + z1.toNatClampNeg) (ix20 ejz0 ejz1) (by omega) (by decide)) (va_cwS 2 hts gX0_owing_X0_at rfl rfl rfl (by decide +kernel) ⟨Nat.le_of_ble_eq_true rfl, Nat.le_of_ble_eq_true rfl⟩) hK (hP.sub [10] rfl) rfl rfl hl.1 (Nat.le_of_ble_eq_true rfl) dX0_owing_28 ⟨Nat.zero_le _, Nat.zero_le _⟩ ?_
  refine lv_isub hx hb dX0_owing_31 ?_
  exact hend 32 ls _ (u15) _ _ dX0_owing_32 hP hD hS (by rw [hu15])

set_option maxHeartbeats 4000000 in
set_option maxRecDepth 100000 in
theorem b_X0_owing (l : Launch) (D : va_G) (cA : ClassId) (hl9 : l.stackTraces = false) (a : Nat → Nat) (F : Nat → Nat → Int32) (g : Nat → Int32) (N : Nat) (hW : wf F N) (z0 z1 : Int32) (hk : kWW z0 z1 ≠ 0) : Bx l D cA (wX a cA F g) yX0_owing wsX0_owing rbX0_owing [.ref (a 16), .int z0, .int z1] (exN (kWW z0 z1) eI eA eS) := by
  refine Bx.of (cc := cX0_owing) (maxL := 3) (ret := (some .int)) (by decide) rfl (Nat.le_of_ble_eq_true rfl) ?_
  intro p e s m args below meth c ls hx hb hts hown hml hK hP hl htab hlocks hZ
  have hown : s.vm.findClass RX0 = some m.cls := hown
  have hi : ∀ w ∈ wsX00, w ∈ wsX0_owing := by decide +kernel
  have hl : lv_has ls 3 [(0, .ref (a 16)), (1, .int z0), (2, .int z1)] := hl
  have hN : N ≤ 80 := hW.n
  have hc : F 7 0 = nI N := hW.c
  refine lv_iload_n hx hb dX0_owing_0 rfl (lv_at hl 1 rfl) ?_
  refine lv_bipush (v := 6) hx hb dX0_owing_1 (by decide) ?_
  refine (Classical.em (cI z0 6)).elim (fun h1 => ?_) (fun h1 => ?_)
  rotate_left
  rw [show exN (kWW z0 z1) eI eA eS = eI from by rw [kWW, if_neg h1]; rfl]
  exact Bx.thruS (rest := []) ⟨hx, hb, hml, hown, hts⟩ htab hlocks (b_X0_needOneOf l D cA hl9 z0 6 (cI_n h1)) (va_cwS 2 hts gX0_owing_X0_needOneOf rfl rfl rfl (by decide +kernel) ⟨Nat.le_of_ble_eq_true rfl, Nat.le_of_ble_eq_true rfl⟩) hK noP hZ rfl rfl hl.1 (Nat.le_of_ble_eq_true rfl) dX0_owing_3 ⟨Nat.le_of_ble_eq_true rfl, Nat.le_of_ble_eq_true rfl⟩
  refine Ru.callS (rest := []) ⟨hx, hb, hml, hown, hts⟩ (c_X0_needOneOf l D cA z0 6 h1.1 h1.2) (va_cwS 2 hts gX0_owing_X0_needOneOf rfl rfl rfl (by decide +kernel) ⟨Nat.le_of_ble_eq_true rfl, Nat.le_of_ble_eq_true rfl⟩) hK noP rfl rfl hl.1 (Nat.le_of_ble_eq_true rfl) dX0_owing_3 ⟨Nat.zero_le _, Nat.zero_le _⟩ ?_
  refine lv_iload_n hx hb dX0_owing_6 rfl (lv_at hl 2 rfl) ?_
  refine lv_bipush (v := 20) hx hb dX0_owing_7 (by decide) ?_
  refine (Classical.em (cI z1 20)).elim (fun h2 => ?_) (fun h2 => ?_)
  rotate_left
  rw [show exN (kWW z0 z1) eI eA eS = eI from by rw [kWW, if_pos h1, if_neg h2]; rfl]
  exact Bx.thruS (rest := []) ⟨hx, hb, hml, hown, hts⟩ htab hlocks (b_X0_needOneOf l D cA hl9 z1 20 (cI_n h2)) (va_cwS 2 hts gX0_owing_X0_needOneOf rfl rfl rfl (by decide +kernel) ⟨Nat.le_of_ble_eq_true rfl, Nat.le_of_ble_eq_true rfl⟩) hK noP hZ rfl rfl hl.1 (Nat.le_of_ble_eq_true rfl) dX0_owing_9 ⟨Nat.le_of_ble_eq_true rfl, Nat.le_of_ble_eq_true rfl⟩
  exact absurd (by rw [kWW, if_pos h1, if_pos h2]) hk

set_option maxHeartbeats 4000000 in
set_option maxRecDepth 100000 in
theorem c_X0_toBill (l : Launch) (D : va_G) (cA : ClassId) (a : Nat → Nat) (F : Nat → Nat → Int32) (g : Nat → Int32) (N : Nat) (hW : wf F N) (z0 z1 : Int32) (h1 : cI z0 4) (h2 : cI z1 20) : Wi l D cA (S := Nat → Int32) (wX a cA F g) (fun g => wX a cA F g) yX0_toBill wsX0_toBill rmX0_toBill [.ref (a 16), .int z0, .int z1] (fun r _ => r = ps (tCt F N z0 z1) N - F 13 (z0.toNatClampNeg * 20 + z1.toNatClampNeg)) := by
  refine Wi.of (cc := cX0_toBill) (maxL := 3) (by decide) rfl (Nat.le_of_ble_eq_true rfl) ?_
  intro p e s m args below meth c ls A Q hx hb hts hown hml hK hP hD hA hS hl hend
  have hown : s.vm.findClass RX0 = some m.cls := hown
  have hi : ∀ w ∈ wsX00, w ∈ wsX0_toBill := by decide +kernel
  have hl : lv_has ls 3 [(0, .ref (a 16)), (1, .int z0), (2, .int z1)] := hl
  have hN : N ≤ 80 := hW.n
  have hc : F 7 0 = nI N := hW.c
  obtain ⟨hjz0, ejz0⟩ := cI_of h1 (n := 4) (rfl) (by omega)
  obtain ⟨hjz1, ejz1⟩ := cI_of h2 (n := 20) (rfl) (by omega)
  refine lv_iload_n hx hb dX0_toBill_0 rfl (lv_at hl 1 rfl) ?_
  refine lv_iconst (v := 4) hx hb dX0_toBill_1 (by decide) ?_
  refine Ru.callS (rest := []) ⟨hx, hb, hml, hown, hts⟩ (c_X0_needOneOf l D cA z0 4 h1.1 h1.2) (va_cwS 2 hts gX0_toBill_X0_needOneOf rfl rfl rfl (by decide +kernel) ⟨Nat.le_of_ble_eq_true rfl, Nat.le_of_ble_eq_true rfl⟩) hK noP rfl rfl hl.1 (Nat.le_of_ble_eq_true rfl) dX0_toBill_2 ⟨Nat.zero_le _, Nat.zero_le _⟩ ?_
  refine lv_iload_n hx hb dX0_toBill_5 rfl (lv_at hl 2 rfl) ?_
  refine lv_bipush (v := 20) hx hb dX0_toBill_6 (by decide) ?_
  refine Ru.callS (rest := []) ⟨hx, hb, hml, hown, hts⟩ (c_X0_needOneOf l D cA z1 20 h2.1 h2.2) (va_cwS 2 hts gX0_toBill_X0_needOneOf rfl rfl rfl (by decide +kernel) ⟨Nat.le_of_ble_eq_true rfl, Nat.le_of_ble_eq_true rfl⟩) hK noP rfl rfl hl.1 (Nat.le_of_ble_eq_true rfl) dX0_toBill_8 ⟨Nat.zero_le _, Nat.zero_le _⟩ ?_
  refine lv_aload_n hx hb dX0_toBill_11 rfl (lv_at hl 0 rfl) ?_
  refine lv_iload_n hx hb dX0_toBill_12 rfl (lv_at hl 1 rfl) ?_
  refine lv_iload_n hx hb dX0_toBill_13 rfl (lv_at hl 2 rfl) ?_
  refine Wi.callV (rest := []) (q0 := 0) (ci := 0) (wr := []) [0, 1, 2, 3, 4, 5, 6, 7, 8, 9, 10, 11, 12, 13] [] ⟨hx, hb, hml, hown, hts⟩ (c_X0_weekCharge l D cA a F g N hW z0 z0.toNatClampNeg ejz0 hjz0 z1) (cwV 2 hts gX0_toBill_X0_weekCharge rfl rfl rfl (by decide +kernel) ⟨Nat.le_of_ble_eq_true rfl, Nat.le_of_ble_eq_true rfl⟩) hK hP hD hS hA rfl rfl (by decide) (by decide) (by decide) rfl rfl rfl rfl rfl hl.1 (Nat.le_of_ble_eq_true rfl) dX0_toBill_14 ⟨Nat.zero_le _, Nat.zero_le _⟩ (fun r14 u14 H locs hu14 hP hD hS => ?_)
  have hP : va_P D vwCl (wX a cA F u14) H := hP
  have hD : va_D A (wX a cA F u14) := hD
  refine lv_aload_n hx hb dX0_toBill_17 rfl (lv_at hl 0 rfl) ?_
  refine va_get (D := D) (ci := 0) (v := .ref (a 13)) (C := RX0) (T := TX0) (N := 16) hx hb hts hi hown hK hP 0 rfl rfl 13 (by decide) (hts (.fieldLink RX0 50 "AssignmentHouse" "billedFor" "[I") (by decide +kernel)) (fun _ h9 => h9) rfl dX0_toBill_18 ?_
  refine lv_iload_n hx hb dX0_toBill_21 rfl (lv_at hl 1 rfl) ?_
  refine lv_bipush (v := 20) hx hb dX0_toBill_22 (by decide) ?_
  refine lv_imul hx hb dX0_toBill_24 ?_
  refine lv_iload_n hx hb dX0_toBill_25 rfl (lv_at hl 2 rfl) ?_
  refine lv_iadd hx hb dX0_toBill_26 ?_
  refine Rd.callS (rest := [.int r14]) ⟨hx, hb, hml, hown, hts⟩ (c_X0_at l D cA (a 13) 80 (F 13) ((z0 * 20) + z1) (z0.toNatClampNeg * 20 + z1.toNatClampNeg) (ix20 ejz0 ejz1) (by omega) (by decide)) (va_cwS 2 hts gX0_toBill_X0_at rfl rfl rfl (by decide +kernel) ⟨Nat.le_of_ble_eq_true rfl, Nat.le_of_ble_eq_true rfl⟩) hK (hP.sub [11] rfl) rfl rfl hl.1 (Nat.le_of_ble_eq_true rfl) dX0_toBill_27 ⟨Nat.zero_le _, Nat.zero_le _⟩ ?_
  refine lv_isub hx hb dX0_toBill_30 ?_
  exact hend 31 ls _ (u14) _ _ dX0_toBill_31 hP hD hS (by rw [hu14])

set_option maxHeartbeats 4000000 in
set_option maxRecDepth 100000 in
theorem b_X0_toBill (l : Launch) (D : va_G) (cA : ClassId) (hl9 : l.stackTraces = false) (a : Nat → Nat) (F : Nat → Nat → Int32) (g : Nat → Int32) (N : Nat) (hW : wf F N) (z0 z1 : Int32) (hk : kSW z0 z1 ≠ 0) : Bx l D cA (wX a cA F g) yX0_toBill wsX0_toBill rbX0_toBill [.ref (a 16), .int z0, .int z1] (exN (kSW z0 z1) eI eA eS) := by
  refine Bx.of (cc := cX0_toBill) (maxL := 3) (ret := (some .int)) (by decide) rfl (Nat.le_of_ble_eq_true rfl) ?_
  intro p e s m args below meth c ls hx hb hts hown hml hK hP hl htab hlocks hZ
  have hown : s.vm.findClass RX0 = some m.cls := hown
  have hi : ∀ w ∈ wsX00, w ∈ wsX0_toBill := by decide +kernel
  have hl : lv_has ls 3 [(0, .ref (a 16)), (1, .int z0), (2, .int z1)] := hl
  have hN : N ≤ 80 := hW.n
  have hc : F 7 0 = nI N := hW.c
  refine lv_iload_n hx hb dX0_toBill_0 rfl (lv_at hl 1 rfl) ?_
  refine lv_iconst (v := 4) hx hb dX0_toBill_1 (by decide) ?_
  refine (Classical.em (cI z0 4)).elim (fun h1 => ?_) (fun h1 => ?_)
  rotate_left
  rw [show exN (kSW z0 z1) eI eA eS = eI from by rw [kSW, if_neg h1]; rfl]
  exact Bx.thruS (rest := []) ⟨hx, hb, hml, hown, hts⟩ htab hlocks (b_X0_needOneOf l D cA hl9 z0 4 (cI_n h1)) (va_cwS 2 hts gX0_toBill_X0_needOneOf rfl rfl rfl (by decide +kernel) ⟨Nat.le_of_ble_eq_true rfl, Nat.le_of_ble_eq_true rfl⟩) hK noP hZ rfl rfl hl.1 (Nat.le_of_ble_eq_true rfl) dX0_toBill_2 ⟨Nat.le_of_ble_eq_true rfl, Nat.le_of_ble_eq_true rfl⟩
  refine Ru.callS (rest := []) ⟨hx, hb, hml, hown, hts⟩ (c_X0_needOneOf l D cA z0 4 h1.1 h1.2) (va_cwS 2 hts gX0_toBill_X0_needOneOf rfl rfl rfl (by decide +kernel) ⟨Nat.le_of_ble_eq_true rfl, Nat.le_of_ble_eq_true rfl⟩) hK noP rfl rfl hl.1 (Nat.le_of_ble_eq_true rfl) dX0_toBill_2 ⟨Nat.zero_le _, Nat.zero_le _⟩ ?_
  refine lv_iload_n hx hb dX0_toBill_5 rfl (lv_at hl 2 rfl) ?_
  refine lv_bipush (v := 20) hx hb dX0_toBill_6 (by decide) ?_
  refine (Classical.em (cI z1 20)).elim (fun h2 => ?_) (fun h2 => ?_)
  rotate_left
  rw [show exN (kSW z0 z1) eI eA eS = eI from by rw [kSW, if_pos h1, if_neg h2]; rfl]
  exact Bx.thruS (rest := []) ⟨hx, hb, hml, hown, hts⟩ htab hlocks (b_X0_needOneOf l D cA hl9 z1 20 (cI_n h2)) (va_cwS 2 hts gX0_toBill_X0_needOneOf rfl rfl rfl (by decide +kernel) ⟨Nat.le_of_ble_eq_true rfl, Nat.le_of_ble_eq_true rfl⟩) hK noP hZ rfl rfl hl.1 (Nat.le_of_ble_eq_true rfl) dX0_toBill_8 ⟨Nat.le_of_ble_eq_true rfl, Nat.le_of_ble_eq_true rfl⟩
  exact absurd (by rw [kSW, if_pos h1, if_pos h2]) hk

set_option maxHeartbeats 4000000 in
set_option maxRecDepth 100000 in
theorem c_X0_hasEqual (l : Launch) (D : va_G) (cA : ClassId) (a : Nat → Nat) (F : Nat → Nat → Int32) (g : Nat → Int32) (N : Nat) (hW : wf F N) (z0 z1 z2 : Int32) (h1 : cI z0 6) (h2 : cI z1 4) (h3 : cI z2 20) : Rd l D cA (wX a cA F g) yX0_hasEqual wsX0_hasEqual rmX0_hasEqual [.ref (a 16), .int z0, .int z1, .int z2] (if F 5 0 ≤ sEqV F N z0 z1 z2.toNatClampNeg then 1 else 0) := by
  refine Rd.ofz (cc := cX0_hasEqual) (maxL := 4) (by decide) rfl (Nat.le_of_ble_eq_true rfl) ?_
  intro p e s m args below meth c ls Q hx hb hts hown hml hK hP hl hend
  have hown : s.vm.findClass RX0 = some m.cls := hown
  have hl : lv_has ls 4 [(0, .ref (a 16)), (1, .int z0), (2, .int z1), (3, .int z2)] := hl
  have hN : N ≤ 80 := hW.n
  have hc : F 7 0 = nI N := hW.c
  obtain ⟨hjz2, ejz2⟩ := cI_of h3 (n := 20) (rfl) (by omega)
  refine lv_iload_n hx hb dX0_hasEqual_0 rfl (lv_at hl 1 rfl) ?_
  refine lv_bipush (v := 6) hx hb dX0_hasEqual_1 (by decide) ?_
  refine Ru.callS (rest := []) ⟨hx, hb, hml, hown, hts⟩ (c_X0_needOneOf l D cA z0 6 h1.1 h1.2) (va_cwS 2 hts gX0_hasEqual_X0_needOneOf rfl rfl rfl (by decide +kernel) ⟨Nat.le_of_ble_eq_true rfl, Nat.le_of_ble_eq_true rfl⟩) hK noP rfl rfl hl.1 (Nat.le_of_ble_eq_true rfl) dX0_hasEqual_3 ⟨Nat.zero_le _, Nat.zero_le _⟩ ?_
  refine lv_iload_n hx hb dX0_hasEqual_6 rfl (lv_at hl 2 rfl) ?_
  refine lv_iconst (v := 4) hx hb dX0_hasEqual_7 (by decide) ?_
  refine Ru.callS (rest := []) ⟨hx, hb, hml, hown, hts⟩ (c_X0_needOneOf l D cA z1 4 h2.1 h2.2) (va_cwS 2 hts gX0_hasEqual_X0_needOneOf rfl rfl rfl (by decide +kernel) ⟨Nat.le_of_ble_eq_true rfl, Nat.le_of_ble_eq_true rfl⟩) hK noP rfl rfl hl.1 (Nat.le_of_ble_eq_true rfl) dX0_hasEqual_8 ⟨Nat.zero_le _, Nat.zero_le _⟩ ?_
  refine lv_iload_n hx hb dX0_hasEqual_11 rfl (lv_at hl 3 rfl) ?_
  refine lv_bipush (v := 20) hx hb dX0_hasEqual_12 (by decide) ?_
  refine Ru.callS (rest := []) ⟨hx, hb, hml, hown, hts⟩ (c_X0_needOneOf l D cA z2 20 h3.1 h3.2) (va_cwS 2 hts gX0_hasEqual_X0_needOneOf rfl rfl rfl (by decide +kernel) ⟨Nat.le_of_ble_eq_true rfl, Nat.le_of_ble_eq_true rfl⟩) hK noP rfl rfl hl.1 (Nat.le_of_ble_eq_true rfl) dX0_hasEqual_14 ⟨Nat.zero_le _, Nat.zero_le _⟩ ?_
  refine lv_aload_n hx hb dX0_hasEqual_17 rfl (lv_at hl 0 rfl) ?_
  refine lv_iload_n hx hb dX0_hasEqual_18 rfl (lv_at hl 1 rfl) ?_
  refine lv_iload_n hx hb dX0_hasEqual_19 rfl (lv_at hl 2 rfl) ?_
  refine lv_iload_n hx hb dX0_hasEqual_20 rfl (lv_at hl 3 rfl) ?_
  refine Rd.callV (rest := []) (q0 := 0) (ci := 0) ⟨hx, hb, hml, hown, hts⟩ (c_X0_isEqual l D cA a F g N hW z0 z1 z2 z2.toNatClampNeg ejz2 (by omega)) (cwV 3 hts gX0_hasEqual_X0_isEqual rfl rfl rfl (by decide +kernel) ⟨Nat.le_of_ble_eq_true rfl, Nat.le_of_ble_eq_true rfl⟩) hK hP rfl rfl rfl rfl rfl hl.1 (Nat.le_of_ble_eq_true rfl) dX0_hasEqual_21 ⟨Nat.zero_le _, Nat.zero_le _⟩ ?_
  exact hend 24 ls _ dX0_hasEqual_24 (rfl) (by (first | exact Or.inl rfl | exact Or.inr rfl | (split <;> simp)))

set_option maxHeartbeats 4000000 in
set_option maxRecDepth 100000 in
theorem b_X0_hasEqual (l : Launch) (D : va_G) (cA : ClassId) (hl9 : l.stackTraces = false) (a : Nat → Nat) (F : Nat → Nat → Int32) (g : Nat → Int32) (N : Nat) (hW : wf F N) (z0 z1 z2 : Int32) (hk : kWSW z0 z1 z2 ≠ 0) : Bx l D cA (wX a cA F g) yX0_hasEqual wsX0_hasEqual rbX0_hasEqual [.ref (a 16), .int z0, .int z1, .int z2] (exN (kWSW z0 z1 z2) eI eA eS) := by
  refine Bx.of (cc := cX0_hasEqual) (maxL := 4) (ret := (some .boolean)) (by decide) rfl (Nat.le_of_ble_eq_true rfl) ?_
  intro p e s m args below meth c ls hx hb hts hown hml hK hP hl htab hlocks hZ
  have hown : s.vm.findClass RX0 = some m.cls := hown
  have hl : lv_has ls 4 [(0, .ref (a 16)), (1, .int z0), (2, .int z1), (3, .int z2)] := hl
  have hN : N ≤ 80 := hW.n
  have hc : F 7 0 = nI N := hW.c
  refine lv_iload_n hx hb dX0_hasEqual_0 rfl (lv_at hl 1 rfl) ?_
  refine lv_bipush (v := 6) hx hb dX0_hasEqual_1 (by decide) ?_
  refine (Classical.em (cI z0 6)).elim (fun h1 => ?_) (fun h1 => ?_)
  rotate_left
  rw [show exN (kWSW z0 z1 z2) eI eA eS = eI from by rw [kWSW, if_neg h1]; rfl]
  exact Bx.thruS (rest := []) ⟨hx, hb, hml, hown, hts⟩ htab hlocks (b_X0_needOneOf l D cA hl9 z0 6 (cI_n h1)) (va_cwS 2 hts gX0_hasEqual_X0_needOneOf rfl rfl rfl (by decide +kernel) ⟨Nat.le_of_ble_eq_true rfl, Nat.le_of_ble_eq_true rfl⟩) hK noP hZ rfl rfl hl.1 (Nat.le_of_ble_eq_true rfl) dX0_hasEqual_3 ⟨Nat.le_of_ble_eq_true rfl, Nat.le_of_ble_eq_true rfl⟩
  refine Ru.callS (rest := []) ⟨hx, hb, hml, hown, hts⟩ (c_X0_needOneOf l D cA z0 6 h1.1 h1.2) (va_cwS 2 hts gX0_hasEqual_X0_needOneOf rfl rfl rfl (by decide +kernel) ⟨Nat.le_of_ble_eq_true rfl, Nat.le_of_ble_eq_true rfl⟩) hK noP rfl rfl hl.1 (Nat.le_of_ble_eq_true rfl) dX0_hasEqual_3 ⟨Nat.zero_le _, Nat.zero_le _⟩ ?_
  refine lv_iload_n hx hb dX0_hasEqual_6 rfl (lv_at hl 2 rfl) ?_
  refine lv_iconst (v := 4) hx hb dX0_hasEqual_7 (by decide) ?_
  refine (Classical.em (cI z1 4)).elim (fun h2 => ?_) (fun h2 => ?_)
  rotate_left
  rw [show exN (kWSW z0 z1 z2) eI eA eS = eI from by rw [kWSW, if_pos h1, if_neg h2]; rfl]
  exact Bx.thruS (rest := []) ⟨hx, hb, hml, hown, hts⟩ htab hlocks (b_X0_needOneOf l D cA hl9 z1 4 (cI_n h2)) (va_cwS 2 hts gX0_hasEqual_X0_needOneOf rfl rfl rfl (by decide +kernel) ⟨Nat.le_of_ble_eq_true rfl, Nat.le_of_ble_eq_true rfl⟩) hK noP hZ rfl rfl hl.1 (Nat.le_of_ble_eq_true rfl) dX0_hasEqual_8 ⟨Nat.le_of_ble_eq_true rfl, Nat.le_of_ble_eq_true rfl⟩
  refine Ru.callS (rest := []) ⟨hx, hb, hml, hown, hts⟩ (c_X0_needOneOf l D cA z1 4 h2.1 h2.2) (va_cwS 2 hts gX0_hasEqual_X0_needOneOf rfl rfl rfl (by decide +kernel) ⟨Nat.le_of_ble_eq_true rfl, Nat.le_of_ble_eq_true rfl⟩) hK noP rfl rfl hl.1 (Nat.le_of_ble_eq_true rfl) dX0_hasEqual_8 ⟨Nat.zero_le _, Nat.zero_le _⟩ ?_
  refine lv_iload_n hx hb dX0_hasEqual_11 rfl (lv_at hl 3 rfl) ?_
  refine lv_bipush (v := 20) hx hb dX0_hasEqual_12 (by decide) ?_
  refine (Classical.em (cI z2 20)).elim (fun h3 => ?_) (fun h3 => ?_)
  rotate_left
  rw [show exN (kWSW z0 z1 z2) eI eA eS = eI from by rw [kWSW, if_pos h1, if_pos h2, if_neg h3]; rfl]
  exact Bx.thruS (rest := []) ⟨hx, hb, hml, hown, hts⟩ htab hlocks (b_X0_needOneOf l D cA hl9 z2 20 (cI_n h3)) (va_cwS 2 hts gX0_hasEqual_X0_needOneOf rfl rfl rfl (by decide +kernel) ⟨Nat.le_of_ble_eq_true rfl, Nat.le_of_ble_eq_true rfl⟩) hK noP hZ rfl rfl hl.1 (Nat.le_of_ble_eq_true rfl) dX0_hasEqual_14 ⟨Nat.le_of_ble_eq_true rfl, Nat.le_of_ble_eq_true rfl⟩
  exact absurd (by rw [kWSW, if_pos h1, if_pos h2, if_pos h3]) hk

set_option maxHeartbeats 4000000 in
set_option maxRecDepth 100000 in
theorem c_X0_overtime (l : Launch) (D : va_G) (cA : ClassId) (a : Nat → Nat) (F : Nat → Nat → Int32) (g : Nat → Int32) (N : Nat) (hW : wf F N) (z0 : Int32) (h1 : cI z0 (F 7 0)) : Wi l D cA (S := Nat → Int32) (wX a cA F g) (fun g => wX a cA F g) yX0_overtime wsX0_overtime rmX0_overtime [.ref (a 16), .int z0] (fun r _ => r = sOv F N z0.toNatClampNeg) := by
  refine Wi.of (cc := cX0_overtime) (maxL := 2) (by decide) rfl (Nat.le_of_ble_eq_true rfl) ?_
  intro p e s m args below meth c ls A Q hx hb hts hown hml hK hP hD hA hS hl hend
  have hown : s.vm.findClass RX0 = some m.cls := hown
  have hi : ∀ w ∈ wsX00, w ∈ wsX0_overtime := by decide +kernel
  have hl : lv_has ls 2 [(0, .ref (a 16)), (1, .int z0)] := hl
  have hN : N ≤ 80 := hW.n
  have hc : F 7 0 = nI N := hW.c
  obtain ⟨hjz0, ejz0⟩ := cI_of h1 (n := N) (hc) (by omega)
  refine lv_iload_n hx hb dX0_overtime_0 rfl (lv_at hl 1 rfl) ?_
  refine lv_aload_n hx hb dX0_overtime_1 rfl (lv_at hl 0 rfl) ?_
  refine va_get (D := D) (ci := 0) (v := .int (F 7 0)) (C := RX0) (T := TX0) (N := 16) hx hb hts hi hown hK hP 0 rfl rfl 7 (by decide) (hts (.fieldLink RX0 32 "AssignmentHouse" "shiftCount" "I") (by decide +kernel)) (fun _ h9 => h9) rfl dX0_overtime_2 ?_
  refine Ru.callS (rest := []) ⟨hx, hb, hml, hown, hts⟩ (c_X0_needOneOf l D cA z0 (F 7 0) h1.1 h1.2) (va_cwS 2 hts gX0_overtime_X0_needOneOf rfl rfl rfl (by decide +kernel) ⟨Nat.le_of_ble_eq_true rfl, Nat.le_of_ble_eq_true rfl⟩) hK noP rfl rfl hl.1 (Nat.le_of_ble_eq_true rfl) dX0_overtime_5 ⟨Nat.zero_le _, Nat.zero_le _⟩ ?_
  refine lv_aload_n hx hb dX0_overtime_8 rfl (lv_at hl 0 rfl) ?_
  refine lv_iload_n hx hb dX0_overtime_9 rfl (lv_at hl 1 rfl) ?_
  refine Wi.callV (rest := []) (q0 := 0) (ci := 0) (wr := []) [0, 1, 2, 3, 4, 5, 6, 7, 8, 9, 10, 11, 12, 13] [] ⟨hx, hb, hml, hown, hts⟩ (c_X0_overtimeHours l D cA a F g N hW z0 z0.toNatClampNeg ejz0 hjz0) (cwV 1 hts gX0_overtime_X0_overtimeHours rfl rfl rfl (by decide +kernel) ⟨Nat.le_of_ble_eq_true rfl, Nat.le_of_ble_eq_true rfl⟩) hK hP hD hS hA rfl rfl (by decide) (by decide) (by decide) rfl rfl rfl rfl rfl hl.1 (Nat.le_of_ble_eq_true rfl) dX0_overtime_10 ⟨Nat.zero_le _, Nat.zero_le _⟩ (fun r10 u10 H locs hu10 hP hD hS => ?_)
  have hP : va_P D vwCl (wX a cA F u10) H := hP
  have hD : va_D A (wX a cA F u10) := hD
  exact hend 13 ls _ (u10) _ _ dX0_overtime_13 hP hD hS (hu10)

set_option maxHeartbeats 4000000 in
set_option maxRecDepth 100000 in
theorem b_X0_overtime (l : Launch) (D : va_G) (cA : ClassId) (hl9 : l.stackTraces = false) (a : Nat → Nat) (F : Nat → Nat → Int32) (g : Nat → Int32) (N : Nat) (hW : wf F N) (z0 : Int32) (hk : kSh F z0 ≠ 0) : Bx l D cA (wX a cA F g) yX0_overtime wsX0_overtime rbX0_overtime [.ref (a 16), .int z0] (exN (kSh F z0) eI eA eS) := by
  refine Bx.of (cc := cX0_overtime) (maxL := 2) (ret := (some .int)) (by decide) rfl (Nat.le_of_ble_eq_true rfl) ?_
  intro p e s m args below meth c ls hx hb hts hown hml hK hP hl htab hlocks hZ
  have hown : s.vm.findClass RX0 = some m.cls := hown
  have hi : ∀ w ∈ wsX00, w ∈ wsX0_overtime := by decide +kernel
  have hl : lv_has ls 2 [(0, .ref (a 16)), (1, .int z0)] := hl
  have hN : N ≤ 80 := hW.n
  have hc : F 7 0 = nI N := hW.c
  refine lv_iload_n hx hb dX0_overtime_0 rfl (lv_at hl 1 rfl) ?_
  refine lv_aload_n hx hb dX0_overtime_1 rfl (lv_at hl 0 rfl) ?_
  refine va_get (D := D) (ci := 0) (v := .int (F 7 0)) (C := RX0) (T := TX0) (N := 16) hx hb hts hi hown hK hP 0 rfl rfl 7 (by decide) (hts (.fieldLink RX0 32 "AssignmentHouse" "shiftCount" "I") (by decide +kernel)) (fun _ h9 => h9) rfl dX0_overtime_2 ?_
  refine (Classical.em (cI z0 (F 7 0))).elim (fun h1 => ?_) (fun h1 => ?_)
  rotate_left
  rw [show exN (kSh F z0) eI eA eS = eI from by rw [kSh, if_neg h1]; rfl]
  exact Bx.thruS (rest := []) ⟨hx, hb, hml, hown, hts⟩ htab hlocks (b_X0_needOneOf l D cA hl9 z0 (F 7 0) (cI_n h1)) (va_cwS 2 hts gX0_overtime_X0_needOneOf rfl rfl rfl (by decide +kernel) ⟨Nat.le_of_ble_eq_true rfl, Nat.le_of_ble_eq_true rfl⟩) hK noP hZ rfl rfl hl.1 (Nat.le_of_ble_eq_true rfl) dX0_overtime_5 ⟨Nat.le_of_ble_eq_true rfl, Nat.le_of_ble_eq_true rfl⟩
  exact absurd (by rw [kSh, if_pos h1]) hk

set_option maxHeartbeats 4000000 in
set_option maxRecDepth 100000 in
theorem c_X0_payOf (l : Launch) (D : va_G) (cA : ClassId) (a : Nat → Nat) (F : Nat → Nat → Int32) (g : Nat → Int32) (N : Nat) (hW : wf F N) (z0 : Int32) (h1 : cI z0 (F 7 0)) : Wi l D cA (S := Nat → Int32) (wX a cA F g) (fun g => wX a cA F g) yX0_payOf wsX0_payOf rmX0_payOf [.ref (a 16), .int z0] (fun r _ => r = sPy F N z0.toNatClampNeg) := by
  refine Wi.of (cc := cX0_payOf) (maxL := 2) (by decide) rfl (Nat.le_of_ble_eq_true rfl) ?_
  intro p e s m args below meth c ls A Q hx hb hts hown hml hK hP hD hA hS hl hend
  have hown : s.vm.findClass RX0 = some m.cls := hown
  have hi : ∀ w ∈ wsX00, w ∈ wsX0_payOf := by decide +kernel
  have hl : lv_has ls 2 [(0, .ref (a 16)), (1, .int z0)] := hl
  have hN : N ≤ 80 := hW.n
  have hc : F 7 0 = nI N := hW.c
  obtain ⟨hjz0, ejz0⟩ := cI_of h1 (n := N) (hc) (by omega)
  refine lv_iload_n hx hb dX0_payOf_0 rfl (lv_at hl 1 rfl) ?_
  refine lv_aload_n hx hb dX0_payOf_1 rfl (lv_at hl 0 rfl) ?_
  refine va_get (D := D) (ci := 0) (v := .int (F 7 0)) (C := RX0) (T := TX0) (N := 16) hx hb hts hi hown hK hP 0 rfl rfl 7 (by decide) (hts (.fieldLink RX0 32 "AssignmentHouse" "shiftCount" "I") (by decide +kernel)) (fun _ h9 => h9) rfl dX0_payOf_2 ?_
  refine Ru.callS (rest := []) ⟨hx, hb, hml, hown, hts⟩ (c_X0_needOneOf l D cA z0 (F 7 0) h1.1 h1.2) (va_cwS 2 hts gX0_payOf_X0_needOneOf rfl rfl rfl (by decide +kernel) ⟨Nat.le_of_ble_eq_true rfl, Nat.le_of_ble_eq_true rfl⟩) hK noP rfl rfl hl.1 (Nat.le_of_ble_eq_true rfl) dX0_payOf_5 ⟨Nat.zero_le _, Nat.zero_le _⟩ ?_
  refine lv_aload_n hx hb dX0_payOf_8 rfl (lv_at hl 0 rfl) ?_
  refine lv_iload_n hx hb dX0_payOf_9 rfl (lv_at hl 1 rfl) ?_
  refine Wi.callV (rest := []) (q0 := 0) (ci := 0) (wr := []) [0, 1, 2, 3, 4, 5, 6, 7, 8, 9, 10, 11, 12, 13] [] ⟨hx, hb, hml, hown, hts⟩ (c_X0_shiftPay l D cA a F g N hW z0 z0.toNatClampNeg ejz0 hjz0) (cwV 1 hts gX0_payOf_X0_shiftPay rfl rfl rfl (by decide +kernel) ⟨Nat.le_of_ble_eq_true rfl, Nat.le_of_ble_eq_true rfl⟩) hK hP hD hS hA rfl rfl (by decide) (by decide) (by decide) rfl rfl rfl rfl rfl hl.1 (Nat.le_of_ble_eq_true rfl) dX0_payOf_10 ⟨Nat.zero_le _, Nat.zero_le _⟩ (fun r10 u10 H locs hu10 hP hD hS => ?_)
  have hP : va_P D vwCl (wX a cA F u10) H := hP
  have hD : va_D A (wX a cA F u10) := hD
  exact hend 13 ls _ (u10) _ _ dX0_payOf_13 hP hD hS (hu10)

set_option maxHeartbeats 4000000 in
set_option maxRecDepth 100000 in
theorem b_X0_payOf (l : Launch) (D : va_G) (cA : ClassId) (hl9 : l.stackTraces = false) (a : Nat → Nat) (F : Nat → Nat → Int32) (g : Nat → Int32) (N : Nat) (hW : wf F N) (z0 : Int32) (hk : kSh F z0 ≠ 0) : Bx l D cA (wX a cA F g) yX0_payOf wsX0_payOf rbX0_payOf [.ref (a 16), .int z0] (exN (kSh F z0) eI eA eS) := by
  refine Bx.of (cc := cX0_payOf) (maxL := 2) (ret := (some .int)) (by decide) rfl (Nat.le_of_ble_eq_true rfl) ?_
  intro p e s m args below meth c ls hx hb hts hown hml hK hP hl htab hlocks hZ
  have hown : s.vm.findClass RX0 = some m.cls := hown
  have hi : ∀ w ∈ wsX00, w ∈ wsX0_payOf := by decide +kernel
  have hl : lv_has ls 2 [(0, .ref (a 16)), (1, .int z0)] := hl
  have hN : N ≤ 80 := hW.n
  have hc : F 7 0 = nI N := hW.c
  refine lv_iload_n hx hb dX0_payOf_0 rfl (lv_at hl 1 rfl) ?_
  refine lv_aload_n hx hb dX0_payOf_1 rfl (lv_at hl 0 rfl) ?_
  refine va_get (D := D) (ci := 0) (v := .int (F 7 0)) (C := RX0) (T := TX0) (N := 16) hx hb hts hi hown hK hP 0 rfl rfl 7 (by decide) (hts (.fieldLink RX0 32 "AssignmentHouse" "shiftCount" "I") (by decide +kernel)) (fun _ h9 => h9) rfl dX0_payOf_2 ?_
  refine (Classical.em (cI z0 (F 7 0))).elim (fun h1 => ?_) (fun h1 => ?_)
  rotate_left
  rw [show exN (kSh F z0) eI eA eS = eI from by rw [kSh, if_neg h1]; rfl]
  exact Bx.thruS (rest := []) ⟨hx, hb, hml, hown, hts⟩ htab hlocks (b_X0_needOneOf l D cA hl9 z0 (F 7 0) (cI_n h1)) (va_cwS 2 hts gX0_payOf_X0_needOneOf rfl rfl rfl (by decide +kernel) ⟨Nat.le_of_ble_eq_true rfl, Nat.le_of_ble_eq_true rfl⟩) hK noP hZ rfl rfl hl.1 (Nat.le_of_ble_eq_true rfl) dX0_payOf_5 ⟨Nat.le_of_ble_eq_true rfl, Nat.le_of_ble_eq_true rfl⟩
  exact absurd (by rw [kSh, if_pos h1]) hk

set_option maxHeartbeats 4000000 in
set_option maxRecDepth 100000 in
theorem c_X0_chargeOf (l : Launch) (D : va_G) (cA : ClassId) (a : Nat → Nat) (F : Nat → Nat → Int32) (g : Nat → Int32) (N : Nat) (hW : wf F N) (z0 : Int32) (h1 : cI z0 (F 7 0)) : Wi l D cA (S := Nat → Int32) (wX a cA F g) (fun g => wX a cA F g) yX0_chargeOf wsX0_chargeOf rmX0_chargeOf [.ref (a 16), .int z0] (fun r _ => r = sCh F N z0.toNatClampNeg) := by
  refine Wi.of (cc := cX0_chargeOf) (maxL := 3) (by decide) rfl (Nat.le_of_ble_eq_true rfl) ?_
  intro p e s m args below meth c ls A Q hx hb hts hown hml hK hP hD hA hS hl hend
  have hown : s.vm.findClass RX0 = some m.cls := hown
  have hi : ∀ w ∈ wsX00, w ∈ wsX0_chargeOf := by decide +kernel
  have hl : lv_has ls 3 [(0, .ref (a 16)), (1, .int z0)] := hl
  have hN : N ≤ 80 := hW.n
  have hc : F 7 0 = nI N := hW.c
  obtain ⟨hjz0, ejz0⟩ := cI_of h1 (n := N) (hc) (by omega)
  refine lv_iload_n hx hb dX0_chargeOf_0 rfl (lv_at hl 1 rfl) ?_
  refine lv_aload_n hx hb dX0_chargeOf_1 rfl (lv_at hl 0 rfl) ?_
  refine va_get (D := D) (ci := 0) (v := .int (F 7 0)) (C := RX0) (T := TX0) (N := 16) hx hb hts hi hown hK hP 0 rfl rfl 7 (by decide) (hts (.fieldLink RX0 32 "AssignmentHouse" "shiftCount" "I") (by decide +kernel)) (fun _ h9 => h9) rfl dX0_chargeOf_2 ?_
  refine Ru.callS (rest := []) ⟨hx, hb, hml, hown, hts⟩ (c_X0_needOneOf l D cA z0 (F 7 0) h1.1 h1.2) (va_cwS 2 hts gX0_chargeOf_X0_needOneOf rfl rfl rfl (by decide +kernel) ⟨Nat.le_of_ble_eq_true rfl, Nat.le_of_ble_eq_true rfl⟩) hK noP rfl rfl hl.1 (Nat.le_of_ble_eq_true rfl) dX0_chargeOf_5 ⟨Nat.zero_le _, Nat.zero_le _⟩ ?_
  refine lv_aload_n hx hb dX0_chargeOf_8 rfl (lv_at hl 0 rfl) ?_
  refine lv_aload_n hx hb dX0_chargeOf_9 rfl (lv_at hl 0 rfl) ?_
  refine va_get (D := D) (ci := 0) (v := .ref (a 9)) (C := RX0) (T := TX0) (N := 16) hx hb hts hi hown hK hP 0 rfl rfl 9 (by decide) (hts (.fieldLink RX0 38 "AssignmentHouse" "siteOf" "[I") (by decide +kernel)) (fun _ h9 => h9) rfl dX0_chargeOf_10 ?_
  refine lv_iload_n hx hb dX0_chargeOf_13 rfl (lv_at hl 1 rfl) ?_
  refine Rd.callS (rest := [.ref (a 16)]) ⟨hx, hb, hml, hown, hts⟩ (c_X0_at l D cA (a 9) 80 (F 9) (z0) (z0.toNatClampNeg) (ejz0) (by omega) (by decide)) (va_cwS 2 hts gX0_chargeOf_X0_at rfl rfl rfl (by decide +kernel) ⟨Nat.le_of_ble_eq_true rfl, Nat.le_of_ble_eq_true rfl⟩) hK (hP.sub [7] rfl) rfl rfl hl.1 (Nat.le_of_ble_eq_true rfl) dX0_chargeOf_14 ⟨Nat.zero_le _, Nat.zero_le _⟩ ?_
  refine lv_aload_n hx hb dX0_chargeOf_17 rfl (lv_at hl 0 rfl) ?_
  refine va_get (D := D) (ci := 0) (v := .ref (a 10)) (C := RX0) (T := TX0) (N := 16) hx hb hts hi hown hK hP 0 rfl rfl 10 (by decide) (hts (.fieldLink RX0 41 "AssignmentHouse" "dayOf" "[I") (by decide +kernel)) (fun _ h9 => h9) rfl dX0_chargeOf_18 ?_
  refine lv_iload_n hx hb dX0_chargeOf_21 rfl (lv_at hl 1 rfl) ?_
  refine Rd.callS (rest := [.int (F 9 z0.toNatClampNeg), .ref (a 16)]) ⟨hx, hb, hml, hown, hts⟩ (c_X0_at l D cA (a 10) 80 (F 10) (z0) (z0.toNatClampNeg) (ejz0) (by omega) (by decide)) (va_cwS 2 hts gX0_chargeOf_X0_at rfl rfl rfl (by decide +kernel) ⟨Nat.le_of_ble_eq_true rfl, Nat.le_of_ble_eq_true rfl⟩) hK (hP.sub [8] rfl) rfl rfl hl.1 (Nat.le_of_ble_eq_true rfl) dX0_chargeOf_22 ⟨Nat.zero_le _, Nat.zero_le _⟩ ?_
  refine Rd.callS (rest := [.int (F 9 z0.toNatClampNeg), .ref (a 16)]) ⟨hx, hb, hml, hown, hts⟩ (c_X0_weekOf l D cA (F 10 z0.toNatClampNeg)) (va_cwS 1 hts gX0_chargeOf_X0_weekOf rfl rfl rfl (by decide +kernel) ⟨Nat.le_of_ble_eq_true rfl, Nat.le_of_ble_eq_true rfl⟩) hK noP rfl rfl hl.1 (Nat.le_of_ble_eq_true rfl) dX0_chargeOf_25 ⟨Nat.zero_le _, Nat.zero_le _⟩ ?_
  refine Rd.callV (rest := []) (q0 := 0) (ci := 0) ⟨hx, hb, hml, hown, hts⟩ (c_X0_marginAt l D cA a F g N hW (F 9 z0.toNatClampNeg) (F 9 z0.toNatClampNeg).toNatClampNeg (hW.site hjz0).2 (hW.site hjz0).1 ((F 10 z0.toNatClampNeg) / 7)) (cwV 2 hts gX0_chargeOf_X0_marginAt rfl rfl rfl (by decide +kernel) ⟨Nat.le_of_ble_eq_true rfl, Nat.le_of_ble_eq_true rfl⟩) hK hP rfl rfl rfl rfl rfl hl.1 (Nat.le_of_ble_eq_true rfl) dX0_chargeOf_28 ⟨Nat.zero_le _, Nat.zero_le _⟩ ?_
  refine lv_istore_n (lv' := [(2, .int (sMg F N (F 9 z0.toNatClampNeg) ((F 10 z0.toNatClampNeg) / 7))), (0, .ref (a 16)), (1, .int z0)]) hx hb dX0_chargeOf_31 rfl hl (by decide) rfl (fun ls hl => ?_)
  refine lv_aload_n hx hb dX0_chargeOf_32 rfl (lv_at hl 1 rfl) ?_
  refine lv_iload_n hx hb dX0_chargeOf_33 rfl (lv_at hl 2 rfl) ?_
  refine Wi.callV (rest := []) (q0 := 0) (ci := 0) (wr := []) [0, 1, 2, 3, 4, 5, 6, 7, 8, 9, 10, 11, 12, 13] [] ⟨hx, hb, hml, hown, hts⟩ (c_X0_shiftPay l D cA a F g N hW z0 z0.toNatClampNeg ejz0 hjz0) (cwV 1 hts gX0_chargeOf_X0_shiftPay rfl rfl rfl (by decide +kernel) ⟨Nat.le_of_ble_eq_true rfl, Nat.le_of_ble_eq_true rfl⟩) hK hP hD hS hA rfl rfl (by decide) (by decide) (by decide) rfl rfl rfl rfl rfl hl.1 (Nat.le_of_ble_eq_true rfl) dX0_chargeOf_34 ⟨Nat.zero_le _, Nat.zero_le _⟩ (fun r34 u34 H locs hu34 hP hD hS => ?_)
  have hP : va_P D vwCl (wX a cA F u34) H := hP
  have hD : va_D A (wX a cA F u34) := hD
  refine lv_iload_n hx hb dX0_chargeOf_37 rfl (lv_at hl 0 rfl) ?_
  refine Rd.callS (rest := []) ⟨hx, hb, hml, hown, hts⟩ (c_X0_chargeFor l D cA r34 (sMg F N (F 9 z0.toNatClampNeg) ((F 10 z0.toNatClampNeg) / 7))) (va_cwS 2 hts gX0_chargeOf_X0_chargeFor rfl rfl rfl (by decide +kernel) ⟨Nat.le_of_ble_eq_true rfl, Nat.le_of_ble_eq_true rfl⟩) hK noP rfl rfl hl.1 (Nat.le_of_ble_eq_true rfl) dX0_chargeOf_38 ⟨Nat.zero_le _, Nat.zero_le _⟩ ?_
  exact hend 41 ls _ (u34) _ _ dX0_chargeOf_41 hP hD hS (by rw [hu34]; rfl)

set_option maxHeartbeats 4000000 in
set_option maxRecDepth 100000 in
theorem b_X0_chargeOf (l : Launch) (D : va_G) (cA : ClassId) (hl9 : l.stackTraces = false) (a : Nat → Nat) (F : Nat → Nat → Int32) (g : Nat → Int32) (N : Nat) (hW : wf F N) (z0 : Int32) (hk : kSh F z0 ≠ 0) : Bx l D cA (wX a cA F g) yX0_chargeOf wsX0_chargeOf rbX0_chargeOf [.ref (a 16), .int z0] (exN (kSh F z0) eI eA eS) := by
  refine Bx.of (cc := cX0_chargeOf) (maxL := 3) (ret := (some .int)) (by decide) rfl (Nat.le_of_ble_eq_true rfl) ?_
  intro p e s m args below meth c ls hx hb hts hown hml hK hP hl htab hlocks hZ
  have hown : s.vm.findClass RX0 = some m.cls := hown
  have hi : ∀ w ∈ wsX00, w ∈ wsX0_chargeOf := by decide +kernel
  have hl : lv_has ls 3 [(0, .ref (a 16)), (1, .int z0)] := hl
  have hN : N ≤ 80 := hW.n
  have hc : F 7 0 = nI N := hW.c
  refine lv_iload_n hx hb dX0_chargeOf_0 rfl (lv_at hl 1 rfl) ?_
  refine lv_aload_n hx hb dX0_chargeOf_1 rfl (lv_at hl 0 rfl) ?_
  refine va_get (D := D) (ci := 0) (v := .int (F 7 0)) (C := RX0) (T := TX0) (N := 16) hx hb hts hi hown hK hP 0 rfl rfl 7 (by decide) (hts (.fieldLink RX0 32 "AssignmentHouse" "shiftCount" "I") (by decide +kernel)) (fun _ h9 => h9) rfl dX0_chargeOf_2 ?_
  refine (Classical.em (cI z0 (F 7 0))).elim (fun h1 => ?_) (fun h1 => ?_)
  rotate_left
  rw [show exN (kSh F z0) eI eA eS = eI from by rw [kSh, if_neg h1]; rfl]
  exact Bx.thruS (rest := []) ⟨hx, hb, hml, hown, hts⟩ htab hlocks (b_X0_needOneOf l D cA hl9 z0 (F 7 0) (cI_n h1)) (va_cwS 2 hts gX0_chargeOf_X0_needOneOf rfl rfl rfl (by decide +kernel) ⟨Nat.le_of_ble_eq_true rfl, Nat.le_of_ble_eq_true rfl⟩) hK noP hZ rfl rfl hl.1 (Nat.le_of_ble_eq_true rfl) dX0_chargeOf_5 ⟨Nat.le_of_ble_eq_true rfl, Nat.le_of_ble_eq_true rfl⟩
  exact absurd (by rw [kSh, if_pos h1]) hk

set_option maxHeartbeats 4000000 in
set_option maxRecDepth 100000 in
theorem c_X0_run (l : Launch) (D : va_G) (cA : ClassId) (a : Nat → Nat) (F : Nat → Nat → Int32) (g : Nat → Int32) (N : Nat) (hW : wf F N) (z0 : Int32) (h1 : cI z0 20) : Wi l D cA (S := Nat → Int32) (wX a cA F g) (fun g => wX a cA (runB F N z0.toNatClampNeg 4) g) yX0_run wsX0_run rmX0_run [.ref (a 16), .int z0] (fun r _ => r = sRun F N z0.toNatClampNeg) := by
  refine Wi.of (cc := cX0_run) (maxL := 6) (by decide) rfl (Nat.le_of_ble_eq_true rfl) ?_
  intro p e s m args below meth c ls A Q hx hb hts hown hml hK hP hD hA hS hl hend
  have hown : s.vm.findClass RX0 = some m.cls := hown
  have hi : ∀ w ∈ wsX00, w ∈ wsX0_run := by decide +kernel
  have hl : lv_has ls 6 [(0, .ref (a 16)), (1, .int z0)] := hl
  have hN : N ≤ 80 := hW.n
  have hc : F 7 0 = nI N := hW.c
  obtain ⟨hjz0, ejz0⟩ := cI_of h1 (n := 20) (rfl) (by omega)
  have h6 : (6 : Int32) = nI 6 := rfl
  have h4 : (4 : Int32) = nI 4 := rfl
  refine lv_iload_n hx hb dX0_run_0 rfl (lv_at hl 1 rfl) ?_
  refine lv_bipush (v := 20) hx hb dX0_run_1 (by decide) ?_
  refine Ru.callS (rest := []) ⟨hx, hb, hml, hown, hts⟩ (c_X0_needOneOf l D cA z0 20 h1.1 h1.2) (va_cwS 2 hts gX0_run_X0_needOneOf rfl rfl rfl (by decide +kernel) ⟨Nat.le_of_ble_eq_true rfl, Nat.le_of_ble_eq_true rfl⟩) hK noP rfl rfl hl.1 (Nat.le_of_ble_eq_true rfl) dX0_run_3 ⟨Nat.zero_le _, Nat.zero_le _⟩ ?_
  refine lv_iconst (v := 0) hx hb dX0_run_6 (by decide) ?_
  refine lv_istore_n (lv' := [(2, .int 0), (0, .ref (a 16)), (1, .int z0)]) hx hb dX0_run_7 rfl hl (by decide) rfl (fun ls hl => ?_)
  refine lv_iconst (v := 0) hx hb dX0_run_8 (by decide) ?_
  refine lv_istore_n (lv' := [(3, .int 0), (2, .int 0), (0, .ref (a 16)), (1, .int z0)]) hx hb dX0_run_9 rfl hl (by decide) rfl (fun ls hl => ?_)
  have K_10 : ∀ (n i : Nat) (x2 : Int32) (g : Nat → Int32) (H : Heap) (locs : List Loc) (ls : Array Slot), i + n = 6 → x2 = ps (fun i => pW F N z0.toNatClampNeg i - F 12 (i * 20 + z0.toNatClampNeg)) i → va_P D vwCl (wX a cA (runP F N z0.toNatClampNeg i) g) H → va_D A (wX a cA (runP F N z0.toNatClampNeg i) g) → va_S A s.heap H locs → lv_has ls 6 [(0, .ref (a 16)), (1, .int z0), (2, .int x2), (3, .int (nI i))] → W p l e rmX0_run s m args below meth c H locs 0 0 Q (F0 m 10 ls []) := by
    intro n
    induction n with
    | zero =>
      intro i x2 g H locs ls hin_10 ex2  hP hD hS hl
      have hiN : i = 6 := by omega
      have e9 : i = 6 := hiN
      have hP : va_P D vwCl (wX a cA (runP F N z0.toNatClampNeg 6) g) H := by rw [← hiN]; exact hP
      have hD : va_D A (wX a cA (runP F N z0.toNatClampNeg 6) g) := by rw [← hiN]; exact hD
      refine lv_iload_n hx hb dX0_run_10 rfl (lv_at hl 3 rfl) ?_
      refine lv_bipush (v := 6) hx hb dX0_run_11 (by decide) ?_
      refine lv_icmp_ge (tgt := 64) hx hb dX0_run_13 (by decide) (fun c_13 => ?_) (fun c_13 => (absurd (((br_ge h6 (by omega) (by omega : i ≤ 6)).mpr hiN)) c_13 : False).elim)
      refine lv_iconst (v := 0) hx hb dX0_run_64 (by decide) ?_
      refine lv_istore_n (lv' := [(3, .int 0), (0, .ref (a 16)), (1, .int z0), (2, .int x2)]) hx hb dX0_run_65 rfl hl (by decide) rfl (fun ls hl => ?_)
      have K_66 : ∀ (n i : Nat) (g : Nat → Int32) (H : Heap) (locs : List Loc) (ls : Array Slot), i + n = 4 → va_P D vwCl (wX a cA (runB F N z0.toNatClampNeg i) g) H → va_D A (wX a cA (runB F N z0.toNatClampNeg i) g) → va_S A s.heap H locs → lv_has ls 6 [(0, .ref (a 16)), (1, .int z0), (2, .int x2), (3, .int (nI i))] → W p l e rmX0_run s m args below meth c H locs 0 0 Q (F0 m 66 ls []) := by
        intro n
        induction n with
        | zero =>
          intro i  g H locs ls hin_66   hP hD hS hl
          have hiN : i = 4 := by omega
          have hP : va_P D vwCl (wX a cA (runB F N z0.toNatClampNeg 4) g) H := by rw [← hiN]; exact hP
          have hD : va_D A (wX a cA (runB F N z0.toNatClampNeg 4) g) := by rw [← hiN]; exact hD
          refine lv_iload_n hx hb dX0_run_66 rfl (lv_at hl 3 rfl) ?_
          refine lv_iconst (v := 4) hx hb dX0_run_67 (by decide) ?_
          refine lv_icmp_ge (tgt := 96) hx hb dX0_run_68 (by decide) (fun c_68 => ?_) (fun c_68 => (absurd (((br_ge h4 (by omega) (by omega : i ≤ 4)).mpr hiN)) c_68 : False).elim)
          refine lv_iload_n hx hb dX0_run_96 rfl (lv_at hl 2 rfl) ?_
          exact hend 97 ls _ (g) _ _ dX0_run_97 hP hD hS (by rw [ex2, e9]; rfl)
        | succ n ih_66 =>
          intro i  g H locs ls hin_66   hP hD hS hl
          have hiN : i < 4 := by omega
          refine lv_iload_n hx hb dX0_run_66 rfl (lv_at hl 3 rfl) ?_
          refine lv_iconst (v := 4) hx hb dX0_run_67 (by decide) ?_
          refine lv_icmp_ge (tgt := 96) hx hb dX0_run_68 (by decide) (fun c_68 => (absurd (((br_ge h4 (by omega) (by omega : i ≤ 4)).mp c_68)) (by omega) : False).elim) (fun c_68 => ?_)
          refine lv_aload_n hx hb dX0_run_71 rfl (lv_at hl 0 rfl) ?_
          refine va_get (D := D) (ci := 0) (v := .ref (a 13)) (C := RX0) (T := TX0) (N := 16) hx hb hts hi hown hK hP 0 rfl rfl 13 (by decide) (hts (.fieldLink RX0 50 "AssignmentHouse" "billedFor" "[I") (by decide +kernel)) (fun _ h9 => h9) rfl dX0_run_72 ?_
          refine lv_iload_n hx hb dX0_run_75 rfl (lv_at hl 3 rfl) ?_
          refine lv_bipush (v := 20) hx hb dX0_run_76 (by decide) ?_
          refine lv_imul hx hb dX0_run_78 ?_
          refine lv_iload_n hx hb dX0_run_79 rfl (lv_at hl 1 rfl) ?_
          refine lv_iadd hx hb dX0_run_80 ?_
          refine lv_aload_n hx hb dX0_run_81 rfl (lv_at hl 0 rfl) ?_
          refine lv_iload_n hx hb dX0_run_82 rfl (lv_at hl 3 rfl) ?_
          refine lv_iload_n hx hb dX0_run_83 rfl (lv_at hl 1 rfl) ?_
          refine Wi.callV (rest := [.int (((nI i) * 20) + z0), .ref (a 13)]) (q0 := 0) (ci := 0) (wr := []) [0, 1, 2, 3, 4, 5, 6, 7, 8, 9, 10, 11, 12, 13] [] ⟨hx, hb, hml, hown, hts⟩ (c_X0_weekCharge l D cA a (runB F N z0.toNatClampNeg i) g N ((runB_agr F N z0.toNatClampNeg i).wf hW) (nI i) i rfl (by omega) z0) (cwV 2 hts gX0_run_X0_weekCharge rfl rfl rfl (by decide +kernel) ⟨Nat.le_of_ble_eq_true rfl, Nat.le_of_ble_eq_true rfl⟩) hK hP hD hS hA rfl rfl (by decide) (by decide) (by decide) rfl rfl rfl rfl rfl hl.1 (Nat.le_of_ble_eq_true rfl) dX0_run_84 ⟨Nat.zero_le _, Nat.zero_le _⟩ (fun r84 u84 H locs hu84 hP hD hS => ?_)
          have h9 : r84 = cS F N z0.toNatClampNeg i := hu84.trans (runB_chg ejz0 i rfl)
          subst h9
          have hP : va_P D vwCl (wX a cA (runB F N z0.toNatClampNeg i) u84) H := hP
          have hD : va_D A (wX a cA (runB F N z0.toNatClampNeg i) u84) := hD
          refine put_call (k := 11) (b := a 13) (n := 80) (f := ((runB F N z0.toNatClampNeg i) 13)) (x := (((nI i) * 20) + z0)) (j := (i * 20 + z0.toNatClampNeg)) (v := (cS F N z0.toNatClampNeg i)) (rest := []) ⟨hx, hb, hml, hown, hts⟩ gX0_run_X0_put hK hP hD hS hA rfl (ix20 rfl ejz0) (by omega) (by decide) hl.1 (Nat.le_of_ble_eq_true rfl) dX0_run_87 ⟨Nat.zero_le _, Nat.zero_le _⟩ ⟨Nat.le_of_ble_eq_true rfl, Nat.le_of_ble_eq_true rfl⟩ (fun H locs hP hD hS => ?_)
          have hP : va_P D vwCl (wX a cA (fUp (runB F N z0.toNatClampNeg i) 13 (i * 20 + z0.toNatClampNeg) (cS F N z0.toNatClampNeg i)) u84) H := hP
          have hD : va_D A (wX a cA (fUp (runB F N z0.toNatClampNeg i) 13 (i * 20 + z0.toNatClampNeg) (cS F N z0.toNatClampNeg i)) u84) := hD
          refine lv_iinc (v := (nI (i + 1))) (lv' := [(3, .int (nI (i + 1))), (0, .ref (a 16)), (1, .int z0), (2, .int x2)]) hx hb dX0_run_90 hl (k := 3) rfl (nI_1 i) (by decide) rfl (fun ls hl => ?_)
          refine lv_goto (tgt := 66) hx hb dX0_run_93 (by decide) ?_
          exact ih_66 (i + 1)  u84 _ _ ls (by omega)   hP hD hS (lv_sub hl [1, 2, 3, 0] rfl)
      exact K_66 4 0  g _ _ ls (by omega)   hP hD hS (lv_sub hl [1, 2, 3, 0] rfl)
    | succ n ih_10 =>
      intro i x2 g H locs ls hin_10 ex2  hP hD hS hl
      have hiN : i < 6 := by omega
      refine lv_iload_n hx hb dX0_run_10 rfl (lv_at hl 3 rfl) ?_
      refine lv_bipush (v := 6) hx hb dX0_run_11 (by decide) ?_
      refine lv_icmp_ge (tgt := 64) hx hb dX0_run_13 (by decide) (fun c_13 => (absurd (((br_ge h6 (by omega) (by omega : i ≤ 6)).mp c_13)) (by omega) : False).elim) (fun c_13 => ?_)
      refine lv_aload_n hx hb dX0_run_16 rfl (lv_at hl 0 rfl) ?_
      refine lv_iload_n hx hb dX0_run_17 rfl (lv_at hl 3 rfl) ?_
      refine lv_iload_n hx hb dX0_run_18 rfl (lv_at hl 1 rfl) ?_
      refine Wi.callV (rest := []) (q0 := 0) (ci := 0) (wr := []) [0, 1, 2, 3, 4, 5, 6, 7, 8, 9, 10, 11, 12, 13] [] ⟨hx, hb, hml, hown, hts⟩ (c_X0_weekPay l D cA a (runP F N z0.toNatClampNeg i) g N ((runP_agr F N z0.toNatClampNeg i).wf hW) (nI i) z0) (cwV 2 hts gX0_run_X0_weekPay rfl rfl rfl (by decide +kernel) ⟨Nat.le_of_ble_eq_true rfl, Nat.le_of_ble_eq_true rfl⟩) hK hP hD hS hA rfl rfl (by decide) (by decide) (by decide) rfl rfl rfl rfl rfl hl.1 (Nat.le_of_ble_eq_true rfl) dX0_run_19 ⟨Nat.zero_le _, Nat.zero_le _⟩ (fun r19 u19 H locs hu19 hP hD hS => ?_)
      have h9 : r19 = pW F N z0.toNatClampNeg i := hu19.trans (runP_pay ejz0 i rfl)
      subst h9
      have hP : va_P D vwCl (wX a cA (runP F N z0.toNatClampNeg i) u19) H := hP
      have hD : va_D A (wX a cA (runP F N z0.toNatClampNeg i) u19) := hD
      refine lv_istore (lv' := [(4, .int (pW F N z0.toNatClampNeg i)), (0, .ref (a 16)), (1, .int z0), (2, .int x2), (3, .int (nI i))]) hx hb dX0_run_22 hl (by decide) rfl (fun ls hl => ?_)
      refine lv_iload_n hx hb dX0_run_24 rfl (lv_at hl 4 rfl) ?_
      refine lv_bipush (v := 20) hx hb dX0_run_25 (by decide) ?_
      refine lv_imul hx hb dX0_run_27 ?_
      refine lv_iload_n hx hb dX0_run_28 rfl (lv_at hl 2 rfl) ?_
      refine lv_iadd hx hb dX0_run_29 ?_
      refine lv_istore (lv' := [(5, .int (((nI i) * 20) + z0)), (4, .int (pW F N z0.toNatClampNeg i)), (0, .ref (a 16)), (1, .int z0), (2, .int x2), (3, .int (nI i))]) hx hb dX0_run_30 hl (by decide) rfl (fun ls hl => ?_)
      refine lv_iload_n hx hb dX0_run_32 rfl (lv_at hl 4 rfl) ?_
      refine lv_iload hx hb dX0_run_33 (lv_at hl 1 rfl) ?_
      refine lv_aload_n hx hb dX0_run_35 rfl (lv_at hl 2 rfl) ?_
      refine va_get (D := D) (ci := 0) (v := .ref (a 12)) (C := RX0) (T := TX0) (N := 16) hx hb hts hi hown hK hP 0 rfl rfl 12 (by decide) (hts (.fieldLink RX0 47 "AssignmentHouse" "paidFor" "[I") (by decide +kernel)) (fun _ h9 => h9) rfl dX0_run_36 ?_
      refine lv_iload hx hb dX0_run_39 (lv_at hl 0 rfl) ?_
      refine Rd.callS (rest := [.int (pW F N z0.toNatClampNeg i), .int x2]) ⟨hx, hb, hml, hown, hts⟩ (c_X0_at l D cA (a 12) 120 ((runP F N z0.toNatClampNeg i) 12) (((nI i) * 20) + z0) (i * 20 + z0.toNatClampNeg) (ix20 rfl ejz0) (by omega) (by decide)) (va_cwS 2 hts gX0_run_X0_at rfl rfl rfl (by decide +kernel) ⟨Nat.le_of_ble_eq_true rfl, Nat.le_of_ble_eq_true rfl⟩) hK (hP.sub [10] rfl) rfl rfl hl.1 (Nat.le_of_ble_eq_true rfl) dX0_run_41 ⟨Nat.zero_le _, Nat.zero_le _⟩ ?_
      refine lv_isub hx hb dX0_run_44 ?_
      refine lv_iadd hx hb dX0_run_45 ?_
      refine lv_istore_n (lv' := [(2, .int (x2 + ((pW F N z0.toNatClampNeg i) - ((runP F N z0.toNatClampNeg i) 12 (i * 20 + z0.toNatClampNeg))))), (5, .int (((nI i) * 20) + z0)), (4, .int (pW F N z0.toNatClampNeg i)), (0, .ref (a 16)), (1, .int z0), (3, .int (nI i))]) hx hb dX0_run_46 rfl hl (by decide) rfl (fun ls hl => ?_)
      refine lv_aload_n hx hb dX0_run_47 rfl (lv_at hl 3 rfl) ?_
      refine va_get (D := D) (ci := 0) (v := .ref (a 12)) (C := RX0) (T := TX0) (N := 16) hx hb hts hi hown hK hP 0 rfl rfl 12 (by decide) (hts (.fieldLink RX0 47 "AssignmentHouse" "paidFor" "[I") (by decide +kernel)) (fun _ h9 => h9) rfl dX0_run_48 ?_
      refine lv_iload hx hb dX0_run_51 (lv_at hl 1 rfl) ?_
      refine lv_iload hx hb dX0_run_53 (lv_at hl 2 rfl) ?_
      refine put_call (k := 10) (b := a 12) (n := 120) (f := ((runP F N z0.toNatClampNeg i) 12)) (x := (((nI i) * 20) + z0)) (j := (i * 20 + z0.toNatClampNeg)) (v := (pW F N z0.toNatClampNeg i)) (rest := []) ⟨hx, hb, hml, hown, hts⟩ gX0_run_X0_put hK hP hD hS hA rfl (ix20 rfl ejz0) (by omega) (by decide) hl.1 (Nat.le_of_ble_eq_true rfl) dX0_run_55 ⟨Nat.zero_le _, Nat.zero_le _⟩ ⟨Nat.le_of_ble_eq_true rfl, Nat.le_of_ble_eq_true rfl⟩ (fun H locs hP hD hS => ?_)
      have hP : va_P D vwCl (wX a cA (fUp (runP F N z0.toNatClampNeg i) 12 (i * 20 + z0.toNatClampNeg) (pW F N z0.toNatClampNeg i)) u19) H := hP
      have hD : va_D A (wX a cA (fUp (runP F N z0.toNatClampNeg i) 12 (i * 20 + z0.toNatClampNeg) (pW F N z0.toNatClampNeg i)) u19) := hD
      refine lv_iinc (v := (nI (i + 1))) (lv' := [(3, .int (nI (i + 1))), (2, .int (x2 + ((pW F N z0.toNatClampNeg i) - ((runP F N z0.toNatClampNeg i) 12 (i * 20 + z0.toNatClampNeg))))), (5, .int (((nI i) * 20) + z0)), (4, .int (pW F N z0.toNatClampNeg i)), (0, .ref (a 16)), (1, .int z0)]) hx hb dX0_run_58 hl (k := 5) rfl (nI_1 i) (by decide) rfl (fun ls hl => ?_)
      refine lv_goto (tgt := 10) hx hb dX0_run_61 (by decide) ?_
      exact ih_10 (i + 1) _ u19 _ _ ls (by omega) (by rw [ps_s, ex2, runP_at F N z0.toNatClampNeg i i (Nat.le_refl i)])  hP hD hS (lv_sub hl [4, 5, 1, 0] rfl)
  exact K_10 6 0 _ g _ _ ls (by omega) (rfl)  hP hD hS (lv_sub hl [2, 3, 1, 0] rfl)

set_option maxHeartbeats 4000000 in
set_option maxRecDepth 100000 in
theorem b_X0_run (l : Launch) (D : va_G) (cA : ClassId) (hl9 : l.stackTraces = false) (a : Nat → Nat) (F : Nat → Nat → Int32) (g : Nat → Int32) (N : Nat) (hW : wf F N) (z0 : Int32) (hk : kWk z0 ≠ 0) : Bx l D cA (wX a cA F g) yX0_run wsX0_run rbX0_run [.ref (a 16), .int z0] (exN (kWk z0) eI eA eS) := by
  refine Bx.of (cc := cX0_run) (maxL := 6) (ret := (some .int)) (by decide) rfl (Nat.le_of_ble_eq_true rfl) ?_
  intro p e s m args below meth c ls hx hb hts hown hml hK hP hl htab hlocks hZ
  have hown : s.vm.findClass RX0 = some m.cls := hown
  have hi : ∀ w ∈ wsX00, w ∈ wsX0_run := by decide +kernel
  have hl : lv_has ls 6 [(0, .ref (a 16)), (1, .int z0)] := hl
  have hN : N ≤ 80 := hW.n
  have hc : F 7 0 = nI N := hW.c
  refine lv_iload_n hx hb dX0_run_0 rfl (lv_at hl 1 rfl) ?_
  refine lv_bipush (v := 20) hx hb dX0_run_1 (by decide) ?_
  refine (Classical.em (cI z0 20)).elim (fun h1 => ?_) (fun h1 => ?_)
  rotate_left
  rw [show exN (kWk z0) eI eA eS = eI from by rw [kWk, if_neg h1]; rfl]
  exact Bx.thruS (rest := []) ⟨hx, hb, hml, hown, hts⟩ htab hlocks (b_X0_needOneOf l D cA hl9 z0 20 (cI_n h1)) (va_cwS 2 hts gX0_run_X0_needOneOf rfl rfl rfl (by decide +kernel) ⟨Nat.le_of_ble_eq_true rfl, Nat.le_of_ble_eq_true rfl⟩) hK noP hZ rfl rfl hl.1 (Nat.le_of_ble_eq_true rfl) dX0_run_3 ⟨Nat.le_of_ble_eq_true rfl, Nat.le_of_ble_eq_true rfl⟩
  exact absurd (by rw [kWk, if_pos h1]) hk
end
section
/-! the class: payByHours; by program (wip/whole/gen) -/
abbrev rmX0_payByHours : Room := { frames := 4, cells := 0, slots := 0, locals := 95 }
abbrev rbX0_payByHours : Room := { frames := 7, cells := 1, slots := 6, locals := 111 }
set_option maxHeartbeats 4000000 in
set_option maxRecDepth 100000 in
theorem c_X0_payByHours (l : Launch) (D : va_G) (cA : ClassId) (a : Nat → Nat) (F : Nat → Nat → Int32) (g : Nat → Int32) (N : Nat) (hW : wf F N) (z0 z1 : Int32) (h1 : cI z0 6) (h2 : cI z1 20) : Rd l D cA (wX a cA F g) yX0_payByHours wsX0_payByHours rmX0_payByHours [.ref (a 16), .int z0, .int z1] (ps (tPw F N z0 z1) N) := by
  refine Rd.of (cc := cX0_payByHours) (maxL := 13) (by decide) rfl (Nat.le_of_ble_eq_true rfl) ?_
  intro p e s m args below meth c ls Q hx hb hts hown hml hK hP hl hend
  have hown : s.vm.findClass RX0 = some m.cls := hown
  have hi : ∀ w ∈ wsX00, w ∈ wsX0_payByHours := by decide +kernel
  have hl : lv_has ls 13 [(0, .ref (a 16)), (1, .int z0), (2, .int z1)] := hl
  have hN : N ≤ 80 := hW.n
  have hc : F 7 0 = nI N := hW.c
  obtain ⟨hjz0, ejz0⟩ := cI_of h1 (n := 6) (rfl) (by omega)
  obtain ⟨hjz1, ejz1⟩ := cI_of h2 (n := 20) (rfl) (by omega)
  have h7 : (7 : Int32) = nI 7 := rfl
  refine lv_iload_n hx hb dX0_payByHours_0 rfl (lv_at hl 1 rfl) ?_
  refine lv_bipush (v := 6) hx hb dX0_payByHours_1 (by decide) ?_
  refine Ru.callS (rest := []) ⟨hx, hb, hml, hown, hts⟩ (c_X0_needOneOf l D cA z0 6 h1.1 h1.2) (va_cwS 2 hts gX0_payByHours_X0_needOneOf rfl rfl rfl (by decide +kernel) ⟨Nat.le_of_ble_eq_true rfl, Nat.le_of_ble_eq_true rfl⟩) hK noP rfl rfl hl.1 (Nat.le_of_ble_eq_true rfl) dX0_payByHours_3 ⟨Nat.zero_le _, Nat.zero_le _⟩ ?_
  refine lv_iload_n hx hb dX0_payByHours_6 rfl (lv_at hl 2 rfl) ?_
  refine lv_bipush (v := 20) hx hb dX0_payByHours_7 (by decide) ?_
  refine Ru.callS (rest := []) ⟨hx, hb, hml, hown, hts⟩ (c_X0_needOneOf l D cA z1 20 h2.1 h2.2) (va_cwS 2 hts gX0_payByHours_X0_needOneOf rfl rfl rfl (by decide +kernel) ⟨Nat.le_of_ble_eq_true rfl, Nat.le_of_ble_eq_true rfl⟩) hK noP rfl rfl hl.1 (Nat.le_of_ble_eq_true rfl) dX0_payByHours_9 ⟨Nat.zero_le _, Nat.zero_le _⟩ ?_
  refine lv_iconst (v := 0) hx hb dX0_payByHours_12 (by decide) ?_
  refine lv_istore_n (lv' := [(3, .int 0), (0, .ref (a 16)), (1, .int z0), (2, .int z1)]) hx hb dX0_payByHours_13 rfl hl (by decide) rfl (fun ls hl => ?_)
  refine lv_iconst (v := 0) hx hb dX0_payByHours_14 (by decide) ?_
  refine lv_istore (lv' := [(4, .int 0), (3, .int 0), (0, .ref (a 16)), (1, .int z0), (2, .int z1)]) hx hb dX0_payByHours_15 hl (by decide) rfl (fun ls hl => ?_)
  refine lv_iconst (v := 0) hx hb dX0_payByHours_17 (by decide) ?_
  refine lv_istore (lv' := [(5, .int 0), (4, .int 0), (3, .int 0), (0, .ref (a 16)), (1, .int z0), (2, .int z1)]) hx hb dX0_payByHours_18 hl (by decide) rfl (fun ls hl => ?_)
  have K_20 : ∀ (n i : Nat) (x3 : Int32) (x4 : Int32) (ls : Array Slot), i + n = 7 → x3 = (ps (fun j => ps (tDy F N z0 (7 * z1.toNatClampNeg + j)) N) i) → x4 = nI (min 40 (wkS F z0 N (7 * z1.toNatClampNeg) i)) → lv_has ls 13 [(0, .ref (a 16)), (1, .int z0), (2, .int z1), (3, .int x3), (4, .int x4), (5, .int (nI i))] → W p l e rmX0_payByHours s m args below meth c s.heap [] 0 0 Q (F0 m 20 ls []) := by
    intro n
    induction n with
    | zero =>
      intro i x3 x4 ls hin_20 ex3 ex4 hl
      have hiN : i = 7 := by omega
      refine lv_iload hx hb dX0_payByHours_20 (lv_at hl 5 rfl) ?_
      refine lv_bipush (v := 7) hx hb dX0_payByHours_22 (by decide) ?_
      refine lv_icmp_ge (tgt := 185) hx hb dX0_payByHours_24 (by decide) (fun c_24 => ?_) (fun c_24 => (absurd (((br_ge h7 (by omega) (by omega : i ≤ 7)).mpr hiN)) c_24 : False).elim)
      refine lv_iload_n hx hb dX0_payByHours_185 rfl (lv_at hl 3 rfl) ?_
      exact hend 186 ls _ dX0_payByHours_186 (by rw [ex3, hiN, pbh_sum hW hjz1 z0, ← ejz1])
    | succ n ih_20 =>
      intro i x3 x4 ls hin_20 ex3 ex4 hl
      have hiN : i < 7 := by omega
      have hdy : z1 * 7 + nI i = nI (7 * z1.toNatClampNeg + i) := (congrArg (· + nI i) ((congrArg (· * 7) ejz1).trans ((Int32.mul_comm _ _).trans (pk_mul 7 _)))).trans (nI_add _ _)
      refine lv_iload hx hb dX0_payByHours_20 (lv_at hl 5 rfl) ?_
      refine lv_bipush (v := 7) hx hb dX0_payByHours_22 (by decide) ?_
      refine lv_icmp_ge (tgt := 185) hx hb dX0_payByHours_24 (by decide) (fun c_24 => (absurd (((br_ge h7 (by omega) (by omega : i ≤ 7)).mp c_24)) (by omega) : False).elim) (fun c_24 => ?_)
      refine lv_iload_n hx hb dX0_payByHours_27 rfl (lv_at hl 2 rfl) ?_
      refine lv_bipush (v := 7) hx hb dX0_payByHours_28 (by decide) ?_
      refine lv_imul hx hb dX0_payByHours_30 ?_
      refine lv_iload hx hb dX0_payByHours_31 (lv_at hl 5 rfl) ?_
      refine lv_iadd hx hb dX0_payByHours_33 ?_
      rw [hdy]
      refine lv_istore (lv' := [(6, .int (nI (7 * z1.toNatClampNeg + i))), (0, .ref (a 16)), (1, .int z0), (2, .int z1), (3, .int x3), (4, .int x4), (5, .int (nI i))]) hx hb dX0_payByHours_34 hl (by decide) rfl (fun ls hl => ?_)
      refine lv_iconst (v := 0) hx hb dX0_payByHours_36 (by decide) ?_
      refine lv_istore (lv' := [(7, .int 0), (6, .int (nI (7 * z1.toNatClampNeg + i))), (0, .ref (a 16)), (1, .int z0), (2, .int z1), (3, .int x3), (4, .int x4), (5, .int (nI i))]) hx hb dX0_payByHours_37 hl (by decide) rfl (fun ls hl => ?_)
      refine lv_iconst (v := 0) hx hb dX0_payByHours_39 (by decide) ?_
      refine lv_istore (lv' := [(8, .int 0), (7, .int 0), (6, .int (nI (7 * z1.toNatClampNeg + i))), (0, .ref (a 16)), (1, .int z0), (2, .int z1), (3, .int x3), (4, .int x4), (5, .int (nI i))]) hx hb dX0_payByHours_40 hl (by decide) rfl (fun ls hl => ?_)
      have K_42 : ∀ (n2 q : Nat) (y3 : Int32) (y4 : Int32) (y7 : Int32) (ls : Array Slot), q + n2 = N → y3 = (ps (fun j => ps (tDy F N z0 (7 * z1.toNatClampNeg + j)) N) i) + ps (tDy F N z0 (7 * z1.toNatClampNeg + i)) q → y4 = nI (min 40 ((wkS F z0 N (7 * z1.toNatClampNeg) i) + min 8 (dhw F z0 (7 * z1.toNatClampNeg + i) q))) → y7 = nI (dhw F z0 (7 * z1.toNatClampNeg + i) q) → lv_has ls 13 [(0, .ref (a 16)), (1, .int z0), (2, .int z1), (3, .int y3), (4, .int y4), (5, .int (nI i)), (6, .int (nI (7 * z1.toNatClampNeg + i))), (7, .int y7), (8, .int (nI q))] → W p l e rmX0_payByHours s m args below meth c s.heap [] 0 0 Q (F0 m 42 ls []) := by
        intro n2
        induction n2 with
        | zero =>
          intro q y3 y4 y7 ls hin_42 ey3 ey4 ey7 hl
          have hqN : q = N := by omega
          refine lv_iload hx hb dX0_payByHours_42 (lv_at hl 8 rfl) ?_
          refine lv_aload_n hx hb dX0_payByHours_44 rfl (lv_at hl 0 rfl) ?_
          refine va_get (D := D) (ci := 0) (v := .int (F 7 0)) (C := RX0) (T := TX0) (N := 16) hx hb hts hi hown hK hP 0 rfl rfl 7 (by decide) (hts (.fieldLink RX0 32 "AssignmentHouse" "shiftCount" "I") (by decide +kernel)) (fun _ h9 => h9) rfl dX0_payByHours_45 ?_
          refine lv_icmp_ge (tgt := 179) hx hb dX0_payByHours_48 (by decide) (fun c_48 => ?_) (fun c_48 => (absurd (((br_ge hc (by omega) (by omega : q ≤ N)).mpr hqN)) c_48 : False).elim)
          refine lv_iinc (v := (nI (i + 1))) (lv' := [(5, .int (nI (i + 1))), (0, .ref (a 16)), (1, .int z0), (2, .int z1), (3, .int y3), (4, .int y4), (6, .int (nI (7 * z1.toNatClampNeg + i))), (7, .int y7), (8, .int (nI q))]) hx hb dX0_payByHours_179 hl (k := 5) rfl (nI_1 i) (by decide) rfl (fun ls hl => ?_)
          refine lv_goto (tgt := 20) hx hb dX0_payByHours_182 (by decide) ?_
          exact ih_20 (i + 1) _ _ ls (by omega) (by rw [ey3, hqN]; rfl) (by rw [ey4, hqN]; rfl) (lv_sub hl [1, 2, 3, 4, 5, 0] rfl)
        | succ n2 ih_42 =>
          intro q y3 y4 y7 ls hin_42 ey3 ey4 ey7 hl
          have hqN : q < N := by omega
          have ehq : F 11 q = nI (hrN F q) := (hW.hn hqN).1
          have hh9 : hrN F q ≤ 16 := (hW.hn hqN).2
          have hb9 : (dhw F z0 (7 * z1.toNatClampNeg + i) q) ≤ 1280 := dhw_le hW z0 _ (by omega)
          refine lv_iload hx hb dX0_payByHours_42 (lv_at hl 8 rfl) ?_
          refine lv_aload_n hx hb dX0_payByHours_44 rfl (lv_at hl 0 rfl) ?_
          refine va_get (D := D) (ci := 0) (v := .int (F 7 0)) (C := RX0) (T := TX0) (N := 16) hx hb hts hi hown hK hP 0 rfl rfl 7 (by decide) (hts (.fieldLink RX0 32 "AssignmentHouse" "shiftCount" "I") (by decide +kernel)) (fun _ h9 => h9) rfl dX0_payByHours_45 ?_
          refine lv_icmp_ge (tgt := 179) hx hb dX0_payByHours_48 (by decide) (fun c_48 => (absurd (((br_ge hc (by omega) (by omega : q ≤ N)).mp c_48)) (by omega) : False).elim) (fun c_48 => ?_)
          refine lv_aload_n hx hb dX0_payByHours_51 rfl (lv_at hl 0 rfl) ?_
          refine va_get (D := D) (ci := 0) (v := .ref (a 8)) (C := RX0) (T := TX0) (N := 16) hx hb hts hi hown hK hP 0 rfl rfl 8 (by decide) (hts (.fieldLink RX0 35 "AssignmentHouse" "workerOf" "[I") (by decide +kernel)) (fun _ h9 => h9) rfl dX0_payByHours_52 ?_
          refine lv_iload hx hb dX0_payByHours_55 (lv_at hl 8 rfl) ?_
          refine Rd.callS (rest := []) ⟨hx, hb, hml, hown, hts⟩ (c_X0_at l D cA (a 8) 80 (F 8) (nI q) q (rfl) (by omega) (by decide)) (va_cwS 2 hts gX0_payByHours_X0_at rfl rfl rfl (by decide +kernel) ⟨Nat.le_of_ble_eq_true rfl, Nat.le_of_ble_eq_true rfl⟩) hK (hP.sub [6] rfl) rfl rfl hl.1 (Nat.le_of_ble_eq_true rfl) dX0_payByHours_57 ⟨Nat.zero_le _, Nat.zero_le _⟩ ?_
          refine lv_iload_n hx hb dX0_payByHours_60 rfl (lv_at hl 1 rfl) ?_
          refine lv_icmp_ne (tgt := 173) hx hb dX0_payByHours_61 (by decide) (fun c_61 => ?_) (fun c_61 => ?_)
          · skip
            refine lv_iinc (v := (nI (q + 1))) (lv' := [(8, .int (nI (q + 1))), (0, .ref (a 16)), (1, .int z0), (2, .int z1), (3, .int y3), (4, .int y4), (5, .int (nI i)), (6, .int (nI (7 * z1.toNatClampNeg + i))), (7, .int y7)]) hx hb dX0_payByHours_173 hl (k := 8) rfl (nI_1 q) (by decide) rfl (fun ls hl => ?_)
            refine lv_goto (tgt := 42) hx hb dX0_payByHours_176 (by decide) ?_
            exact ih_42 (q + 1) _ _ _ ls (by omega) (by have h9 : tDy F N z0 (7 * z1.toNatClampNeg + i) q = 0 := if_neg (fun h => c_61 h.1); rw [ps_s, h9, i32_a0]; exact ey3) (by have h8 : tD F z0 (7 * z1.toNatClampNeg + i) q = 0 := if_neg (fun h => c_61 h.1); rw [dhw_s, h8, Nat.add_zero]; exact ey4) (by have h8 : tD F z0 (7 * z1.toNatClampNeg + i) q = 0 := if_neg (fun h => c_61 h.1); rw [dhw_s, h8, Nat.add_zero]; exact ey7) (lv_sub hl [1, 2, 3, 4, 5, 6, 7, 8, 0] rfl)
          · skip
            refine lv_aload_n hx hb dX0_payByHours_64 rfl (lv_at hl 0 rfl) ?_
            refine va_get (D := D) (ci := 0) (v := .ref (a 10)) (C := RX0) (T := TX0) (N := 16) hx hb hts hi hown hK hP 0 rfl rfl 10 (by decide) (hts (.fieldLink RX0 41 "AssignmentHouse" "dayOf" "[I") (by decide +kernel)) (fun _ h9 => h9) rfl dX0_payByHours_65 ?_
            refine lv_iload hx hb dX0_payByHours_68 (lv_at hl 8 rfl) ?_
            refine Rd.callS (rest := []) ⟨hx, hb, hml, hown, hts⟩ (c_X0_at l D cA (a 10) 80 (F 10) (nI q) q (rfl) (by omega) (by decide)) (va_cwS 2 hts gX0_payByHours_X0_at rfl rfl rfl (by decide +kernel) ⟨Nat.le_of_ble_eq_true rfl, Nat.le_of_ble_eq_true rfl⟩) hK (hP.sub [8] rfl) rfl rfl hl.1 (Nat.le_of_ble_eq_true rfl) dX0_payByHours_70 ⟨Nat.zero_le _, Nat.zero_le _⟩ ?_
            refine lv_iload hx hb dX0_payByHours_73 (lv_at hl 6 rfl) ?_
            refine lv_icmp_ne (tgt := 173) hx hb dX0_payByHours_75 (by decide) (fun c_75 => ?_) (fun c_75 => ?_)
            · skip
              refine lv_iinc (v := (nI (q + 1))) (lv' := [(8, .int (nI (q + 1))), (0, .ref (a 16)), (1, .int z0), (2, .int z1), (3, .int y3), (4, .int y4), (5, .int (nI i)), (6, .int (nI (7 * z1.toNatClampNeg + i))), (7, .int y7)]) hx hb dX0_payByHours_173 hl (k := 8) rfl (nI_1 q) (by decide) rfl (fun ls hl => ?_)
              refine lv_goto (tgt := 42) hx hb dX0_payByHours_176 (by decide) ?_
              exact ih_42 (q + 1) _ _ _ ls (by omega) (by have h9 : tDy F N z0 (7 * z1.toNatClampNeg + i) q = 0 := if_neg (fun h => c_75 h.2); rw [ps_s, h9, i32_a0]; exact ey3) (by have h8 : tD F z0 (7 * z1.toNatClampNeg + i) q = 0 := if_neg (fun h => c_75 ((hW.dayE hqN (by omega)).mpr h.2)); rw [dhw_s, h8, Nat.add_zero]; exact ey4) (by have h8 : tD F z0 (7 * z1.toNatClampNeg + i) q = 0 := if_neg (fun h => c_75 ((hW.dayE hqN (by omega)).mpr h.2)); rw [dhw_s, h8, Nat.add_zero]; exact ey7) (lv_sub hl [1, 2, 3, 4, 5, 6, 7, 8, 0] rfl)
            · skip
              refine lv_aload_n hx hb dX0_payByHours_78 rfl (lv_at hl 0 rfl) ?_
              refine lv_iload_n hx hb dX0_payByHours_79 rfl (lv_at hl 1 rfl) ?_
              refine lv_aload_n hx hb dX0_payByHours_80 rfl (lv_at hl 0 rfl) ?_
              refine va_get (D := D) (ci := 0) (v := .ref (a 9)) (C := RX0) (T := TX0) (N := 16) hx hb hts hi hown hK hP 0 rfl rfl 9 (by decide) (hts (.fieldLink RX0 38 "AssignmentHouse" "siteOf" "[I") (by decide +kernel)) (fun _ h9 => h9) rfl dX0_payByHours_81 ?_
              refine lv_iload hx hb dX0_payByHours_84 (lv_at hl 8 rfl) ?_
              refine Rd.callS (rest := [.int z0, .ref (a 16)]) ⟨hx, hb, hml, hown, hts⟩ (c_X0_at l D cA (a 9) 80 (F 9) (nI q) q (rfl) (by omega) (by decide)) (va_cwS 2 hts gX0_payByHours_X0_at rfl rfl rfl (by decide +kernel) ⟨Nat.le_of_ble_eq_true rfl, Nat.le_of_ble_eq_true rfl⟩) hK (hP.sub [7] rfl) rfl rfl hl.1 (Nat.le_of_ble_eq_true rfl) dX0_payByHours_86 ⟨Nat.zero_le _, Nat.zero_le _⟩ ?_
              refine lv_iload_n hx hb dX0_payByHours_89 rfl (lv_at hl 2 rfl) ?_
              refine Rd.callV (rest := []) (q0 := 0) (ci := 0) ⟨hx, hb, hml, hown, hts⟩ (c_X0_rateThere l D cA a F g N hW z0 (F 9 q) (F 9 q).toNatClampNeg (hW.site hqN).2 (hW.site hqN).1 z1 z1.toNatClampNeg ejz1 (by omega)) (cwV 3 hts gX0_payByHours_X0_rateThere rfl rfl rfl (by decide +kernel) ⟨Nat.le_of_ble_eq_true rfl, Nat.le_of_ble_eq_true rfl⟩) hK hP rfl rfl rfl rfl rfl hl.1 (Nat.le_of_ble_eq_true rfl) dX0_payByHours_90 ⟨Nat.zero_le _, Nat.zero_le _⟩ ?_
              refine lv_topi (fun rt ert => ?_)
              refine lv_istore (lv' := [(9, .int rt), (0, .ref (a 16)), (1, .int z0), (2, .int z1), (3, .int y3), (4, .int y4), (5, .int (nI i)), (6, .int (nI (7 * z1.toNatClampNeg + i))), (7, .int y7), (8, .int (nI q))]) hx hb dX0_payByHours_93 hl (by decide) rfl (fun ls hl => ?_)
              refine lv_aload_n hx hb dX0_payByHours_95 rfl (lv_at hl 1 rfl) ?_
              refine va_get (D := D) (ci := 0) (v := .ref (a 11)) (C := RX0) (T := TX0) (N := 16) hx hb hts hi hown hK hP 0 rfl rfl 11 (by decide) (hts (.fieldLink RX0 44 "AssignmentHouse" "hoursOf" "[I") (by decide +kernel)) (fun _ h9 => h9) rfl dX0_payByHours_96 ?_
              refine lv_iload hx hb dX0_payByHours_99 (lv_at hl 9 rfl) ?_
              refine Rd.callS (rest := []) ⟨hx, hb, hml, hown, hts⟩ (c_X0_at l D cA (a 11) 80 (F 11) (nI q) q (rfl) (by omega) (by decide)) (va_cwS 2 hts gX0_payByHours_X0_at rfl rfl rfl (by decide +kernel) ⟨Nat.le_of_ble_eq_true rfl, Nat.le_of_ble_eq_true rfl⟩) hK (hP.sub [9] rfl) rfl rfl hl.1 (Nat.le_of_ble_eq_true rfl) dX0_payByHours_101 ⟨Nat.zero_le _, Nat.zero_le _⟩ ?_
              refine lv_istore (lv' := [(10, .int (F 11 q)), (9, .int rt), (0, .ref (a 16)), (1, .int z0), (2, .int z1), (3, .int y3), (4, .int y4), (5, .int (nI i)), (6, .int (nI (7 * z1.toNatClampNeg + i))), (7, .int y7), (8, .int (nI q))]) hx hb dX0_payByHours_104 hl (by decide) rfl (fun ls hl => ?_)
              refine lv_iconst (v := 0) hx hb dX0_payByHours_106 (by decide) ?_
              refine lv_istore (lv' := [(11, .int 0), (10, .int (F 11 q)), (9, .int rt), (0, .ref (a 16)), (1, .int z0), (2, .int z1), (3, .int y3), (4, .int y4), (5, .int (nI i)), (6, .int (nI (7 * z1.toNatClampNeg + i))), (7, .int y7), (8, .int (nI q))]) hx hb dX0_payByHours_107 hl (by decide) rfl (fun ls hl => ?_)
              refine lv_iconst (v := 0) hx hb dX0_payByHours_109 (by decide) ?_
              refine lv_istore (lv' := [(12, .int 0), (11, .int 0), (10, .int (F 11 q)), (9, .int rt), (0, .ref (a 16)), (1, .int z0), (2, .int z1), (3, .int y3), (4, .int y4), (5, .int (nI i)), (6, .int (nI (7 * z1.toNatClampNeg + i))), (7, .int y7), (8, .int (nI q))]) hx hb dX0_payByHours_110 hl (by decide) rfl (fun ls hl => ?_)
              have K_112 : ∀ (n3 u : Nat) (v4 : Int32) (v7 : Int32) (v11 : Int32) (ls : Array Slot), u + n3 = (hrN F q) → v4 = nI ((min 40 ((wkS F z0 N (7 * z1.toNatClampNeg) i) + min 8 (dhw F z0 (7 * z1.toNatClampNeg + i) q))) + (itsN (min 40 ((wkS F z0 N (7 * z1.toNatClampNeg) i) + min 8 (dhw F z0 (7 * z1.toNatClampNeg + i) q))) (dhw F z0 (7 * z1.toNatClampNeg + i) q) u)) → v7 = nI ((dhw F z0 (7 * z1.toNatClampNeg + i) q) + u) → v11 = nI (2 * (itsN (min 40 ((wkS F z0 N (7 * z1.toNatClampNeg) i) + min 8 (dhw F z0 (7 * z1.toNatClampNeg + i) q))) (dhw F z0 (7 * z1.toNatClampNeg + i) q) u) + 3 * (u - (itsN (min 40 ((wkS F z0 N (7 * z1.toNatClampNeg) i) + min 8 (dhw F z0 (7 * z1.toNatClampNeg + i) q))) (dhw F z0 (7 * z1.toNatClampNeg + i) q) u))) * rt → lv_has ls 13 [(0, .ref (a 16)), (1, .int z0), (2, .int z1), (3, .int y3), (4, .int v4), (5, .int (nI i)), (6, .int (nI (7 * z1.toNatClampNeg + i))), (7, .int v7), (8, .int (nI q)), (9, .int rt), (10, .int (F 11 q)), (11, .int v11), (12, .int (nI u))] → W p l e rmX0_payByHours s m args below meth c s.heap [] 0 0 Q (F0 m 112 ls []) := by
                intro n3
                induction n3 with
                | zero =>
                  intro u v4 v7 v11 ls hin_112 ev4 ev7 ev11 hl
                  have huN : u = (hrN F q) := by omega
                  have hdq : dayN F q = (7 * z1.toNatClampNeg + i) := (hW.dayE hqN (by omega)).mp c_75
                  have h9t : tDy F N z0 (7 * z1.toNatClampNeg + i) q = sPy F N q := if_pos ⟨c_61, c_75⟩
                  have h8t : tD F z0 (7 * z1.toNatClampNeg + i) q = hrN F q := if_pos ⟨c_61, hdq⟩
                  have hend9 : v11 / 2 = sPy F N q := hr_e (i := i) (K := z1.toNatClampNeg) hW hqN hiN c_61 hdq ert (by rw [ev11, huN])
                  refine lv_iload hx hb dX0_payByHours_112 (lv_at hl 12 rfl) ?_
                  refine lv_iload hx hb dX0_payByHours_114 (lv_at hl 10 rfl) ?_
                  refine lv_icmp_ge (tgt := 166) hx hb dX0_payByHours_116 (by decide) (fun c_116 => ?_) (fun c_116 => (absurd (((br_ge ehq (by omega) (by omega : u ≤ (hrN F q))).mpr huN)) c_116 : False).elim)
                  refine lv_iload_n hx hb dX0_payByHours_166 rfl (lv_at hl 3 rfl) ?_
                  refine lv_iload hx hb dX0_payByHours_167 (lv_at hl 11 rfl) ?_
                  refine lv_iconst (v := 2) hx hb dX0_payByHours_169 (by decide) ?_
                  refine lv_idiv hx hb dX0_payByHours_170 (by decide) ?_
                  refine lv_iadd hx hb dX0_payByHours_171 ?_
                  refine lv_istore_n (lv' := [(3, .int (y3 + (v11 / 2))), (0, .ref (a 16)), (1, .int z0), (2, .int z1), (4, .int v4), (5, .int (nI i)), (6, .int (nI (7 * z1.toNatClampNeg + i))), (7, .int v7), (8, .int (nI q)), (9, .int rt), (10, .int (F 11 q)), (11, .int v11), (12, .int (nI u))]) hx hb dX0_payByHours_172 rfl hl (by decide) rfl (fun ls hl => ?_)
                  refine lv_iinc (v := (nI (q + 1))) (lv' := [(8, .int (nI (q + 1))), (3, .int (y3 + (v11 / 2))), (0, .ref (a 16)), (1, .int z0), (2, .int z1), (4, .int v4), (5, .int (nI i)), (6, .int (nI (7 * z1.toNatClampNeg + i))), (7, .int v7), (9, .int rt), (10, .int (F 11 q)), (11, .int v11), (12, .int (nI u))]) hx hb dX0_payByHours_173 hl (k := 8) rfl (nI_1 q) (by decide) rfl (fun ls hl => ?_)
                  refine lv_goto (tgt := 42) hx hb dX0_payByHours_176 (by decide) ?_
                  exact ih_42 (q + 1) _ _ _ ls (by omega) (by rw [ps_s, h9t, ← Int32.add_assoc, ← ey3, hend9]) (by rw [dhw_s, h8t, ev4, huN]; congr 1; unfold itsN; omega) (by rw [dhw_s, h8t, ev7, huN]) (lv_sub hl [2, 3, 4, 1, 5, 6, 7, 8, 0] rfl)
                | succ n3 ih_112 =>
                  intro u v4 v7 v11 ls hin_112 ev4 ev7 ev11 hl
                  have huN : u < (hrN F q) := by omega
                  refine lv_iload hx hb dX0_payByHours_112 (lv_at hl 12 rfl) ?_
                  refine lv_iload hx hb dX0_payByHours_114 (lv_at hl 10 rfl) ?_
                  refine lv_icmp_ge (tgt := 166) hx hb dX0_payByHours_116 (by decide) (fun c_116 => (absurd (((br_ge ehq (by omega) (by omega : u ≤ (hrN F q))).mp c_116)) (by omega) : False).elim) (fun c_116 => ?_)
                  refine lv_iload hx hb dX0_payByHours_119 (lv_at hl 7 rfl) ?_
                  refine lv_bipush (v := 8) hx hb dX0_payByHours_121 (by decide) ?_
                  refine lv_icmp_ge (tgt := 133) hx hb dX0_payByHours_123 (by decide) (fun c_123 => ?_) (fun c_123 => ?_)
                  · skip
                    refine lv_iload hx hb dX0_payByHours_133 (lv_at hl 11 rfl) ?_
                    refine lv_iconst (v := 3) hx hb dX0_payByHours_135 (by decide) ?_
                    refine lv_iload hx hb dX0_payByHours_136 (lv_at hl 9 rfl) ?_
                    refine lv_imul hx hb dX0_payByHours_138 ?_
                    refine lv_iadd hx hb dX0_payByHours_139 ?_
                    refine lv_istore (lv' := [(11, .int (v11 + (3 * rt))), (0, .ref (a 16)), (1, .int z0), (2, .int z1), (3, .int y3), (4, .int v4), (5, .int (nI i)), (6, .int (nI (7 * z1.toNatClampNeg + i))), (7, .int v7), (8, .int (nI q)), (9, .int rt), (10, .int (F 11 q)), (12, .int (nI u))]) hx hb dX0_payByHours_140 hl (by decide) rfl (fun ls hl => ?_)
                    refine lv_goto (tgt := 157) hx hb dX0_payByHours_142 (by decide) ?_
                    refine lv_iinc (v := (v7 + 1)) (lv' := [(7, .int (v7 + 1)), (11, .int (v11 + (3 * rt))), (0, .ref (a 16)), (1, .int z0), (2, .int z1), (3, .int y3), (4, .int v4), (5, .int (nI i)), (6, .int (nI (7 * z1.toNatClampNeg + i))), (8, .int (nI q)), (9, .int rt), (10, .int (F 11 q)), (12, .int (nI u))]) hx hb dX0_payByHours_157 hl (k := 8) rfl (rfl) (by decide) rfl (fun ls hl => ?_)
                    refine lv_iinc (v := (nI (u + 1))) (lv' := [(12, .int (nI (u + 1))), (7, .int (v7 + 1)), (11, .int (v11 + (3 * rt))), (0, .ref (a 16)), (1, .int z0), (2, .int z1), (3, .int y3), (4, .int v4), (5, .int (nI i)), (6, .int (nI (7 * z1.toNatClampNeg + i))), (8, .int (nI q)), (9, .int rt), (10, .int (F 11 q))]) hx hb dX0_payByHours_160 hl (k := 12) rfl (nI_1 u) (by decide) rfl (fun ls hl => ?_)
                    refine lv_goto (tgt := 112) hx hb dX0_payByHours_163 (by decide) ?_
                    exact ih_112 (u + 1) _ _ _ ls (by omega) ((hr_o ev4 ev7 ev11 (Nat.min_le_left _ _) hb9 (by omega) (Or.inl c_123)).1) (by rw [ev7]; exact nI_1 _) ((hr_o ev4 ev7 ev11 (Nat.min_le_left _ _) hb9 (by omega) (Or.inl c_123)).2) (lv_sub hl [3, 4, 5, 6, 7, 8, 9, 1, 10, 11, 12, 2, 0] rfl)
                  · skip
                    refine lv_iload hx hb dX0_payByHours_126 (lv_at hl 4 rfl) ?_
                    refine lv_bipush (v := 40) hx hb dX0_payByHours_128 (by decide) ?_
                    refine lv_icmp_lt (tgt := 145) hx hb dX0_payByHours_130 (by decide) (fun c_130 => ?_) (fun c_130 => ?_)
                    · skip
                      refine lv_iload hx hb dX0_payByHours_145 (lv_at hl 11 rfl) ?_
                      refine lv_iconst (v := 2) hx hb dX0_payByHours_147 (by decide) ?_
                      refine lv_iload hx hb dX0_payByHours_148 (lv_at hl 9 rfl) ?_
                      refine lv_imul hx hb dX0_payByHours_150 ?_
                      refine lv_iadd hx hb dX0_payByHours_151 ?_
                      refine lv_istore (lv' := [(11, .int (v11 + (2 * rt))), (0, .ref (a 16)), (1, .int z0), (2, .int z1), (3, .int y3), (4, .int v4), (5, .int (nI i)), (6, .int (nI (7 * z1.toNatClampNeg + i))), (7, .int v7), (8, .int (nI q)), (9, .int rt), (10, .int (F 11 q)), (12, .int (nI u))]) hx hb dX0_payByHours_152 hl (by decide) rfl (fun ls hl => ?_)
                      refine lv_iinc (v := (v4 + 1)) (lv' := [(4, .int (v4 + 1)), (11, .int (v11 + (2 * rt))), (0, .ref (a 16)), (1, .int z0), (2, .int z1), (3, .int y3), (5, .int (nI i)), (6, .int (nI (7 * z1.toNatClampNeg + i))), (7, .int v7), (8, .int (nI q)), (9, .int rt), (10, .int (F 11 q)), (12, .int (nI u))]) hx hb dX0_payByHours_154 hl (k := 5) rfl (rfl) (by decide) rfl (fun ls hl => ?_)
                      refine lv_iinc (v := (v7 + 1)) (lv' := [(7, .int (v7 + 1)), (4, .int (v4 + 1)), (11, .int (v11 + (2 * rt))), (0, .ref (a 16)), (1, .int z0), (2, .int z1), (3, .int y3), (5, .int (nI i)), (6, .int (nI (7 * z1.toNatClampNeg + i))), (8, .int (nI q)), (9, .int rt), (10, .int (F 11 q)), (12, .int (nI u))]) hx hb dX0_payByHours_157 hl (k := 8) rfl (rfl) (by decide) rfl (fun ls hl => ?_)
                      refine lv_iinc (v := (nI (u + 1))) (lv' := [(12, .int (nI (u + 1))), (7, .int (v7 + 1)), (4, .int (v4 + 1)), (11, .int (v11 + (2 * rt))), (0, .ref (a 16)), (1, .int z0), (2, .int z1), (3, .int y3), (5, .int (nI i)), (6, .int (nI (7 * z1.toNatClampNeg + i))), (8, .int (nI q)), (9, .int rt), (10, .int (F 11 q))]) hx hb dX0_payByHours_160 hl (k := 12) rfl (nI_1 u) (by decide) rfl (fun ls hl => ?_)
                      refine lv_goto (tgt := 112) hx hb dX0_payByHours_163 (by decide) ?_
                      exact ih_112 (u + 1) _ _ _ ls (by omega) ((hr_p ev4 ev7 ev11 (Nat.min_le_left _ _) hb9 (by omega) c_123 c_130).1) (by rw [ev7]; exact nI_1 _) ((hr_p ev4 ev7 ev11 (Nat.min_le_left _ _) hb9 (by omega) c_123 c_130).2) (lv_sub hl [4, 5, 6, 7, 2, 8, 9, 1, 10, 11, 12, 3, 0] rfl)
                    · skip
                      refine lv_iload hx hb dX0_payByHours_133 (lv_at hl 11 rfl) ?_
                      refine lv_iconst (v := 3) hx hb dX0_payByHours_135 (by decide) ?_
                      refine lv_iload hx hb dX0_payByHours_136 (lv_at hl 9 rfl) ?_
                      refine lv_imul hx hb dX0_payByHours_138 ?_
                      refine lv_iadd hx hb dX0_payByHours_139 ?_
                      refine lv_istore (lv' := [(11, .int (v11 + (3 * rt))), (0, .ref (a 16)), (1, .int z0), (2, .int z1), (3, .int y3), (4, .int v4), (5, .int (nI i)), (6, .int (nI (7 * z1.toNatClampNeg + i))), (7, .int v7), (8, .int (nI q)), (9, .int rt), (10, .int (F 11 q)), (12, .int (nI u))]) hx hb dX0_payByHours_140 hl (by decide) rfl (fun ls hl => ?_)
                      refine lv_goto (tgt := 157) hx hb dX0_payByHours_142 (by decide) ?_
                      refine lv_iinc (v := (v7 + 1)) (lv' := [(7, .int (v7 + 1)), (11, .int (v11 + (3 * rt))), (0, .ref (a 16)), (1, .int z0), (2, .int z1), (3, .int y3), (4, .int v4), (5, .int (nI i)), (6, .int (nI (7 * z1.toNatClampNeg + i))), (8, .int (nI q)), (9, .int rt), (10, .int (F 11 q)), (12, .int (nI u))]) hx hb dX0_payByHours_157 hl (k := 8) rfl (rfl) (by decide) rfl (fun ls hl => ?_)
                      refine lv_iinc (v := (nI (u + 1))) (lv' := [(12, .int (nI (u + 1))), (7, .int (v7 + 1)), (11, .int (v11 + (3 * rt))), (0, .ref (a 16)), (1, .int z0), (2, .int z1), (3, .int y3), (4, .int v4), (5, .int (nI i)), (6, .int (nI (7 * z1.toNatClampNeg + i))), (8, .int (nI q)), (9, .int rt), (10, .int (F 11 q))]) hx hb dX0_payByHours_160 hl (k := 12) rfl (nI_1 u) (by decide) rfl (fun ls hl => ?_)
                      refine lv_goto (tgt := 112) hx hb dX0_payByHours_163 (by decide) ?_
                      exact ih_112 (u + 1) _ _ _ ls (by omega) ((hr_o ev4 ev7 ev11 (Nat.min_le_left _ _) hb9 (by omega) (Or.inr c_130)).1) (by rw [ev7]; exact nI_1 _) ((hr_o ev4 ev7 ev11 (Nat.min_le_left _ _) hb9 (by omega) (Or.inr c_130)).2) (lv_sub hl [3, 4, 5, 6, 7, 8, 9, 1, 10, 11, 12, 2, 0] rfl)
              exact K_112 (hrN F q) 0 _ _ _ ls (by omega) (by rw [ey4]; rfl) (by rw [ey7]; rfl) (by rw [show itsN (min 40 ((wkS F z0 N (7 * z1.toNatClampNeg) i) + min 8 (dhw F z0 (7 * z1.toNatClampNeg + i) q))) (dhw F z0 (7 * z1.toNatClampNeg + i) q) 0 = 0 from Nat.zero_min _]; exact (Int32.zero_mul (a := rt)).symm) (lv_sub hl [4, 5, 6, 7, 8, 9, 10, 11, 12, 3, 2, 1, 0] rfl)
      exact K_42 N 0 _ _ _ ls (by omega) (by rw [ex3]; exact (i32_a0 _).symm) (by rw [ex4]; rfl) (rfl) (lv_sub hl [3, 4, 5, 6, 7, 8, 2, 1, 0] rfl)
  exact K_20 7 0 _ _ ls (by omega) (rfl) (rfl) (lv_sub hl [3, 4, 5, 2, 1, 0] rfl)

set_option maxHeartbeats 4000000 in
set_option maxRecDepth 100000 in
theorem b_X0_payByHours (l : Launch) (D : va_G) (cA : ClassId) (hl9 : l.stackTraces = false) (a : Nat → Nat) (F : Nat → Nat → Int32) (g : Nat → Int32) (N : Nat) (hW : wf F N) (z0 z1 : Int32) (hk : kWW z0 z1 ≠ 0) : Bx l D cA (wX a cA F g) yX0_payByHours wsX0_payByHours rbX0_payByHours [.ref (a 16), .int z0, .int z1] (exN (kWW z0 z1) eI eA eS) := by
  refine Bx.of (cc := cX0_payByHours) (maxL := 13) (ret := (some .int)) (by decide) rfl (Nat.le_of_ble_eq_true rfl) ?_
  intro p e s m args below meth c ls hx hb hts hown hml hK hP hl htab hlocks hZ
  have hown : s.vm.findClass RX0 = some m.cls := hown
  have hi : ∀ w ∈ wsX00, w ∈ wsX0_payByHours := by decide +kernel
  have hl : lv_has ls 13 [(0, .ref (a 16)), (1, .int z0), (2, .int z1)] := hl
  have hN : N ≤ 80 := hW.n
  have hc : F 7 0 = nI N := hW.c
  refine lv_iload_n hx hb dX0_payByHours_0 rfl (lv_at hl 1 rfl) ?_
  refine lv_bipush (v := 6) hx hb dX0_payByHours_1 (by decide) ?_
  refine (Classical.em (cI z0 6)).elim (fun h1 => ?_) (fun h1 => ?_)
  rotate_left
  rw [show exN (kWW z0 z1) eI eA eS = eI from by rw [kWW, if_neg h1]; rfl]
  exact Bx.thruS (rest := []) ⟨hx, hb, hml, hown, hts⟩ htab hlocks (b_X0_needOneOf l D cA hl9 z0 6 (cI_n h1)) (va_cwS 2 hts gX0_payByHours_X0_needOneOf rfl rfl rfl (by decide +kernel) ⟨Nat.le_of_ble_eq_true rfl, Nat.le_of_ble_eq_true rfl⟩) hK noP hZ rfl rfl hl.1 (Nat.le_of_ble_eq_true rfl) dX0_payByHours_3 ⟨Nat.le_of_ble_eq_true rfl, Nat.le_of_ble_eq_true rfl⟩
  refine Ru.callS (rest := []) ⟨hx, hb, hml, hown, hts⟩ (c_X0_needOneOf l D cA z0 6 h1.1 h1.2) (va_cwS 2 hts gX0_payByHours_X0_needOneOf rfl rfl rfl (by decide +kernel) ⟨Nat.le_of_ble_eq_true rfl, Nat.le_of_ble_eq_true rfl⟩) hK noP rfl rfl hl.1 (Nat.le_of_ble_eq_true rfl) dX0_payByHours_3 ⟨Nat.zero_le _, Nat.zero_le _⟩ ?_
  refine lv_iload_n hx hb dX0_payByHours_6 rfl (lv_at hl 2 rfl) ?_
  refine lv_bipush (v := 20) hx hb dX0_payByHours_7 (by decide) ?_
  refine (Classical.em (cI z1 20)).elim (fun h2 => ?_) (fun h2 => ?_)
  rotate_left
  rw [show exN (kWW z0 z1) eI eA eS = eI from by rw [kWW, if_pos h1, if_neg h2]; rfl]
  exact Bx.thruS (rest := []) ⟨hx, hb, hml, hown, hts⟩ htab hlocks (b_X0_needOneOf l D cA hl9 z1 20 (cI_n h2)) (va_cwS 2 hts gX0_payByHours_X0_needOneOf rfl rfl rfl (by decide +kernel) ⟨Nat.le_of_ble_eq_true rfl, Nat.le_of_ble_eq_true rfl⟩) hK noP hZ rfl rfl hl.1 (Nat.le_of_ble_eq_true rfl) dX0_payByHours_9 ⟨Nat.le_of_ble_eq_true rfl, Nat.le_of_ble_eq_true rfl⟩
  exact absurd (by rw [kWW, if_pos h1, if_pos h2]) hk
end
section
/-! the constructors' frame, and the state that they leave -/
def cst (v : Int32) : Nat → Nat → Int32
  | 0 => fun _ => 0
  | i + 1 => upd (cst v i) i v
/-- the state behind i sites -/
def F0s (i : Nat) : Nat → Nat → Int32 := fun k => match k with
  | 0 => cst 1000 i
  | 1 => cst 1200 i
  | 2 => cst 20 i
  | 3 => cst 10 i
  | 4 => cst 100 i
  | 5 => fun _ => 4
  | 6 => fun _ => 2
  | _ => fun _ => 0
def adr (h q0 q1 q2 q3 q4 q8 q9 q10 q11 q12 q13 q14 q15 : Nat) : Nat → Nat := fun k => match k with
  | 0 => q0
  | 1 => q1
  | 2 => q2
  | 3 => q3
  | 4 => q4
  | 8 => q8
  | 9 => q9
  | 10 => q10
  | 11 => q11
  | 12 => q12
  | 13 => q13
  | 14 => q14
  | 15 => q15
  | _ => h
def Cn (l : Launch) (D : va_G) (cA : ClassId) (w0 : va_W) (h : Nat) (w : (Nat → Nat) → va_W) (y : MethodName) (ws : List Cond) (rm : Room) (mc ms : Nat) : Prop :=
  ∀ sz : Nat, Met l y ws rm (WP D cA w0 sz [.ref h]) (va_Qv (fun a : Nat → Nat => a 16 = h) (WB D cA w (va_A w0 sz)) (va_A w0 sz)) mc ms (va_A w0 sz)
theorem Cn.of {l : Launch} {D : va_G} {cA : ClassId} {y : MethodName} {ws ws' : List Cond} {rm : Room} {cc : ByteArray} {maxL mc ms h : Nat} {w0 : va_W} {w : (Nat → Nat) → va_W} (hy : plainName y.cls = true) (hyn : y.name = "<init>") (hw : ws = Cond.code y cc maxL none :: ws') (hn : (lg_sl [.ref h]).length ≤ maxL)
    (body : ∀ (p : Program) (e : Env) (s : State) (m : MethodId) (args : Array Value) (below : List Frame) (meth : Method) (c : Code) (ls : Array Slot) (A : Nat → Prop) (Q : State → Prop), p.tables.exec = Jvm.exec → c.code = cc → (∀ w ∈ ws, w.before args s = true) → s.vm.findClass y.cls = some m.cls → c.maxLocals = maxL → KA D cA s → va_P D vwCl w0 s.heap → va_D A w0 → (∀ q : Nat, s.heap.size ≤ q → A q) → va_S A s.heap s.heap [] → lv_has ls maxL (lv_args 0 [.ref h]) → meth.name = "<init>" →
      (∀ (pc : Nat) (ls : Array Slot) (a : Nat → Nat) (H : Heap) (locs : List Loc), decode cc pc = .ok (.return_, 1) → va_P D vwCl (w a) H → va_D A (w a) → va_S A s.heap H locs → a 16 = h → W p l e rm s m args below meth c H locs mc ms Q (F0 m pc ls [])) →
      W p l e rm s m args below meth c s.heap [] 0 0 Q (F0 m 0 ls [])) : Cn l D cA w0 h w y ws rm mc ms := by
  intro sz
  refine Met.ofW (cc := cc) (maxL := maxL) (ret := none) hy hw ?_
  intro p e s m args below meth c s₁ B hml hv
  obtain ⟨rfl, hsz, hP, hK, hD⟩ := hv
  subst hsz
  rw [lg_entry_eq]
  exact body p e s m _ below meth c _ _ _ B.exec B.bytes (atoms_spec (ws := ws) B.pre) (findClass_of_methodNamed B.named) hml hK hP hD.self (fun q h => Or.inr h) va_S.rf (lv_entry [.ref h] (n := maxL) hn) ((name_of_methodNamed B.named B.method).1.trans hyn)
    (fun pc ls a H locs hd hP hD hS hpost => W.vret B.exec B.bytes B.returns (fun t ht hW => ⟨⟨a, rfl, hpost, by rw [ht]; exact hP, va_K.moved hW.alike hK, hD⟩, hS.F ht⟩) hS.2.2 hd B.notSynchronized)
section NEWA
variable {p : Program} {l : Launch} {e : Env} {R : Room} {s : State} {m : MethodId} {args : Array Value} {below : List Frame} {meth : Method} {c : Code} {H : Heap} {locs : List Loc} {cells slots : Nat} {Q : State → Prop}
variable {cc : ByteArray} {pc : Nat} {ls : Array Slot} {rest : List Value} {D : va_G} {cA : ClassId} {A0 : Nat → Prop} {H0 : Heap} {w : va_W} {N' : Nat} {n : Int32}
theorem ri_newa (hx : p.tables.exec = Jvm.exec) (hb : c.code = cc) (harr : (Cond.arrayClass .int).before args s = true) (hK : KA D cA s) (hP : va_P D vwCl w H) (hD : va_D A0 w) (hS : va_S A0 H0 H locs) (hA : ∀ q : Nat, H0.size ≤ q → A0 q) (hn : ¬ n < 0) (hN : n.toNatClampNeg = N') (hbytes : N' * componentBytes .int ≤ 536870912) (hcells : cells + 1 ≤ R.cells) (hslots : slots + N' ≤ R.slots) (hdg : decode cc pc = .ok (.newarray .int, 2))
    (kk : ∀ (q : Nat) (H1 : Heap), va_P D vwCl (w ++ [(q, .inl (cA, N', .inl (fun _ => 0)))]) H1 → va_D A0 (w ++ [(q, .inl (cA, N', .inl (fun _ => 0)))]) → va_S A0 H0 H1 locs → W p l e R s m args below meth c H1 locs (cells + 1) (slots + N') Q (F0 m (pc + 2) ls (.ref q :: rest))) : W p l e R s m args below meth c H locs cells slots Q (F0 m pc ls (.int n :: rest)) := by
  refine va_newa (atype := .int) (ty := .int) (a0 := (N', .inl (fun _ => 0))) hx hb harr rfl hK hP hD hS hA (fun _ => rfl) hn hN hbytes hcells hslots hdg (fun q cA' H1 hK1 hP1 hD1 hS1 => ?_)
  have e1 : s.vm.findClass ("[" ++ (FieldType.int).toString) = some cA := (hK.2 0 _ rfl).2
  have e2 : s.vm.findClass ("[" ++ (FieldType.int).toString) = some cA' := (hK1.2 1 _ rfl).2
  cases Option.some.inj (e1.symm.trans e2)
  exact kk q H1 hP1 hD1 hS1
end NEWA
end
section
/-! the constructors; by program (wip/whole/gen) -/
abbrev rmX0_init : Room := { frames := 1, cells := 13, slots := 553, locals := 22 }
set_option maxHeartbeats 4000000 in
set_option maxRecDepth 100000 in
theorem c_X0_init (l : Launch) (D : va_G) (cA : ClassId) (h : Nat) : Cn l D cA [(h, .inr (0, [.null, .null, .null, .null, .null, .int 0, .int 0, .int 0, .null, .null, .null, .null, .null, .null, .null, .null]))] h (fun a => wX a cA (F0s 4) (fun _ => 0)) yX0_init wsX0_init rmX0_init 13 553 := by
  refine Cn.of (cc := cX0_init) (maxL := 2) (by decide) rfl rfl (Nat.le_of_ble_eq_true rfl) ?_
  intro p e s m args below meth c ls A Q hx hb hts hown hml hK hP hD hA hS hl hin hend
  have hown : s.vm.findClass RX0 = some m.cls := hown
  have hi : ∀ w ∈ wsX00, w ∈ wsX0_init := by decide +kernel
  have hl : lv_has ls 2 [(0, .ref h)] := hl
  refine lv_aload_n hx hb dX0_init_0 rfl (lv_at hl 0 rfl) ?_
  refine W.objInit hx hb hown (hts (.methodLink RX0 3 objectInit) (by decide +kernel)) (hts (.instanceMethod objectInit) (by decide +kernel)) (hts (.code objectInit ⟨#[0xb1]⟩ 1 none) (by decide +kernel)) rfl (by rw [hml]; exact hl.1) rfl dX0_init_1 (Nat.le_of_ble_eq_true rfl) (Nat.le_of_ble_eq_true rfl) ?_
  refine W.eq (g2 := F0 m 4 ls []) rfl ?_
  refine lv_aload_n hx hb dX0_init_4 rfl (lv_at hl 0 rfl) ?_
  refine lv_iconst (v := 4) hx hb dX0_init_5 (by decide) ?_
  refine ri_newa (N' := 4) hx hb (hts (.arrayClass .int) (by decide +kernel)) hK hP hD hS hA (by decide) (by decide) (by decide) (Nat.le_of_ble_eq_true rfl) (Nat.le_of_ble_eq_true rfl) dX0_init_6 (fun q0 H hP hD hS => ?_)
  have hP : va_P D vwCl [(h, .inr (0, [.null, .null, .null, .null, .null, .int 0, .int 0, .int 0, .null, .null, .null, .null, .null, .null, .null, .null])), (q0, .inl (cA, 4, .inl (fun _ => 0)))] H := hP
  have hD : va_D A [(h, .inr (0, [.null, .null, .null, .null, .null, .int 0, .int 0, .int 0, .null, .null, .null, .null, .null, .null, .null, .null])), (q0, .inl (cA, 4, .inl (fun _ => 0)))] := hD
  refine W.widen (k := 1) (n := 4) (Nat.le_of_ble_eq_true rfl) (Nat.le_of_ble_eq_true rfl) ?_
  refine va_putF (D := D) (ci := 0) (v := .ref q0) (ty := (.array .int)) (C := RX0) (T := TX0) (N := 16) hx hb hts hi tyX0 tyX0_ok nmX0 hown hK hP hD hS 0 rfl rfl 0 (by decide) (hts (.fieldLink RX0 9 "AssignmentHouse" "plainRate" "[I") (by decide +kernel)) (fun _ h9 => h9) rfl hin rfl (by decide +kernel) rfl rfl (Nat.le_of_ble_eq_true rfl) dX0_init_8 (fun H locs hP hD hS => ?_)
  have hP : va_P D vwCl [(h, .inr (0, [.ref q0, .null, .null, .null, .null, .int 0, .int 0, .int 0, .null, .null, .null, .null, .null, .null, .null, .null])), (q0, .inl (cA, 4, .inl (fun _ => 0)))] H := hP
  have hD : va_D A [(h, .inr (0, [.ref q0, .null, .null, .null, .null, .int 0, .int 0, .int 0, .null, .null, .null, .null, .null, .null, .null, .null])), (q0, .inl (cA, 4, .inl (fun _ => 0)))] := hD
  refine lv_aload_n hx hb dX0_init_11 rfl (lv_at hl 0 rfl) ?_
  refine lv_iconst (v := 4) hx hb dX0_init_12 (by decide) ?_
  refine ri_newa (N' := 4) hx hb (hts (.arrayClass .int) (by decide +kernel)) hK hP hD hS hA (by decide) (by decide) (by decide) (Nat.le_of_ble_eq_true rfl) (Nat.le_of_ble_eq_true rfl) dX0_init_13 (fun q1 H hP hD hS => ?_)
  have hP : va_P D vwCl [(h, .inr (0, [.ref q0, .null, .null, .null, .null, .int 0, .int 0, .int 0, .null, .null, .null, .null, .null, .null, .null, .null])), (q0, .inl (cA, 4, .inl (fun _ => 0))), (q1, .inl (cA, 4, .inl (fun _ => 0)))] H := hP
  have hD : va_D A [(h, .inr (0, [.ref q0, .null, .null, .null, .null, .int 0, .int 0, .int 0, .null, .null, .null, .null, .null, .null, .null, .null])), (q0, .inl (cA, 4, .inl (fun _ => 0))), (q1, .inl (cA, 4, .inl (fun _ => 0)))] := hD
  refine W.widen (k := 2) (n := 8) (Nat.le_of_ble_eq_true rfl) (Nat.le_of_ble_eq_true rfl) ?_
  refine va_putF (D := D) (ci := 0) (v := .ref q1) (ty := (.array .int)) (C := RX0) (T := TX0) (N := 16) hx hb hts hi tyX0 tyX0_ok nmX0 hown hK hP hD hS 0 rfl rfl 1 (by decide) (hts (.fieldLink RX0 13 "AssignmentHouse" "equalRate" "[I") (by decide +kernel)) (fun _ h9 => h9) rfl hin rfl (by decide +kernel) rfl rfl (Nat.le_of_ble_eq_true rfl) dX0_init_15 (fun H locs hP hD hS => ?_)
  have hP : va_P D vwCl [(h, .inr (0, [.ref q0, .ref q1, .null, .null, .null, .int 0, .int 0, .int 0, .null, .null, .null, .null, .null, .null, .null, .null])), (q0, .inl (cA, 4, .inl (fun _ => 0))), (q1, .inl (cA, 4, .inl (fun _ => 0)))] H := hP
  have hD : va_D A [(h, .inr (0, [.ref q0, .ref q1, .null, .null, .null, .int 0, .int 0, .int 0, .null, .null, .null, .null, .null, .null, .null, .null])), (q0, .inl (cA, 4, .inl (fun _ => 0))), (q1, .inl (cA, 4, .inl (fun _ => 0)))] := hD
  refine lv_aload_n hx hb dX0_init_18 rfl (lv_at hl 0 rfl) ?_
  refine lv_iconst (v := 4) hx hb dX0_init_19 (by decide) ?_
  refine ri_newa (N' := 4) hx hb (hts (.arrayClass .int) (by decide +kernel)) hK hP hD hS hA (by decide) (by decide) (by decide) (Nat.le_of_ble_eq_true rfl) (Nat.le_of_ble_eq_true rfl) dX0_init_20 (fun q2 H hP hD hS => ?_)
  have hP : va_P D vwCl [(h, .inr (0, [.ref q0, .ref q1, .null, .null, .null, .int 0, .int 0, .int 0, .null, .null, .null, .null, .null, .null, .null, .null])), (q0, .inl (cA, 4, .inl (fun _ => 0))), (q1, .inl (cA, 4, .inl (fun _ => 0))), (q2, .inl (cA, 4, .inl (fun _ => 0)))] H := hP
  have hD : va_D A [(h, .inr (0, [.ref q0, .ref q1, .null, .null, .null, .int 0, .int 0, .int 0, .null, .null, .null, .null, .null, .null, .null, .null])), (q0, .inl (cA, 4, .inl (fun _ => 0))), (q1, .inl (cA, 4, .inl (fun _ => 0))), (q2, .inl (cA, 4, .inl (fun _ => 0)))] := hD
  refine W.widen (k := 3) (n := 12) (Nat.le_of_ble_eq_true rfl) (Nat.le_of_ble_eq_true rfl) ?_
  refine va_putF (D := D) (ci := 0) (v := .ref q2) (ty := (.array .int)) (C := RX0) (T := TX0) (N := 16) hx hb hts hi tyX0 tyX0_ok nmX0 hown hK hP hD hS 0 rfl rfl 2 (by decide) (hts (.fieldLink RX0 16 "AssignmentHouse" "highMargin" "[I") (by decide +kernel)) (fun _ h9 => h9) rfl hin rfl (by decide +kernel) rfl rfl (Nat.le_of_ble_eq_true rfl) dX0_init_22 (fun H locs hP hD hS => ?_)
  have hP : va_P D vwCl [(h, .inr (0, [.ref q0, .ref q1, .ref q2, .null, .null, .int 0, .int 0, .int 0, .null, .null, .null, .null, .null, .null, .null, .null])), (q0, .inl (cA, 4, .inl (fun _ => 0))), (q1, .inl (cA, 4, .inl (fun _ => 0))), (q2, .inl (cA, 4, .inl (fun _ => 0)))] H := hP
  have hD : va_D A [(h, .inr (0, [.ref q0, .ref q1, .ref q2, .null, .null, .int 0, .int 0, .int 0, .null, .null, .null, .null, .null, .null, .null, .null])), (q0, .inl (cA, 4, .inl (fun _ => 0))), (q1, .inl (cA, 4, .inl (fun _ => 0))), (q2, .inl (cA, 4, .inl (fun _ => 0)))] := hD
  refine lv_aload_n hx hb dX0_init_25 rfl (lv_at hl 0 rfl) ?_
  refine lv_iconst (v := 4) hx hb dX0_init_26 (by decide) ?_
  refine ri_newa (N' := 4) hx hb (hts (.arrayClass .int) (by decide +kernel)) hK hP hD hS hA (by decide) (by decide) (by decide) (Nat.le_of_ble_eq_true rfl) (Nat.le_of_ble_eq_true rfl) dX0_init_27 (fun q3 H hP hD hS => ?_)
  have hP : va_P D vwCl [(h, .inr (0, [.ref q0, .ref q1, .ref q2, .null, .null, .int 0, .int 0, .int 0, .null, .null, .null, .null, .null, .null, .null, .null])), (q0, .inl (cA, 4, .inl (fun _ => 0))), (q1, .inl (cA, 4, .inl (fun _ => 0))), (q2, .inl (cA, 4, .inl (fun _ => 0))), (q3, .inl (cA, 4, .inl (fun _ => 0)))] H := hP
  have hD : va_D A [(h, .inr (0, [.ref q0, .ref q1, .ref q2, .null, .null, .int 0, .int 0, .int 0, .null, .null, .null, .null, .null, .null, .null, .null])), (q0, .inl (cA, 4, .inl (fun _ => 0))), (q1, .inl (cA, 4, .inl (fun _ => 0))), (q2, .inl (cA, 4, .inl (fun _ => 0))), (q3, .inl (cA, 4, .inl (fun _ => 0)))] := hD
  refine W.widen (k := 4) (n := 16) (Nat.le_of_ble_eq_true rfl) (Nat.le_of_ble_eq_true rfl) ?_
  refine va_putF (D := D) (ci := 0) (v := .ref q3) (ty := (.array .int)) (C := RX0) (T := TX0) (N := 16) hx hb hts hi tyX0 tyX0_ok nmX0 hown hK hP hD hS 0 rfl rfl 3 (by decide) (hts (.fieldLink RX0 19 "AssignmentHouse" "lowMargin" "[I") (by decide +kernel)) (fun _ h9 => h9) rfl hin rfl (by decide +kernel) rfl rfl (Nat.le_of_ble_eq_true rfl) dX0_init_29 (fun H locs hP hD hS => ?_)
  have hP : va_P D vwCl [(h, .inr (0, [.ref q0, .ref q1, .ref q2, .ref q3, .null, .int 0, .int 0, .int 0, .null, .null, .null, .null, .null, .null, .null, .null])), (q0, .inl (cA, 4, .inl (fun _ => 0))), (q1, .inl (cA, 4, .inl (fun _ => 0))), (q2, .inl (cA, 4, .inl (fun _ => 0))), (q3, .inl (cA, 4, .inl (fun _ => 0)))] H := hP
  have hD : va_D A [(h, .inr (0, [.ref q0, .ref q1, .ref q2, .ref q3, .null, .int 0, .int 0, .int 0, .null, .null, .null, .null, .null, .null, .null, .null])), (q0, .inl (cA, 4, .inl (fun _ => 0))), (q1, .inl (cA, 4, .inl (fun _ => 0))), (q2, .inl (cA, 4, .inl (fun _ => 0))), (q3, .inl (cA, 4, .inl (fun _ => 0)))] := hD
  refine lv_aload_n hx hb dX0_init_32 rfl (lv_at hl 0 rfl) ?_
  refine lv_iconst (v := 4) hx hb dX0_init_33 (by decide) ?_
  refine ri_newa (N' := 4) hx hb (hts (.arrayClass .int) (by decide +kernel)) hK hP hD hS hA (by decide) (by decide) (by decide) (Nat.le_of_ble_eq_true rfl) (Nat.le_of_ble_eq_true rfl) dX0_init_34 (fun q4 H hP hD hS => ?_)
  have hP : va_P D vwCl [(h, .inr (0, [.ref q0, .ref q1, .ref q2, .ref q3, .null, .int 0, .int 0, .int 0, .null, .null, .null, .null, .null, .null, .null, .null])), (q0, .inl (cA, 4, .inl (fun _ => 0))), (q1, .inl (cA, 4, .inl (fun _ => 0))), (q2, .inl (cA, 4, .inl (fun _ => 0))), (q3, .inl (cA, 4, .inl (fun _ => 0))), (q4, .inl (cA, 4, .inl (fun _ => 0)))] H := hP
  have hD : va_D A [(h, .inr (0, [.ref q0, .ref q1, .ref q2, .ref q3, .null, .int 0, .int 0, .int 0, .null, .null, .null, .null, .null, .null, .null, .null])), (q0, .inl (cA, 4, .inl (fun _ => 0))), (q1, .inl (cA, 4, .inl (fun _ => 0))), (q2, .inl (cA, 4, .inl (fun _ => 0))), (q3, .inl (cA, 4, .inl (fun _ => 0))), (q4, .inl (cA, 4, .inl (fun _ => 0)))] := hD
  refine W.widen (k := 5) (n := 20) (Nat.le_of_ble_eq_true rfl) (Nat.le_of_ble_eq_true rfl) ?_
  refine va_putF (D := D) (ci := 0) (v := .ref q4) (ty := (.array .int)) (C := RX0) (T := TX0) (N := 16) hx hb hts hi tyX0 tyX0_ok nmX0 hown hK hP hD hS 0 rfl rfl 4 (by decide) (hts (.fieldLink RX0 22 "AssignmentHouse" "lowVolume" "[I") (by decide +kernel)) (fun _ h9 => h9) rfl hin rfl (by decide +kernel) rfl rfl (Nat.le_of_ble_eq_true rfl) dX0_init_36 (fun H locs hP hD hS => ?_)
  have hP : va_P D vwCl [(h, .inr (0, [.ref q0, .ref q1, .ref q2, .ref q3, .ref q4, .int 0, .int 0, .int 0, .null, .null, .null, .null, .null, .null, .null, .null])), (q0, .inl (cA, 4, .inl (fun _ => 0))), (q1, .inl (cA, 4, .inl (fun _ => 0))), (q2, .inl (cA, 4, .inl (fun _ => 0))), (q3, .inl (cA, 4, .inl (fun _ => 0))), (q4, .inl (cA, 4, .inl (fun _ => 0)))] H := hP
  have hD : va_D A [(h, .inr (0, [.ref q0, .ref q1, .ref q2, .ref q3, .ref q4, .int 0, .int 0, .int 0, .null, .null, .null, .null, .null, .null, .null, .null])), (q0, .inl (cA, 4, .inl (fun _ => 0))), (q1, .inl (cA, 4, .inl (fun _ => 0))), (q2, .inl (cA, 4, .inl (fun _ => 0))), (q3, .inl (cA, 4, .inl (fun _ => 0))), (q4, .inl (cA, 4, .inl (fun _ => 0)))] := hD
  refine lv_aload_n hx hb dX0_init_39 rfl (lv_at hl 0 rfl) ?_
  refine lv_iconst (v := 4) hx hb dX0_init_40 (by decide) ?_
  refine va_put (D := D) (ci := 0) (v := .int 4) (ty := .int) (C := RX0) (T := TX0) (N := 16) hx hb hts hi tyX0 tyX0_ok nmX0 hown hK hP hD hS 0 rfl rfl 5 (by decide) (hts (.fieldLink RX0 25 "AssignmentHouse" "equalSpan" "I") (by decide +kernel)) (fun _ h9 => h9) rfl (by decide +kernel) rfl rfl (Nat.le_of_ble_eq_true rfl) dX0_init_41 (fun H locs hP hD hS => ?_)
  have hP : va_P D vwCl [(h, .inr (0, [.ref q0, .ref q1, .ref q2, .ref q3, .ref q4, .int 4, .int 0, .int 0, .null, .null, .null, .null, .null, .null, .null, .null])), (q0, .inl (cA, 4, .inl (fun _ => 0))), (q1, .inl (cA, 4, .inl (fun _ => 0))), (q2, .inl (cA, 4, .inl (fun _ => 0))), (q3, .inl (cA, 4, .inl (fun _ => 0))), (q4, .inl (cA, 4, .inl (fun _ => 0)))] H := hP
  have hD : va_D A [(h, .inr (0, [.ref q0, .ref q1, .ref q2, .ref q3, .ref q4, .int 4, .int 0, .int 0, .null, .null, .null, .null, .null, .null, .null, .null])), (q0, .inl (cA, 4, .inl (fun _ => 0))), (q1, .inl (cA, 4, .inl (fun _ => 0))), (q2, .inl (cA, 4, .inl (fun _ => 0))), (q3, .inl (cA, 4, .inl (fun _ => 0))), (q4, .inl (cA, 4, .inl (fun _ => 0)))] := hD
  refine lv_aload_n hx hb dX0_init_44 rfl (lv_at hl 0 rfl) ?_
  refine lv_iconst (v := 2) hx hb dX0_init_45 (by decide) ?_
  refine va_put (D := D) (ci := 0) (v := .int 2) (ty := .int) (C := RX0) (T := TX0) (N := 16) hx hb hts hi tyX0 tyX0_ok nmX0 hown hK hP hD hS 0 rfl rfl 6 (by decide) (hts (.fieldLink RX0 29 "AssignmentHouse" "equalGap" "I") (by decide +kernel)) (fun _ h9 => h9) rfl (by decide +kernel) rfl rfl (Nat.le_of_ble_eq_true rfl) dX0_init_46 (fun H locs hP hD hS => ?_)
  have hP : va_P D vwCl [(h, .inr (0, [.ref q0, .ref q1, .ref q2, .ref q3, .ref q4, .int 4, .int 2, .int 0, .null, .null, .null, .null, .null, .null, .null, .null])), (q0, .inl (cA, 4, .inl (fun _ => 0))), (q1, .inl (cA, 4, .inl (fun _ => 0))), (q2, .inl (cA, 4, .inl (fun _ => 0))), (q3, .inl (cA, 4, .inl (fun _ => 0))), (q4, .inl (cA, 4, .inl (fun _ => 0)))] H := hP
  have hD : va_D A [(h, .inr (0, [.ref q0, .ref q1, .ref q2, .ref q3, .ref q4, .int 4, .int 2, .int 0, .null, .null, .null, .null, .null, .null, .null, .null])), (q0, .inl (cA, 4, .inl (fun _ => 0))), (q1, .inl (cA, 4, .inl (fun _ => 0))), (q2, .inl (cA, 4, .inl (fun _ => 0))), (q3, .inl (cA, 4, .inl (fun _ => 0))), (q4, .inl (cA, 4, .inl (fun _ => 0)))] := hD
  refine lv_aload_n hx hb dX0_init_49 rfl (lv_at hl 0 rfl) ?_
  refine lv_iconst (v := 0) hx hb dX0_init_50 (by decide) ?_
  refine va_put (D := D) (ci := 0) (v := .int 0) (ty := .int) (C := RX0) (T := TX0) (N := 16) hx hb hts hi tyX0 tyX0_ok nmX0 hown hK hP hD hS 0 rfl rfl 7 (by decide) (hts (.fieldLink RX0 32 "AssignmentHouse" "shiftCount" "I") (by decide +kernel)) (fun _ h9 => h9) rfl (by decide +kernel) rfl rfl (Nat.le_of_ble_eq_true rfl) dX0_init_51 (fun H locs hP hD hS => ?_)
  have hP : va_P D vwCl [(h, .inr (0, [.ref q0, .ref q1, .ref q2, .ref q3, .ref q4, .int 4, .int 2, .int 0, .null, .null, .null, .null, .null, .null, .null, .null])), (q0, .inl (cA, 4, .inl (fun _ => 0))), (q1, .inl (cA, 4, .inl (fun _ => 0))), (q2, .inl (cA, 4, .inl (fun _ => 0))), (q3, .inl (cA, 4, .inl (fun _ => 0))), (q4, .inl (cA, 4, .inl (fun _ => 0)))] H := hP
  have hD : va_D A [(h, .inr (0, [.ref q0, .ref q1, .ref q2, .ref q3, .ref q4, .int 4, .int 2, .int 0, .null, .null, .null, .null, .null, .null, .null, .null])), (q0, .inl (cA, 4, .inl (fun _ => 0))), (q1, .inl (cA, 4, .inl (fun _ => 0))), (q2, .inl (cA, 4, .inl (fun _ => 0))), (q3, .inl (cA, 4, .inl (fun _ => 0))), (q4, .inl (cA, 4, .inl (fun _ => 0)))] := hD
  refine lv_aload_n hx hb dX0_init_54 rfl (lv_at hl 0 rfl) ?_
  refine lv_bipush (v := 80) hx hb dX0_init_55 (by decide) ?_
  refine ri_newa (N' := 80) hx hb (hts (.arrayClass .int) (by decide +kernel)) hK hP hD hS hA (by decide) (by decide) (by decide) (Nat.le_of_ble_eq_true rfl) (Nat.le_of_ble_eq_true rfl) dX0_init_57 (fun q8 H hP hD hS => ?_)
  have hP : va_P D vwCl [(h, .inr (0, [.ref q0, .ref q1, .ref q2, .ref q3, .ref q4, .int 4, .int 2, .int 0, .null, .null, .null, .null, .null, .null, .null, .null])), (q0, .inl (cA, 4, .inl (fun _ => 0))), (q1, .inl (cA, 4, .inl (fun _ => 0))), (q2, .inl (cA, 4, .inl (fun _ => 0))), (q3, .inl (cA, 4, .inl (fun _ => 0))), (q4, .inl (cA, 4, .inl (fun _ => 0))), (q8, .inl (cA, 80, .inl (fun _ => 0)))] H := hP
  have hD : va_D A [(h, .inr (0, [.ref q0, .ref q1, .ref q2, .ref q3, .ref q4, .int 4, .int 2, .int 0, .null, .null, .null, .null, .null, .null, .null, .null])), (q0, .inl (cA, 4, .inl (fun _ => 0))), (q1, .inl (cA, 4, .inl (fun _ => 0))), (q2, .inl (cA, 4, .inl (fun _ => 0))), (q3, .inl (cA, 4, .inl (fun _ => 0))), (q4, .inl (cA, 4, .inl (fun _ => 0))), (q8, .inl (cA, 80, .inl (fun _ => 0)))] := hD
  refine W.widen (k := 6) (n := 100) (Nat.le_of_ble_eq_true rfl) (Nat.le_of_ble_eq_true rfl) ?_
  refine va_putF (D := D) (ci := 0) (v := .ref q8) (ty := (.array .int)) (C := RX0) (T := TX0) (N := 16) hx hb hts hi tyX0 tyX0_ok nmX0 hown hK hP hD hS 0 rfl rfl 8 (by decide) (hts (.fieldLink RX0 35 "AssignmentHouse" "workerOf" "[I") (by decide +kernel)) (fun _ h9 => h9) rfl hin rfl (by decide +kernel) rfl rfl (Nat.le_of_ble_eq_true rfl) dX0_init_59 (fun H locs hP hD hS => ?_)
  have hP : va_P D vwCl [(h, .inr (0, [.ref q0, .ref q1, .ref q2, .ref q3, .ref q4, .int 4, .int 2, .int 0, .ref q8, .null, .null, .null, .null, .null, .null, .null])), (q0, .inl (cA, 4, .inl (fun _ => 0))), (q1, .inl (cA, 4, .inl (fun _ => 0))), (q2, .inl (cA, 4, .inl (fun _ => 0))), (q3, .inl (cA, 4, .inl (fun _ => 0))), (q4, .inl (cA, 4, .inl (fun _ => 0))), (q8, .inl (cA, 80, .inl (fun _ => 0)))] H := hP
  have hD : va_D A [(h, .inr (0, [.ref q0, .ref q1, .ref q2, .ref q3, .ref q4, .int 4, .int 2, .int 0, .ref q8, .null, .null, .null, .null, .null, .null, .null])), (q0, .inl (cA, 4, .inl (fun _ => 0))), (q1, .inl (cA, 4, .inl (fun _ => 0))), (q2, .inl (cA, 4, .inl (fun _ => 0))), (q3, .inl (cA, 4, .inl (fun _ => 0))), (q4, .inl (cA, 4, .inl (fun _ => 0))), (q8, .inl (cA, 80, .inl (fun _ => 0)))] := hD
  refine lv_aload_n hx hb dX0_init_62 rfl (lv_at hl 0 rfl) ?_
  refine lv_bipush (v := 80) hx hb dX0_init_63 (by decide) ?_
  refine ri_newa (N' := 80) hx hb (hts (.arrayClass .int) (by decide +kernel)) hK hP hD hS hA (by decide) (by decide) (by decide) (Nat.le_of_ble_eq_true rfl) (Nat.le_of_ble_eq_true rfl) dX0_init_65 (fun q9 H hP hD hS => ?_)
  have hP : va_P D vwCl [(h, .inr (0, [.ref q0, .ref q1, .ref q2, .ref q3, .ref q4, .int 4, .int 2, .int 0, .ref q8, .null, .null, .null, .null, .null, .null, .null])), (q0, .inl (cA, 4, .inl (fun _ => 0))), (q1, .inl (cA, 4, .inl (fun _ => 0))), (q2, .inl (cA, 4, .inl (fun _ => 0))), (q3, .inl (cA, 4, .inl (fun _ => 0))), (q4, .inl (cA, 4, .inl (fun _ => 0))), (q8, .inl (cA, 80, .inl (fun _ => 0))), (q9, .inl (cA, 80, .inl (fun _ => 0)))] H := hP
  have hD : va_D A [(h, .inr (0, [.ref q0, .ref q1, .ref q2, .ref q3, .ref q4, .int 4, .int 2, .int 0, .ref q8, .null, .null, .null, .null, .null, .null, .null])), (q0, .inl (cA, 4, .inl (fun _ => 0))), (q1, .inl (cA, 4, .inl (fun _ => 0))), (q2, .inl (cA, 4, .inl (fun _ => 0))), (q3, .inl (cA, 4, .inl (fun _ => 0))), (q4, .inl (cA, 4, .inl (fun _ => 0))), (q8, .inl (cA, 80, .inl (fun _ => 0))), (q9, .inl (cA, 80, .inl (fun _ => 0)))] := hD
  refine W.widen (k := 7) (n := 180) (Nat.le_of_ble_eq_true rfl) (Nat.le_of_ble_eq_true rfl) ?_
  refine va_putF (D := D) (ci := 0) (v := .ref q9) (ty := (.array .int)) (C := RX0) (T := TX0) (N := 16) hx hb hts hi tyX0 tyX0_ok nmX0 hown hK hP hD hS 0 rfl rfl 9 (by decide) (hts (.fieldLink RX0 38 "AssignmentHouse" "siteOf" "[I") (by decide +kernel)) (fun _ h9 => h9) rfl hin rfl (by decide +kernel) rfl rfl (Nat.le_of_ble_eq_true rfl) dX0_init_67 (fun H locs hP hD hS => ?_)
  have hP : va_P D vwCl [(h, .inr (0, [.ref q0, .ref q1, .ref q2, .ref q3, .ref q4, .int 4, .int 2, .int 0, .ref q8, .ref q9, .null, .null, .null, .null, .null, .null])), (q0, .inl (cA, 4, .inl (fun _ => 0))), (q1, .inl (cA, 4, .inl (fun _ => 0))), (q2, .inl (cA, 4, .inl (fun _ => 0))), (q3, .inl (cA, 4, .inl (fun _ => 0))), (q4, .inl (cA, 4, .inl (fun _ => 0))), (q8, .inl (cA, 80, .inl (fun _ => 0))), (q9, .inl (cA, 80, .inl (fun _ => 0)))] H := hP
  have hD : va_D A [(h, .inr (0, [.ref q0, .ref q1, .ref q2, .ref q3, .ref q4, .int 4, .int 2, .int 0, .ref q8, .ref q9, .null, .null, .null, .null, .null, .null])), (q0, .inl (cA, 4, .inl (fun _ => 0))), (q1, .inl (cA, 4, .inl (fun _ => 0))), (q2, .inl (cA, 4, .inl (fun _ => 0))), (q3, .inl (cA, 4, .inl (fun _ => 0))), (q4, .inl (cA, 4, .inl (fun _ => 0))), (q8, .inl (cA, 80, .inl (fun _ => 0))), (q9, .inl (cA, 80, .inl (fun _ => 0)))] := hD
  refine lv_aload_n hx hb dX0_init_70 rfl (lv_at hl 0 rfl) ?_
  refine lv_bipush (v := 80) hx hb dX0_init_71 (by decide) ?_
  refine ri_newa (N' := 80) hx hb (hts (.arrayClass .int) (by decide +kernel)) hK hP hD hS hA (by decide) (by decide) (by decide) (Nat.le_of_ble_eq_true rfl) (Nat.le_of_ble_eq_true rfl) dX0_init_73 (fun q10 H hP hD hS => ?_)
  have hP : va_P D vwCl [(h, .inr (0, [.ref q0, .ref q1, .ref q2, .ref q3, .ref q4, .int 4, .int 2, .int 0, .ref q8, .ref q9, .null, .null, .null, .null, .null, .null])), (q0, .inl (cA, 4, .inl (fun _ => 0))), (q1, .inl (cA, 4, .inl (fun _ => 0))), (q2, .inl (cA, 4, .inl (fun _ => 0))), (q3, .inl (cA, 4, .inl (fun _ => 0))), (q4, .inl (cA, 4, .inl (fun _ => 0))), (q8, .inl (cA, 80, .inl (fun _ => 0))), (q9, .inl (cA, 80, .inl (fun _ => 0))), (q10, .inl (cA, 80, .inl (fun _ => 0)))] H := hP
  have hD : va_D A [(h, .inr (0, [.ref q0, .ref q1, .ref q2, .ref q3, .ref q4, .int 4, .int 2, .int 0, .ref q8, .ref q9, .null, .null, .null, .null, .null, .null])), (q0, .inl (cA, 4, .inl (fun _ => 0))), (q1, .inl (cA, 4, .inl (fun _ => 0))), (q2, .inl (cA, 4, .inl (fun _ => 0))), (q3, .inl (cA, 4, .inl (fun _ => 0))), (q4, .inl (cA, 4, .inl (fun _ => 0))), (q8, .inl (cA, 80, .inl (fun _ => 0))), (q9, .inl (cA, 80, .inl (fun _ => 0))), (q10, .inl (cA, 80, .inl (fun _ => 0)))] := hD
  refine W.widen (k := 8) (n := 260) (Nat.le_of_ble_eq_true rfl) (Nat.le_of_ble_eq_true rfl) ?_
  refine va_putF (D := D) (ci := 0) (v := .ref q10) (ty := (.array .int)) (C := RX0) (T := TX0) (N := 16) hx hb hts hi tyX0 tyX0_ok nmX0 hown hK hP hD hS 0 rfl rfl 10 (by decide) (hts (.fieldLink RX0 41 "AssignmentHouse" "dayOf" "[I") (by decide +kernel)) (fun _ h9 => h9) rfl hin rfl (by decide +kernel) rfl rfl (Nat.le_of_ble_eq_true rfl) dX0_init_75 (fun H locs hP hD hS => ?_)
  have hP : va_P D vwCl [(h, .inr (0, [.ref q0, .ref q1, .ref q2, .ref q3, .ref q4, .int 4, .int 2, .int 0, .ref q8, .ref q9, .ref q10, .null, .null, .null, .null, .null])), (q0, .inl (cA, 4, .inl (fun _ => 0))), (q1, .inl (cA, 4, .inl (fun _ => 0))), (q2, .inl (cA, 4, .inl (fun _ => 0))), (q3, .inl (cA, 4, .inl (fun _ => 0))), (q4, .inl (cA, 4, .inl (fun _ => 0))), (q8, .inl (cA, 80, .inl (fun _ => 0))), (q9, .inl (cA, 80, .inl (fun _ => 0))), (q10, .inl (cA, 80, .inl (fun _ => 0)))] H := hP
  have hD : va_D A [(h, .inr (0, [.ref q0, .ref q1, .ref q2, .ref q3, .ref q4, .int 4, .int 2, .int 0, .ref q8, .ref q9, .ref q10, .null, .null, .null, .null, .null])), (q0, .inl (cA, 4, .inl (fun _ => 0))), (q1, .inl (cA, 4, .inl (fun _ => 0))), (q2, .inl (cA, 4, .inl (fun _ => 0))), (q3, .inl (cA, 4, .inl (fun _ => 0))), (q4, .inl (cA, 4, .inl (fun _ => 0))), (q8, .inl (cA, 80, .inl (fun _ => 0))), (q9, .inl (cA, 80, .inl (fun _ => 0))), (q10, .inl (cA, 80, .inl (fun _ => 0)))] := hD
  refine lv_aload_n hx hb dX0_init_78 rfl (lv_at hl 0 rfl) ?_
  refine lv_bipush (v := 80) hx hb dX0_init_79 (by decide) ?_
  refine ri_newa (N' := 80) hx hb (hts (.arrayClass .int) (by decide +kernel)) hK hP hD hS hA (by decide) (by decide) (by decide) (Nat.le_of_ble_eq_true rfl) (Nat.le_of_ble_eq_true rfl) dX0_init_81 (fun q11 H hP hD hS => ?_)
  have hP : va_P D vwCl [(h, .inr (0, [.ref q0, .ref q1, .ref q2, .ref q3, .ref q4, .int 4, .int 2, .int 0, .ref q8, .ref q9, .ref q10, .null, .null, .null, .null, .null])), (q0, .inl (cA, 4, .inl (fun _ => 0))), (q1, .inl (cA, 4, .inl (fun _ => 0))), (q2, .inl (cA, 4, .inl (fun _ => 0))), (q3, .inl (cA, 4, .inl (fun _ => 0))), (q4, .inl (cA, 4, .inl (fun _ => 0))), (q8, .inl (cA, 80, .inl (fun _ => 0))), (q9, .inl (cA, 80, .inl (fun _ => 0))), (q10, .inl (cA, 80, .inl (fun _ => 0))), (q11, .inl (cA, 80, .inl (fun _ => 0)))] H := hP
  have hD : va_D A [(h, .inr (0, [.ref q0, .ref q1, .ref q2, .ref q3, .ref q4, .int 4, .int 2, .int 0, .ref q8, .ref q9, .ref q10, .null, .null, .null, .null, .null])), (q0, .inl (cA, 4, .inl (fun _ => 0))), (q1, .inl (cA, 4, .inl (fun _ => 0))), (q2, .inl (cA, 4, .inl (fun _ => 0))), (q3, .inl (cA, 4, .inl (fun _ => 0))), (q4, .inl (cA, 4, .inl (fun _ => 0))), (q8, .inl (cA, 80, .inl (fun _ => 0))), (q9, .inl (cA, 80, .inl (fun _ => 0))), (q10, .inl (cA, 80, .inl (fun _ => 0))), (q11, .inl (cA, 80, .inl (fun _ => 0)))] := hD
  refine W.widen (k := 9) (n := 340) (Nat.le_of_ble_eq_true rfl) (Nat.le_of_ble_eq_true rfl) ?_
  refine va_putF (D := D) (ci := 0) (v := .ref q11) (ty := (.array .int)) (C := RX0) (T := TX0) (N := 16) hx hb hts hi tyX0 tyX0_ok nmX0 hown hK hP hD hS 0 rfl rfl 11 (by decide) (hts (.fieldLink RX0 44 "AssignmentHouse" "hoursOf" "[I") (by decide +kernel)) (fun _ h9 => h9) rfl hin rfl (by decide +kernel) rfl rfl (Nat.le_of_ble_eq_true rfl) dX0_init_83 (fun H locs hP hD hS => ?_)
  have hP : va_P D vwCl [(h, .inr (0, [.ref q0, .ref q1, .ref q2, .ref q3, .ref q4, .int 4, .int 2, .int 0, .ref q8, .ref q9, .ref q10, .ref q11, .null, .null, .null, .null])), (q0, .inl (cA, 4, .inl (fun _ => 0))), (q1, .inl (cA, 4, .inl (fun _ => 0))), (q2, .inl (cA, 4, .inl (fun _ => 0))), (q3, .inl (cA, 4, .inl (fun _ => 0))), (q4, .inl (cA, 4, .inl (fun _ => 0))), (q8, .inl (cA, 80, .inl (fun _ => 0))), (q9, .inl (cA, 80, .inl (fun _ => 0))), (q10, .inl (cA, 80, .inl (fun _ => 0))), (q11, .inl (cA, 80, .inl (fun _ => 0)))] H := hP
  have hD : va_D A [(h, .inr (0, [.ref q0, .ref q1, .ref q2, .ref q3, .ref q4, .int 4, .int 2, .int 0, .ref q8, .ref q9, .ref q10, .ref q11, .null, .null, .null, .null])), (q0, .inl (cA, 4, .inl (fun _ => 0))), (q1, .inl (cA, 4, .inl (fun _ => 0))), (q2, .inl (cA, 4, .inl (fun _ => 0))), (q3, .inl (cA, 4, .inl (fun _ => 0))), (q4, .inl (cA, 4, .inl (fun _ => 0))), (q8, .inl (cA, 80, .inl (fun _ => 0))), (q9, .inl (cA, 80, .inl (fun _ => 0))), (q10, .inl (cA, 80, .inl (fun _ => 0))), (q11, .inl (cA, 80, .inl (fun _ => 0)))] := hD
  refine lv_aload_n hx hb dX0_init_86 rfl (lv_at hl 0 rfl) ?_
  refine lv_bipush (v := 120) hx hb dX0_init_87 (by decide) ?_
  refine ri_newa (N' := 120) hx hb (hts (.arrayClass .int) (by decide +kernel)) hK hP hD hS hA (by decide) (by decide) (by decide) (Nat.le_of_ble_eq_true rfl) (Nat.le_of_ble_eq_true rfl) dX0_init_89 (fun q12 H hP hD hS => ?_)
  have hP : va_P D vwCl [(h, .inr (0, [.ref q0, .ref q1, .ref q2, .ref q3, .ref q4, .int 4, .int 2, .int 0, .ref q8, .ref q9, .ref q10, .ref q11, .null, .null, .null, .null])), (q0, .inl (cA, 4, .inl (fun _ => 0))), (q1, .inl (cA, 4, .inl (fun _ => 0))), (q2, .inl (cA, 4, .inl (fun _ => 0))), (q3, .inl (cA, 4, .inl (fun _ => 0))), (q4, .inl (cA, 4, .inl (fun _ => 0))), (q8, .inl (cA, 80, .inl (fun _ => 0))), (q9, .inl (cA, 80, .inl (fun _ => 0))), (q10, .inl (cA, 80, .inl (fun _ => 0))), (q11, .inl (cA, 80, .inl (fun _ => 0))), (q12, .inl (cA, 120, .inl (fun _ => 0)))] H := hP
  have hD : va_D A [(h, .inr (0, [.ref q0, .ref q1, .ref q2, .ref q3, .ref q4, .int 4, .int 2, .int 0, .ref q8, .ref q9, .ref q10, .ref q11, .null, .null, .null, .null])), (q0, .inl (cA, 4, .inl (fun _ => 0))), (q1, .inl (cA, 4, .inl (fun _ => 0))), (q2, .inl (cA, 4, .inl (fun _ => 0))), (q3, .inl (cA, 4, .inl (fun _ => 0))), (q4, .inl (cA, 4, .inl (fun _ => 0))), (q8, .inl (cA, 80, .inl (fun _ => 0))), (q9, .inl (cA, 80, .inl (fun _ => 0))), (q10, .inl (cA, 80, .inl (fun _ => 0))), (q11, .inl (cA, 80, .inl (fun _ => 0))), (q12, .inl (cA, 120, .inl (fun _ => 0)))] := hD
  refine W.widen (k := 10) (n := 460) (Nat.le_of_ble_eq_true rfl) (Nat.le_of_ble_eq_true rfl) ?_
  refine va_putF (D := D) (ci := 0) (v := .ref q12) (ty := (.array .int)) (C := RX0) (T := TX0) (N := 16) hx hb hts hi tyX0 tyX0_ok nmX0 hown hK hP hD hS 0 rfl rfl 12 (by decide) (hts (.fieldLink RX0 47 "AssignmentHouse" "paidFor" "[I") (by decide +kernel)) (fun _ h9 => h9) rfl hin rfl (by decide +kernel) rfl rfl (Nat.le_of_ble_eq_true rfl) dX0_init_91 (fun H locs hP hD hS => ?_)
  have hP : va_P D vwCl [(h, .inr (0, [.ref q0, .ref q1, .ref q2, .ref q3, .ref q4, .int 4, .int 2, .int 0, .ref q8, .ref q9, .ref q10, .ref q11, .ref q12, .null, .null, .null])), (q0, .inl (cA, 4, .inl (fun _ => 0))), (q1, .inl (cA, 4, .inl (fun _ => 0))), (q2, .inl (cA, 4, .inl (fun _ => 0))), (q3, .inl (cA, 4, .inl (fun _ => 0))), (q4, .inl (cA, 4, .inl (fun _ => 0))), (q8, .inl (cA, 80, .inl (fun _ => 0))), (q9, .inl (cA, 80, .inl (fun _ => 0))), (q10, .inl (cA, 80, .inl (fun _ => 0))), (q11, .inl (cA, 80, .inl (fun _ => 0))), (q12, .inl (cA, 120, .inl (fun _ => 0)))] H := hP
  have hD : va_D A [(h, .inr (0, [.ref q0, .ref q1, .ref q2, .ref q3, .ref q4, .int 4, .int 2, .int 0, .ref q8, .ref q9, .ref q10, .ref q11, .ref q12, .null, .null, .null])), (q0, .inl (cA, 4, .inl (fun _ => 0))), (q1, .inl (cA, 4, .inl (fun _ => 0))), (q2, .inl (cA, 4, .inl (fun _ => 0))), (q3, .inl (cA, 4, .inl (fun _ => 0))), (q4, .inl (cA, 4, .inl (fun _ => 0))), (q8, .inl (cA, 80, .inl (fun _ => 0))), (q9, .inl (cA, 80, .inl (fun _ => 0))), (q10, .inl (cA, 80, .inl (fun _ => 0))), (q11, .inl (cA, 80, .inl (fun _ => 0))), (q12, .inl (cA, 120, .inl (fun _ => 0)))] := hD
  refine lv_aload_n hx hb dX0_init_94 rfl (lv_at hl 0 rfl) ?_
  refine lv_bipush (v := 80) hx hb dX0_init_95 (by decide) ?_
  refine ri_newa (N' := 80) hx hb (hts (.arrayClass .int) (by decide +kernel)) hK hP hD hS hA (by decide) (by decide) (by decide) (Nat.le_of_ble_eq_true rfl) (Nat.le_of_ble_eq_true rfl) dX0_init_97 (fun q13 H hP hD hS => ?_)
  have hP : va_P D vwCl [(h, .inr (0, [.ref q0, .ref q1, .ref q2, .ref q3, .ref q4, .int 4, .int 2, .int 0, .ref q8, .ref q9, .ref q10, .ref q11, .ref q12, .null, .null, .null])), (q0, .inl (cA, 4, .inl (fun _ => 0))), (q1, .inl (cA, 4, .inl (fun _ => 0))), (q2, .inl (cA, 4, .inl (fun _ => 0))), (q3, .inl (cA, 4, .inl (fun _ => 0))), (q4, .inl (cA, 4, .inl (fun _ => 0))), (q8, .inl (cA, 80, .inl (fun _ => 0))), (q9, .inl (cA, 80, .inl (fun _ => 0))), (q10, .inl (cA, 80, .inl (fun _ => 0))), (q11, .inl (cA, 80, .inl (fun _ => 0))), (q12, .inl (cA, 120, .inl (fun _ => 0))), (q13, .inl (cA, 80, .inl (fun _ => 0)))] H := hP
  have hD : va_D A [(h, .inr (0, [.ref q0, .ref q1, .ref q2, .ref q3, .ref q4, .int 4, .int 2, .int 0, .ref q8, .ref q9, .ref q10, .ref q11, .ref q12, .null, .null, .null])), (q0, .inl (cA, 4, .inl (fun _ => 0))), (q1, .inl (cA, 4, .inl (fun _ => 0))), (q2, .inl (cA, 4, .inl (fun _ => 0))), (q3, .inl (cA, 4, .inl (fun _ => 0))), (q4, .inl (cA, 4, .inl (fun _ => 0))), (q8, .inl (cA, 80, .inl (fun _ => 0))), (q9, .inl (cA, 80, .inl (fun _ => 0))), (q10, .inl (cA, 80, .inl (fun _ => 0))), (q11, .inl (cA, 80, .inl (fun _ => 0))), (q12, .inl (cA, 120, .inl (fun _ => 0))), (q13, .inl (cA, 80, .inl (fun _ => 0)))] := hD
  refine W.widen (k := 11) (n := 540) (Nat.le_of_ble_eq_true rfl) (Nat.le_of_ble_eq_true rfl) ?_
  refine va_putF (D := D) (ci := 0) (v := .ref q13) (ty := (.array .int)) (C := RX0) (T := TX0) (N := 16) hx hb hts hi tyX0 tyX0_ok nmX0 hown hK hP hD hS 0 rfl rfl 13 (by decide) (hts (.fieldLink RX0 50 "AssignmentHouse" "billedFor" "[I") (by decide +kernel)) (fun _ h9 => h9) rfl hin rfl (by decide +kernel) rfl rfl (Nat.le_of_ble_eq_true rfl) dX0_init_99 (fun H locs hP hD hS => ?_)
  have hP : va_P D vwCl [(h, .inr (0, [.ref q0, .ref q1, .ref q2, .ref q3, .ref q4, .int 4, .int 2, .int 0, .ref q8, .ref q9, .ref q10, .ref q11, .ref q12, .ref q13, .null, .null])), (q0, .inl (cA, 4, .inl (fun _ => 0))), (q1, .inl (cA, 4, .inl (fun _ => 0))), (q2, .inl (cA, 4, .inl (fun _ => 0))), (q3, .inl (cA, 4, .inl (fun _ => 0))), (q4, .inl (cA, 4, .inl (fun _ => 0))), (q8, .inl (cA, 80, .inl (fun _ => 0))), (q9, .inl (cA, 80, .inl (fun _ => 0))), (q10, .inl (cA, 80, .inl (fun _ => 0))), (q11, .inl (cA, 80, .inl (fun _ => 0))), (q12, .inl (cA, 120, .inl (fun _ => 0))), (q13, .inl (cA, 80, .inl (fun _ => 0)))] H := hP
  have hD : va_D A [(h, .inr (0, [.ref q0, .ref q1, .ref q2, .ref q3, .ref q4, .int 4, .int 2, .int 0, .ref q8, .ref q9, .ref q10, .ref q11, .ref q12, .ref q13, .null, .null])), (q0, .inl (cA, 4, .inl (fun _ => 0))), (q1, .inl (cA, 4, .inl (fun _ => 0))), (q2, .inl (cA, 4, .inl (fun _ => 0))), (q3, .inl (cA, 4, .inl (fun _ => 0))), (q4, .inl (cA, 4, .inl (fun _ => 0))), (q8, .inl (cA, 80, .inl (fun _ => 0))), (q9, .inl (cA, 80, .inl (fun _ => 0))), (q10, .inl (cA, 80, .inl (fun _ => 0))), (q11, .inl (cA, 80, .inl (fun _ => 0))), (q12, .inl (cA, 120, .inl (fun _ => 0))), (q13, .inl (cA, 80, .inl (fun _ => 0)))] := hD
  refine lv_aload_n hx hb dX0_init_102 rfl (lv_at hl 0 rfl) ?_
  refine lv_bipush (v := 6) hx hb dX0_init_103 (by decide) ?_
  refine ri_newa (N' := 6) hx hb (hts (.arrayClass .int) (by decide +kernel)) hK hP hD hS hA (by decide) (by decide) (by decide) (Nat.le_of_ble_eq_true rfl) (Nat.le_of_ble_eq_true rfl) dX0_init_105 (fun q14 H hP hD hS => ?_)
  have hP : va_P D vwCl [(h, .inr (0, [.ref q0, .ref q1, .ref q2, .ref q3, .ref q4, .int 4, .int 2, .int 0, .ref q8, .ref q9, .ref q10, .ref q11, .ref q12, .ref q13, .null, .null])), (q0, .inl (cA, 4, .inl (fun _ => 0))), (q1, .inl (cA, 4, .inl (fun _ => 0))), (q2, .inl (cA, 4, .inl (fun _ => 0))), (q3, .inl (cA, 4, .inl (fun _ => 0))), (q4, .inl (cA, 4, .inl (fun _ => 0))), (q8, .inl (cA, 80, .inl (fun _ => 0))), (q9, .inl (cA, 80, .inl (fun _ => 0))), (q10, .inl (cA, 80, .inl (fun _ => 0))), (q11, .inl (cA, 80, .inl (fun _ => 0))), (q12, .inl (cA, 120, .inl (fun _ => 0))), (q13, .inl (cA, 80, .inl (fun _ => 0))), (q14, .inl (cA, 6, .inl (fun _ => 0)))] H := hP
  have hD : va_D A [(h, .inr (0, [.ref q0, .ref q1, .ref q2, .ref q3, .ref q4, .int 4, .int 2, .int 0, .ref q8, .ref q9, .ref q10, .ref q11, .ref q12, .ref q13, .null, .null])), (q0, .inl (cA, 4, .inl (fun _ => 0))), (q1, .inl (cA, 4, .inl (fun _ => 0))), (q2, .inl (cA, 4, .inl (fun _ => 0))), (q3, .inl (cA, 4, .inl (fun _ => 0))), (q4, .inl (cA, 4, .inl (fun _ => 0))), (q8, .inl (cA, 80, .inl (fun _ => 0))), (q9, .inl (cA, 80, .inl (fun _ => 0))), (q10, .inl (cA, 80, .inl (fun _ => 0))), (q11, .inl (cA, 80, .inl (fun _ => 0))), (q12, .inl (cA, 120, .inl (fun _ => 0))), (q13, .inl (cA, 80, .inl (fun _ => 0))), (q14, .inl (cA, 6, .inl (fun _ => 0)))] := hD
  refine W.widen (k := 12) (n := 546) (Nat.le_of_ble_eq_true rfl) (Nat.le_of_ble_eq_true rfl) ?_
  refine va_putF (D := D) (ci := 0) (v := .ref q14) (ty := (.array .int)) (C := RX0) (T := TX0) (N := 16) hx hb hts hi tyX0 tyX0_ok nmX0 hown hK hP hD hS 0 rfl rfl 14 (by decide) (hts (.fieldLink RX0 53 "AssignmentHouse" "minutesTaken" "[I") (by decide +kernel)) (fun _ h9 => h9) rfl hin rfl (by decide +kernel) rfl rfl (Nat.le_of_ble_eq_true rfl) dX0_init_107 (fun H locs hP hD hS => ?_)
  have hP : va_P D vwCl [(h, .inr (0, [.ref q0, .ref q1, .ref q2, .ref q3, .ref q4, .int 4, .int 2, .int 0, .ref q8, .ref q9, .ref q10, .ref q11, .ref q12, .ref q13, .ref q14, .null])), (q0, .inl (cA, 4, .inl (fun _ => 0))), (q1, .inl (cA, 4, .inl (fun _ => 0))), (q2, .inl (cA, 4, .inl (fun _ => 0))), (q3, .inl (cA, 4, .inl (fun _ => 0))), (q4, .inl (cA, 4, .inl (fun _ => 0))), (q8, .inl (cA, 80, .inl (fun _ => 0))), (q9, .inl (cA, 80, .inl (fun _ => 0))), (q10, .inl (cA, 80, .inl (fun _ => 0))), (q11, .inl (cA, 80, .inl (fun _ => 0))), (q12, .inl (cA, 120, .inl (fun _ => 0))), (q13, .inl (cA, 80, .inl (fun _ => 0))), (q14, .inl (cA, 6, .inl (fun _ => 0)))] H := hP
  have hD : va_D A [(h, .inr (0, [.ref q0, .ref q1, .ref q2, .ref q3, .ref q4, .int 4, .int 2, .int 0, .ref q8, .ref q9, .ref q10, .ref q11, .ref q12, .ref q13, .ref q14, .null])), (q0, .inl (cA, 4, .inl (fun _ => 0))), (q1, .inl (cA, 4, .inl (fun _ => 0))), (q2, .inl (cA, 4, .inl (fun _ => 0))), (q3, .inl (cA, 4, .inl (fun _ => 0))), (q4, .inl (cA, 4, .inl (fun _ => 0))), (q8, .inl (cA, 80, .inl (fun _ => 0))), (q9, .inl (cA, 80, .inl (fun _ => 0))), (q10, .inl (cA, 80, .inl (fun _ => 0))), (q11, .inl (cA, 80, .inl (fun _ => 0))), (q12, .inl (cA, 120, .inl (fun _ => 0))), (q13, .inl (cA, 80, .inl (fun _ => 0))), (q14, .inl (cA, 6, .inl (fun _ => 0)))] := hD
  refine lv_aload_n hx hb dX0_init_110 rfl (lv_at hl 0 rfl) ?_
  refine lv_bipush (v := 7) hx hb dX0_init_111 (by decide) ?_
  refine ri_newa (N' := 7) hx hb (hts (.arrayClass .int) (by decide +kernel)) hK hP hD hS hA (by decide) (by decide) (by decide) (Nat.le_of_ble_eq_true rfl) (Nat.le_of_ble_eq_true rfl) dX0_init_113 (fun q15 H hP hD hS => ?_)
  have hP : va_P D vwCl [(h, .inr (0, [.ref q0, .ref q1, .ref q2, .ref q3, .ref q4, .int 4, .int 2, .int 0, .ref q8, .ref q9, .ref q10, .ref q11, .ref q12, .ref q13, .ref q14, .null])), (q0, .inl (cA, 4, .inl (fun _ => 0))), (q1, .inl (cA, 4, .inl (fun _ => 0))), (q2, .inl (cA, 4, .inl (fun _ => 0))), (q3, .inl (cA, 4, .inl (fun _ => 0))), (q4, .inl (cA, 4, .inl (fun _ => 0))), (q8, .inl (cA, 80, .inl (fun _ => 0))), (q9, .inl (cA, 80, .inl (fun _ => 0))), (q10, .inl (cA, 80, .inl (fun _ => 0))), (q11, .inl (cA, 80, .inl (fun _ => 0))), (q12, .inl (cA, 120, .inl (fun _ => 0))), (q13, .inl (cA, 80, .inl (fun _ => 0))), (q14, .inl (cA, 6, .inl (fun _ => 0))), (q15, .inl (cA, 7, .inl (fun _ => 0)))] H := hP
  have hD : va_D A [(h, .inr (0, [.ref q0, .ref q1, .ref q2, .ref q3, .ref q4, .int 4, .int 2, .int 0, .ref q8, .ref q9, .ref q10, .ref q11, .ref q12, .ref q13, .ref q14, .null])), (q0, .inl (cA, 4, .inl (fun _ => 0))), (q1, .inl (cA, 4, .inl (fun _ => 0))), (q2, .inl (cA, 4, .inl (fun _ => 0))), (q3, .inl (cA, 4, .inl (fun _ => 0))), (q4, .inl (cA, 4, .inl (fun _ => 0))), (q8, .inl (cA, 80, .inl (fun _ => 0))), (q9, .inl (cA, 80, .inl (fun _ => 0))), (q10, .inl (cA, 80, .inl (fun _ => 0))), (q11, .inl (cA, 80, .inl (fun _ => 0))), (q12, .inl (cA, 120, .inl (fun _ => 0))), (q13, .inl (cA, 80, .inl (fun _ => 0))), (q14, .inl (cA, 6, .inl (fun _ => 0))), (q15, .inl (cA, 7, .inl (fun _ => 0)))] := hD
  refine W.widen (k := 13) (n := 553) (Nat.le_of_ble_eq_true rfl) (Nat.le_of_ble_eq_true rfl) ?_
  refine va_putF (D := D) (ci := 0) (v := .ref q15) (ty := (.array .int)) (C := RX0) (T := TX0) (N := 16) hx hb hts hi tyX0 tyX0_ok nmX0 hown hK hP hD hS 0 rfl rfl 15 (by decide) (hts (.fieldLink RX0 56 "AssignmentHouse" "aheadOnDay" "[I") (by decide +kernel)) (fun _ h9 => h9) rfl hin rfl (by decide +kernel) rfl rfl (Nat.le_of_ble_eq_true rfl) dX0_init_115 (fun H locs hP hD hS => ?_)
  have hP : va_P D vwCl [(h, .inr (0, [.ref q0, .ref q1, .ref q2, .ref q3, .ref q4, .int 4, .int 2, .int 0, .ref q8, .ref q9, .ref q10, .ref q11, .ref q12, .ref q13, .ref q14, .ref q15])), (q0, .inl (cA, 4, .inl (fun _ => 0))), (q1, .inl (cA, 4, .inl (fun _ => 0))), (q2, .inl (cA, 4, .inl (fun _ => 0))), (q3, .inl (cA, 4, .inl (fun _ => 0))), (q4, .inl (cA, 4, .inl (fun _ => 0))), (q8, .inl (cA, 80, .inl (fun _ => 0))), (q9, .inl (cA, 80, .inl (fun _ => 0))), (q10, .inl (cA, 80, .inl (fun _ => 0))), (q11, .inl (cA, 80, .inl (fun _ => 0))), (q12, .inl (cA, 120, .inl (fun _ => 0))), (q13, .inl (cA, 80, .inl (fun _ => 0))), (q14, .inl (cA, 6, .inl (fun _ => 0))), (q15, .inl (cA, 7, .inl (fun _ => 0)))] H := hP
  have hD : va_D A [(h, .inr (0, [.ref q0, .ref q1, .ref q2, .ref q3, .ref q4, .int 4, .int 2, .int 0, .ref q8, .ref q9, .ref q10, .ref q11, .ref q12, .ref q13, .ref q14, .ref q15])), (q0, .inl (cA, 4, .inl (fun _ => 0))), (q1, .inl (cA, 4, .inl (fun _ => 0))), (q2, .inl (cA, 4, .inl (fun _ => 0))), (q3, .inl (cA, 4, .inl (fun _ => 0))), (q4, .inl (cA, 4, .inl (fun _ => 0))), (q8, .inl (cA, 80, .inl (fun _ => 0))), (q9, .inl (cA, 80, .inl (fun _ => 0))), (q10, .inl (cA, 80, .inl (fun _ => 0))), (q11, .inl (cA, 80, .inl (fun _ => 0))), (q12, .inl (cA, 120, .inl (fun _ => 0))), (q13, .inl (cA, 80, .inl (fun _ => 0))), (q14, .inl (cA, 6, .inl (fun _ => 0))), (q15, .inl (cA, 7, .inl (fun _ => 0)))] := hD
  obtain ⟨a, ea⟩ : ∃ a : Nat → Nat, a = adr h q0 q1 q2 q3 q4 q8 q9 q10 q11 q12 q13 q14 q15 := ⟨_, rfl⟩
  have hP : va_P D vwCl (wX a cA (F0s 0) (fun _ => 0)) H := by subst ea; exact hP
  have hD : va_D A (wX a cA (F0s 0) (fun _ => 0)) := by subst ea; exact hD
  have h16 : a 16 = h := by rw [ea]; rfl
  have hl : lv_has ls 2 [(0, .ref (a 16))] := by rw [h16]; exact hl
  have h4 : (4 : Int32) = nI 4 := rfl
  refine lv_iconst (v := 0) hx hb dX0_init_118 (by decide) ?_
  refine lv_istore_n (lv' := [(1, .int 0), (0, .ref (a 16))]) hx hb dX0_init_119 rfl hl (by decide) rfl (fun ls hl => ?_)
  have K_120 : ∀ (n i : Nat) (H : Heap) (locs : List Loc) (ls : Array Slot), i + n = 4 → va_P D vwCl (wX a cA (F0s i) (fun _ => 0)) H → va_D A (wX a cA (F0s i) (fun _ => 0)) → va_S A s.heap H locs → lv_has ls 2 [(0, .ref (a 16)), (1, .int (nI i))] → W p l e rmX0_init s m args below meth c H locs 13 553 Q (F0 m 120 ls []) := by
    intro n
    induction n with
    | zero =>
      intro i   H locs ls hin_120   hP hD hS hl
      have hiN : i = 4 := by omega
      have hP : va_P D vwCl (wX a cA (F0s 4) (fun _ => 0)) H := by rw [← hiN]; exact hP
      have hD : va_D A (wX a cA (F0s 4) (fun _ => 0)) := by rw [← hiN]; exact hD
      refine lv_iload_n hx hb dX0_init_120 rfl (lv_at hl 1 rfl) ?_
      refine lv_iconst (v := 4) hx hb dX0_init_121 (by decide) ?_
      refine lv_icmp_ge (tgt := 183) hx hb dX0_init_122 (by decide) (fun c_122 => ?_) (fun c_122 => (absurd (((br_ge h4 (by omega) (by omega : i ≤ 4)).mpr hiN)) c_122 : False).elim)
      exact hend 183 ls a _ _ dX0_init_183 hP hD hS h16
    | succ n ih_120 =>
      intro i   H locs ls hin_120   hP hD hS hl
      have hiN : i < 4 := by omega
      refine lv_iload_n hx hb dX0_init_120 rfl (lv_at hl 1 rfl) ?_
      refine lv_iconst (v := 4) hx hb dX0_init_121 (by decide) ?_
      refine lv_icmp_ge (tgt := 183) hx hb dX0_init_122 (by decide) (fun c_122 => (absurd (((br_ge h4 (by omega) (by omega : i ≤ 4)).mp c_122)) (by omega) : False).elim) (fun c_122 => ?_)
      refine lv_aload_n hx hb dX0_init_125 rfl (lv_at hl 0 rfl) ?_
      refine va_get (D := D) (ci := 0) (v := .ref (a 0)) (C := RX0) (T := TX0) (N := 16) hx hb hts hi hown hK hP 0 rfl rfl 0 (by decide) (hts (.fieldLink RX0 9 "AssignmentHouse" "plainRate" "[I") (by decide +kernel)) (fun _ h9 => h9) rfl dX0_init_126 ?_
      refine lv_iload_n hx hb dX0_init_129 rfl (lv_at hl 1 rfl) ?_
      refine lv_sipush (v := 1000) hx hb dX0_init_130 (by decide) ?_
      refine put_call (k := 1) (b := a 0) (n := 4) (f := ((F0s i) 0)) (x := (nI i)) (j := i) (v := 1000) (rest := []) ⟨hx, hb, hml, hown, hts⟩ gX0_init_X0_put hK hP hD hS hA rfl (rfl) (by omega) (by decide) hl.1 (Nat.le_of_ble_eq_true rfl) dX0_init_133 ⟨Nat.le_of_ble_eq_true rfl, Nat.le_of_ble_eq_true rfl⟩ ⟨Nat.le_of_ble_eq_true rfl, Nat.le_of_ble_eq_true rfl⟩ (fun H locs hP hD hS => ?_)
      have hP : va_P D vwCl (wX a cA (fUp (F0s i) 0 i 1000) (fun _ => 0)) H := hP
      have hD : va_D A (wX a cA (fUp (F0s i) 0 i 1000) (fun _ => 0)) := hD
      refine lv_aload_n hx hb dX0_init_136 rfl (lv_at hl 0 rfl) ?_
      refine va_get (D := D) (ci := 0) (v := .ref (a 1)) (C := RX0) (T := TX0) (N := 16) hx hb hts hi hown hK hP 0 rfl rfl 1 (by decide) (hts (.fieldLink RX0 13 "AssignmentHouse" "equalRate" "[I") (by decide +kernel)) (fun _ h9 => h9) rfl dX0_init_137 ?_
      refine lv_iload_n hx hb dX0_init_140 rfl (lv_at hl 1 rfl) ?_
      refine lv_sipush (v := 1200) hx hb dX0_init_141 (by decide) ?_
      refine put_call (k := 2) (b := a 1) (n := 4) (f := ((fUp (F0s i) 0 i 1000) 1)) (x := (nI i)) (j := i) (v := 1200) (rest := []) ⟨hx, hb, hml, hown, hts⟩ gX0_init_X0_put hK hP hD hS hA rfl (rfl) (by omega) (by decide) hl.1 (Nat.le_of_ble_eq_true rfl) dX0_init_144 ⟨Nat.le_of_ble_eq_true rfl, Nat.le_of_ble_eq_true rfl⟩ ⟨Nat.le_of_ble_eq_true rfl, Nat.le_of_ble_eq_true rfl⟩ (fun H locs hP hD hS => ?_)
      have hP : va_P D vwCl (wX a cA (fUp (fUp (F0s i) 0 i 1000) 1 i 1200) (fun _ => 0)) H := hP
      have hD : va_D A (wX a cA (fUp (fUp (F0s i) 0 i 1000) 1 i 1200) (fun _ => 0)) := hD
      refine lv_aload_n hx hb dX0_init_147 rfl (lv_at hl 0 rfl) ?_
      refine va_get (D := D) (ci := 0) (v := .ref (a 2)) (C := RX0) (T := TX0) (N := 16) hx hb hts hi hown hK hP 0 rfl rfl 2 (by decide) (hts (.fieldLink RX0 16 "AssignmentHouse" "highMargin" "[I") (by decide +kernel)) (fun _ h9 => h9) rfl dX0_init_148 ?_
      refine lv_iload_n hx hb dX0_init_151 rfl (lv_at hl 1 rfl) ?_
      refine lv_bipush (v := 20) hx hb dX0_init_152 (by decide) ?_
      refine put_call (k := 3) (b := a 2) (n := 4) (f := ((fUp (fUp (F0s i) 0 i 1000) 1 i 1200) 2)) (x := (nI i)) (j := i) (v := 20) (rest := []) ⟨hx, hb, hml, hown, hts⟩ gX0_init_X0_put hK hP hD hS hA rfl (rfl) (by omega) (by decide) hl.1 (Nat.le_of_ble_eq_true rfl) dX0_init_154 ⟨Nat.le_of_ble_eq_true rfl, Nat.le_of_ble_eq_true rfl⟩ ⟨Nat.le_of_ble_eq_true rfl, Nat.le_of_ble_eq_true rfl⟩ (fun H locs hP hD hS => ?_)
      have hP : va_P D vwCl (wX a cA (fUp (fUp (fUp (F0s i) 0 i 1000) 1 i 1200) 2 i 20) (fun _ => 0)) H := hP
      have hD : va_D A (wX a cA (fUp (fUp (fUp (F0s i) 0 i 1000) 1 i 1200) 2 i 20) (fun _ => 0)) := hD
      refine lv_aload_n hx hb dX0_init_157 rfl (lv_at hl 0 rfl) ?_
      refine va_get (D := D) (ci := 0) (v := .ref (a 3)) (C := RX0) (T := TX0) (N := 16) hx hb hts hi hown hK hP 0 rfl rfl 3 (by decide) (hts (.fieldLink RX0 19 "AssignmentHouse" "lowMargin" "[I") (by decide +kernel)) (fun _ h9 => h9) rfl dX0_init_158 ?_
      refine lv_iload_n hx hb dX0_init_161 rfl (lv_at hl 1 rfl) ?_
      refine lv_bipush (v := 10) hx hb dX0_init_162 (by decide) ?_
      refine put_call (k := 4) (b := a 3) (n := 4) (f := ((fUp (fUp (fUp (F0s i) 0 i 1000) 1 i 1200) 2 i 20) 3)) (x := (nI i)) (j := i) (v := 10) (rest := []) ⟨hx, hb, hml, hown, hts⟩ gX0_init_X0_put hK hP hD hS hA rfl (rfl) (by omega) (by decide) hl.1 (Nat.le_of_ble_eq_true rfl) dX0_init_164 ⟨Nat.le_of_ble_eq_true rfl, Nat.le_of_ble_eq_true rfl⟩ ⟨Nat.le_of_ble_eq_true rfl, Nat.le_of_ble_eq_true rfl⟩ (fun H locs hP hD hS => ?_)
      have hP : va_P D vwCl (wX a cA (fUp (fUp (fUp (fUp (F0s i) 0 i 1000) 1 i 1200) 2 i 20) 3 i 10) (fun _ => 0)) H := hP
      have hD : va_D A (wX a cA (fUp (fUp (fUp (fUp (F0s i) 0 i 1000) 1 i 1200) 2 i 20) 3 i 10) (fun _ => 0)) := hD
      refine lv_aload_n hx hb dX0_init_167 rfl (lv_at hl 0 rfl) ?_
      refine va_get (D := D) (ci := 0) (v := .ref (a 4)) (C := RX0) (T := TX0) (N := 16) hx hb hts hi hown hK hP 0 rfl rfl 4 (by decide) (hts (.fieldLink RX0 22 "AssignmentHouse" "lowVolume" "[I") (by decide +kernel)) (fun _ h9 => h9) rfl dX0_init_168 ?_
      refine lv_iload_n hx hb dX0_init_171 rfl (lv_at hl 1 rfl) ?_
      refine lv_bipush (v := 100) hx hb dX0_init_172 (by decide) ?_
      refine put_call (k := 5) (b := a 4) (n := 4) (f := ((fUp (fUp (fUp (fUp (F0s i) 0 i 1000) 1 i 1200) 2 i 20) 3 i 10) 4)) (x := (nI i)) (j := i) (v := 100) (rest := []) ⟨hx, hb, hml, hown, hts⟩ gX0_init_X0_put hK hP hD hS hA rfl (rfl) (by omega) (by decide) hl.1 (Nat.le_of_ble_eq_true rfl) dX0_init_174 ⟨Nat.le_of_ble_eq_true rfl, Nat.le_of_ble_eq_true rfl⟩ ⟨Nat.le_of_ble_eq_true rfl, Nat.le_of_ble_eq_true rfl⟩ (fun H locs hP hD hS => ?_)
      have hP : va_P D vwCl (wX a cA (fUp (fUp (fUp (fUp (fUp (F0s i) 0 i 1000) 1 i 1200) 2 i 20) 3 i 10) 4 i 100) (fun _ => 0)) H := hP
      have hD : va_D A (wX a cA (fUp (fUp (fUp (fUp (fUp (F0s i) 0 i 1000) 1 i 1200) 2 i 20) 3 i 10) 4 i 100) (fun _ => 0)) := hD
      refine lv_iinc (v := (nI (i + 1))) (lv' := [(1, .int (nI (i + 1))), (0, .ref (a 16))]) hx hb dX0_init_177 hl (k := 1) rfl (nI_1 i) (by decide) rfl (fun ls hl => ?_)
      refine lv_goto (tgt := 120) hx hb dX0_init_180 (by decide) ?_
      exact ih_120 (i + 1)   _ _ ls (by omega)   hP hD hS (lv_sub hl [1, 0] rfl)
  exact K_120 4 0   _ _ ls (by omega)   hP hD hS (lv_sub hl [1, 0] rfl)
end

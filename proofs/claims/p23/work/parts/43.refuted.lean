/-! what follows: the claim's bound on new cells fails at a script of one number that is 0 (the entering of a method follows the library's own proof: Free/Laws.lean, of_bodySF) -/
theorem over_run {l : Launch} (hflags : l.flags = flags0) {p : Program} {e : Env} (ha : l.admits e) (hc : FairCas e.choices) (hk : FairClock e.choices) {s : State} {m : MethodId} {args : Array Value} {below : List Frame} (hf : s.frames = Frame.invoking m args :: below)
    (happ : (headSpec (Jvm.Cond.code x code maxLocals ret :: tables_1) R9).applies x e.platform s = true) {b : Addr} (hargs : args = #[.ref b]) (hscr : s.IntsAt b [0]) (hgv : (Jvm.Cond.and given_1 narrow_1).before args s = true) :
    ∃ n : Nat, (∀ k, k < n → Within (stepsAlone p.tables e k s) below) ∧ Within (stepsAlone p.tables e n s) below ∧ s.heap.size + 125 ≤ (stepsAlone p.tables e n s).heap.size := by
  subst hargs
  obtain ⟨hrun, hable, halone, hname, hhears, hinit, hroom, hpre⟩ := (Spec.appliesLoose_iff hf).mp ((Spec.applies_iff_loose hf).mp happ).1
  have hts0 : ∀ c ∈ (Jvm.Cond.code x code maxLocals ret :: tables_1), c.before #[Value.ref b] s = true := atoms_spec (ws := Jvm.Cond.code x code maxLocals ret :: tables_1) hpre
  obtain ⟨meth, c, hmeth, hcode, hbytes, hlocals, hret, hlocks, -, -⟩ := Cond.code_spec hname (hts0 _ List.mem_cons_self)
  have hcur := State.cur_lt_of_frames hf
  have hf1 : (s.setFrames (.java (entryFrame m #[Value.ref b] maxLocals) :: below)).frames = .java (entryFrame m #[Value.ref b] maxLocals) :: below := State.frames_setFrames _ hcur
  have ht1 := State.topJava?_of_frames hf1
  have hplain : (s.setFrames (.java (entryFrame m #[Value.ref b] maxLocals) :: below)).plainMethod m := State.plainMethod.of_named (s := s) (plainFor_of_name (by decide)) hname hmeth
  have hAt : At (s.setFrames (.java (entryFrame m #[Value.ref b] maxLocals) :: below)) m c below :=
    ⟨by rw [ht1]; rfl, ⟨[], by rw [hf1]; rfl⟩, hrun, by simpa using hable, by simpa using halone, by rw [State.code?_eq]; simp [State.setFrames, hmeth, hcode], hplain⟩
  have hstep : (stepThread p.tables e s).1 = (s.setFrames (.java (entryFrame m #[Value.ref b] maxLocals) :: below)).setTop (entryFrame m #[Value.ref b] maxLocals) := by
    have hfull : e.platform.stackFull (s.setFrames below).me (s.setFrames below).frames c.maxLocals = false := by
      obtain ⟨-, h1, -, h2⟩ := State.hasRoom_stack hroom
      rw [hf, List.length_cons] at h1
      rw [State.localsInUse_invoking hf hmeth hcode] at h2
      have hw := stackUse_le_stackWeight below
      rw [State.frames_setFrames _ hcur]
      exact Platform.stackFull_eq_false (by rw [State.stackLimits_setFrames]; omega) (by rw [State.stackLimits_setFrames]; omega)
    rw [stepThread_invoking hf, (doInvoke_java (s := s.setFrames below) (e := e) (meth := meth) (code := c) hmeth hcode hlocks hfull).1, State.setTop_self ht1]
    simp only [State.pushFrame, State.frames_setFrames _ hcur, State.setFrames_setFrames, hlocals, entryFrame]
  have B : BodyLoose p l x (headSpec (Jvm.Cond.code x code maxLocals ret :: tables_1) R9) code maxLocals ret e s m #[Value.ref b] below meth c (s.setFrames (.java (entryFrame m #[Value.ref b] maxLocals) :: below)) :=
    ⟨ha, hc, hk, by cases p <;> rfl, hf, hname, hhears, hinit, hroom, hpre, hmeth, hret, hlocks, hbytes, rfl, hAt⟩
  obtain ⟨scr, harrAt, hlist, hof, hsmall⟩ := hscr
  obtain ⟨hcb, hkn, -, -⟩ := State.arrayAt?_spec harrAt
  have hown : s.vm.findClass RL = some m.cls := findClass_of_methodNamed B.named
  have hts : ∀ w ∈ lw_tbl, w.before #[Value.ref b] s = true := k2_hts_sels lw_privs (fun w hw => hts0 w (List.mem_cons_of_mem _ hw)) lw_privs_ok
  have hsz : scr.slots.size = 1 := by rw [← Array.length_toList, hlist, List.length_map]; rfl
  have hval : ∀ j : Nat, j < 1 → scr.slots[j]? = some (.int ((fun _ => (0 : Int32)) j)) := fun j hj => by
    rw [← Array.getElem?_toList, hlist]
    simp [show j = 0 by omega]
  have hbl : b < s.heap.size := (Array.getElem?_eq_some_iff.mp hcb).1
  have hX : va_X b 1 (fun _ => (0 : Int32)) s s.heap := ⟨scr, hcb, hof, hkn, hsz, hval⟩
  obtain ⟨t, hst, hw, hg⟩ := law_over (p := p) (e := e) (m := m) (below := below) (meth := meth) l hflags rfl B.exec hbytes hlocals hown hts hX hbl hgv (s.setFrames (.java (entryFrame m #[Value.ref b] maxLocals) :: below)) rfl (Stand.of_body B)
  obtain ⟨n, hn, hwn⟩ := Steps.head (tb := p.tables) (e := e) ⟨hrun, hable, halone⟩ ⟨[.invoking m #[Value.ref b]], hf, by simp, by simp⟩ (hstep ▸ hst)
  exact ⟨n, hwn, by rw [hn]; exact hw, by rw [hn]; exact hg⟩
/-- what is under way hasn't returned -/
theorem within_not_ended {t : State} {below : List Frame} {v : Option Value} (hW : Within t below) (hE : Ended t below (.returned v)) : False := by
  obtain ⟨ab, h1, h2, -⟩ := hW
  have h3 : 0 < ab.length := List.length_pos_iff.mpr h2
  have hlen : t.frames.length = below.length := by
    match below, hE with
    | .java g :: r, hE => obtain ⟨c, i, len, -, -, h⟩ := hE; rw [h]; rfl
    | .native g :: r, hE => have h : t.frames = _ := hE; rw [h]; rfl
    | .proc g :: r, hE => have h : t.frames = _ := hE; rw [h]; rfl
    | [], hE => have h : v = none ∧ t.frames = [] := hE; rw [h.2]
    | f :: r, hE => first | (obtain ⟨-, h⟩ := hE; rw [h]) | (cases f <;> first | (obtain ⟨-, h⟩ := hE; rw [h]) | (obtain ⟨c, i, len, -, -, h⟩ := hE; rw [h]; rfl) | (have h : t.frames = _ := hE; rw [h]; rfl))
  rw [h1, List.length_append] at hlen
  omega
/-- whatever says that the law returns with at most 124 new cells is false at such a start -/
theorem p23_arm_false {l : Launch} (hflags : l.flags = flags0) {p : Program} {e : Env} {s : State} {m : MethodId} {args : Array Value} {below : List Frame} (hat : AtStart classFile x code maxLocals ret World_1 tables_1 room_1 Calls_1 rest_1 Pre_1 l p e s m args below)
    (happ : (headSpec (Jvm.Cond.code x code maxLocals ret :: tables_1) R9).applies x e.platform s = true) {b : Addr} (hargs : args = #[.ref b]) (hscr : s.IntsAt b [0])
    {Post : Tables → Env → Array Value → State → Outcome → State → Prop} {Lf : Array Value → State → List Loc} (hq : ∀ (tb : Tables) (e : Env) (a : Array Value) (s : State) (o : Outcome) (t : State), Post tb e a s o t → Framed s o t (Lf a s) 124 1508) :
    ¬ ArmFor flags0 classFile x code maxLocals ret World_1 tables_1 room_1 Calls_1 rest_1 Pre_1 Post := by
  intro h
  obtain ⟨hL, hWo, ha, -, hc, hk, hf, hfit, hheap, happ1, hca, hre, hpre⟩ := hat
  obtain ⟨n, hw, hwn, hg⟩ := over_run hflags ha hc hk hf happ hargs hscr hpre
  obtain ⟨n', o, hw', hrun', hend', hpost'⟩ := h l hflags hL hWo p e ha hc hk s m args below hf hfit hheap happ1 ⟨hca, hre, hpre⟩
  obtain ⟨⟨v, rfl⟩, -, hsame⟩ := hq _ _ _ _ _ _ hpost'
  have hlt : n < n' := by
    rcases Nat.lt_or_ge n n' with h9 | h9
    · exact h9
    · exfalso
      rcases Nat.lt_or_eq_of_le h9 with h8 | h8
      · exact within_not_ended (hw n' h8) hend'
      · rw [← h8] at hwn; exact within_not_ended hwn hend'
  have hle : (stepsAlone p.tables e n' s).heap.size ≤ s.heap.size + 124 := hsame.2.2.1
  obtain ⟨d, rfl⟩ := Nat.exists_eq_add_of_le (Nat.le_of_lt hlt)
  rw [stepsAlone_add] at hle
  have hmono := stepsAlone_heap_le p.tables e d (stepsAlone p.tables e n s)
  omega

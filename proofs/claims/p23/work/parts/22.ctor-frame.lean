/-! the constructors' frame, and the state that they leave -/
def cst (v : Int32) : Nat → Nat → Int32
  | 0 => fun _ => 0
  | i + 1 => upd (cst v i) i v
/-- the state behind i sites -/
def F0s (i : Nat) : Nat → Nat → Int32 := fun k => match k with
  | 0 => cst 1000 i
  | 1 => cst 1200 i
  | 2 => cst 20 i
  | 3 => cst 10 i
  | 4 => cst 100 i
  | 5 => fun _ => 4
  | 6 => fun _ => 2
  | _ => fun _ => 0
def adr (h q0 q1 q2 q3 q4 q8 q9 q10 q11 q12 q13 q14 q15 : Nat) : Nat → Nat := fun k => match k with
  | 0 => q0
  | 1 => q1
  | 2 => q2
  | 3 => q3
  | 4 => q4
  | 8 => q8
  | 9 => q9
  | 10 => q10
  | 11 => q11
  | 12 => q12
  | 13 => q13
  | 14 => q14
  | 15 => q15
  | _ => h
def Cn (l : Launch) (D : va_G) (cA : ClassId) (w0 : va_W) (h : Nat) (w : (Nat → Nat) → va_W) (y : MethodName) (ws : List Cond) (rm : Room) (mc ms : Nat) : Prop :=
  ∀ sz : Nat, Met l y ws rm (WP D cA w0 sz [.ref h]) (va_Qv (fun a : Nat → Nat => a 16 = h) (WB D cA w (va_A w0 sz)) (va_A w0 sz)) mc ms (va_A w0 sz)
theorem Cn.of {l : Launch} {D : va_G} {cA : ClassId} {y : MethodName} {ws ws' : List Cond} {rm : Room} {cc : ByteArray} {maxL mc ms h : Nat} {w0 : va_W} {w : (Nat → Nat) → va_W} (hy : plainName y.cls = true) (hyn : y.name = "<init>") (hw : ws = Cond.code y cc maxL none :: ws') (hn : (lg_sl [.ref h]).length ≤ maxL)
    (body : ∀ (p : Program) (e : Env) (s : State) (m : MethodId) (args : Array Value) (below : List Frame) (meth : Method) (c : Code) (ls : Array Slot) (A : Nat → Prop) (Q : State → Prop), p.tables.exec = Jvm.exec → c.code = cc → (∀ w ∈ ws, w.before args s = true) → s.vm.findClass y.cls = some m.cls → c.maxLocals = maxL → KA D cA s → va_P D vwCl w0 s.heap → va_D A w0 → (∀ q : Nat, s.heap.size ≤ q → A q) → va_S A s.heap s.heap [] → lv_has ls maxL (lv_args 0 [.ref h]) → meth.name = "<init>" →
      (∀ (pc : Nat) (ls : Array Slot) (a : Nat → Nat) (H : Heap) (locs : List Loc), decode cc pc = .ok (.return_, 1) → va_P D vwCl (w a) H → va_D A (w a) → va_S A s.heap H locs → a 16 = h → W p l e rm s m args below meth c H locs mc ms Q (F0 m pc ls [])) →
      W p l e rm s m args below meth c s.heap [] 0 0 Q (F0 m 0 ls [])) : Cn l D cA w0 h w y ws rm mc ms := by
  intro sz
  refine Met.ofW (cc := cc) (maxL := maxL) (ret := none) hy hw ?_
  intro p e s m args below meth c s₁ B hml hv
  obtain ⟨rfl, hsz, hP, hK, hD⟩ := hv
  subst hsz
  rw [lg_entry_eq]
  exact body p e s m _ below meth c _ _ _ B.exec B.bytes (atoms_spec (ws := ws) B.pre) (findClass_of_methodNamed B.named) hml hK hP hD.self (fun q h => Or.inr h) va_S.rf (lv_entry [.ref h] (n := maxL) hn) ((name_of_methodNamed B.named B.method).1.trans hyn)
    (fun pc ls a H locs hd hP hD hS hpost => W.vret B.exec B.bytes B.returns (fun t ht hW => ⟨⟨a, rfl, hpost, by rw [ht]; exact hP, va_K.moved hW.alike hK, hD⟩, hS.F ht⟩) hS.2.2 hd B.notSynchronized)
section NEWA
variable {p : Program} {l : Launch} {e : Env} {R : Room} {s : State} {m : MethodId} {args : Array Value} {below : List Frame} {meth : Method} {c : Code} {H : Heap} {locs : List Loc} {cells slots : Nat} {Q : State → Prop}
variable {cc : ByteArray} {pc : Nat} {ls : Array Slot} {rest : List Value} {D : va_G} {cA : ClassId} {A0 : Nat → Prop} {H0 : Heap} {w : va_W} {N' : Nat} {n : Int32}
theorem ri_newa (hx : p.tables.exec = Jvm.exec) (hb : c.code = cc) (harr : (Cond.arrayClass .int).before args s = true) (hK : KA D cA s) (hP : va_P D vwCl w H) (hD : va_D A0 w) (hS : va_S A0 H0 H locs) (hA : ∀ q : Nat, H0.size ≤ q → A0 q) (hn : ¬ n < 0) (hN : n.toNatClampNeg = N') (hbytes : N' * componentBytes .int ≤ 536870912) (hcells : cells + 1 ≤ R.cells) (hslots : slots + N' ≤ R.slots) (hdg : decode cc pc = .ok (.newarray .int, 2))
    (kk : ∀ (q : Nat) (H1 : Heap), va_P D vwCl (w ++ [(q, .inl (cA, N', .inl (fun _ => 0)))]) H1 → va_D A0 (w ++ [(q, .inl (cA, N', .inl (fun _ => 0)))]) → va_S A0 H0 H1 locs → W p l e R s m args below meth c H1 locs (cells + 1) (slots + N') Q (F0 m (pc + 2) ls (.ref q :: rest))) : W p l e R s m args below meth c H locs cells slots Q (F0 m pc ls (.int n :: rest)) := by
  refine va_newa (atype := .int) (ty := .int) (a0 := (N', .inl (fun _ => 0))) hx hb harr rfl hK hP hD hS hA (fun _ => rfl) hn hN hbytes hcells hslots hdg (fun q cA' H1 hK1 hP1 hD1 hS1 => ?_)
  have e1 : s.vm.findClass ("[" ++ (FieldType.int).toString) = some cA := (hK.2 0 _ rfl).2
  have e2 : s.vm.findClass ("[" ++ (FieldType.int).toString) = some cA' := (hK1.2 1 _ rfl).2
  cases Option.some.inj (e1.symm.trans e2)
  exact kk q H1 hP1 hD1 hS1
end NEWA

/-! SPECS: what the methods answer, as functions of the state F and the number N of shifts -/
def ps (f : Nat → Int32) : Nat → Int32
  | 0 => 0
  | n + 1 => ps f n + f n
def tOn (F : Nat → Nat → Int32) (w d : Int32) : Nat → Int32 := fun i => if F 8 i = w ∧ F 10 i = d then F 11 i else 0
def tAt (F : Nat → Nat → Int32) (t k : Int32) : Nat → Int32 := fun i => if F 9 i = t ∧ F 10 i / 7 = k then F 11 i else 0
def tWk (F : Nat → Nat → Int32) (w k : Int32) : Nat → Int32 := fun i => if F 8 i = w ∧ F 10 i / 7 = k then F 11 i else 0
def tEr (F : Nat → Nat → Int32) (w : Int32) : Nat → Int32 := fun i => if F 8 i = w then 7 * F 11 i else 0
def tHr (F : Nat → Nat → Int32) (w : Int32) : Nat → Int32 := fun i => if F 8 i = w then F 11 i else 0
/-- worked: a shift of at least an hour there in that week, among the first n -/
def wkd (F : Nat → Nat → Int32) (w t k : Int32) : Nat → Bool
  | 0 => false
  | n + 1 => wkd F w t k n || decide (F 8 n = w ∧ F 9 n = t ∧ F 10 n / 7 = k ∧ 0 < F 11 n)
/-- going back from week k: weeks worked so far wo, missed one after the other mi -/
def eqL (b : Nat → Bool) (gap : Int32) : Nat → Int32 → Int32 → Int32
  | 0, wo, _ => wo
  | k + 1, wo, mi => if mi ≤ gap then (if b k = true then eqL b gap k (wo + 1) 0 else eqL b gap k wo (mi + 1)) else wo
def sEqV (F : Nat → Nat → Int32) (N : Nat) (w t : Int32) (k : Nat) : Int32 := eqL (fun j => wkd F w t (nI j) N) (F 6 0) k 0 0
/-- an hour's sheet h on top of (normal in the week, before on the day): what of it is normal -/
def ovIts (no be h : Int32) : Int32 := if h < (if (if be < 8 then 8 - be else 0) < 40 - no then (if be < 8 then 8 - be else 0) else 40 - no) then h else (if (if be < 8 then 8 - be else 0) < 40 - no then (if be < 8 then 8 - be else 0) else 40 - no)
abbrev ovT (F : Nat → Nat → Int32) (one : Nat) (day : Int32) (i : Nat) : Prop := F 8 i = F 8 one ∧ F 10 i = day ∧ (day < F 10 one ∨ nI i ≤ nI one)
def ovStep (F : Nat → Nat → Int32) (one : Nat) (day : Int32) (i : Nat) (z : Int32 × Int32 × Int32) : Int32 × Int32 × Int32 :=
  if ovT F one day i then (z.1 + ovIts z.1 z.2.1 (F 11 i), z.2.1 + F 11 i, F 11 i - ovIts z.1 z.2.1 (F 11 i)) else z
/-- a day: (normal, before, over) behind the first n shifts -/
def ovDay (F : Nat → Nat → Int32) (one : Nat) (day : Int32) (z : Int32 × Int32 × Int32) : Nat → Int32 × Int32 × Int32
  | 0 => z
  | n + 1 => ovStep F one day n (ovDay F one day z n)
/-- the week up to the k-th day from day d0: (normal, over) -/
def ovWk (F : Nat → Nat → Int32) (N one d0 : Nat) : Nat → Int32 × Int32
  | 0 => (0, 0)
  | k + 1 => ((ovDay F one (nI (d0 + k)) ((ovWk F N one d0 k).1, 0, (ovWk F N one d0 k).2) N).1, (ovDay F one (nI (d0 + k)) ((ovWk F N one d0 k).1, 0, (ovWk F N one d0 k).2) N).2.2)
def dayN (F : Nat → Nat → Int32) (i : Nat) : Nat := (F 10 i).toNatClampNeg
def sOv (F : Nat → Nat → Int32) (N one : Nat) : Int32 := (ovWk F N one (7 * (dayN F one / 7)) (dayN F one % 7 + 1)).2
def sRt (F : Nat → Nat → Int32) (N i : Nat) : Int32 := if F 5 0 ≤ sEqV F N (F 8 i) (F 9 i) (dayN F i / 7) then F 1 (F 9 i).toNatClampNeg else F 0 (F 9 i).toNatClampNeg
def sPy (F : Nat → Nat → Int32) (N i : Nat) : Int32 := (2 * (F 11 i - sOv F N i) + 3 * sOv F N i) * sRt F N i / 2
def sMg (F : Nat → Nat → Int32) (N : Nat) (t k : Int32) : Int32 := if F 4 t.toNatClampNeg ≤ ps (tAt F t k) N then F 3 t.toNatClampNeg else F 2 t.toNatClampNeg
def sCh (F : Nat → Nat → Int32) (N i : Nat) : Int32 := sPy F N i * (100 + sMg F N (F 9 i) (F 10 i / 7)) / 100
def tPw (F : Nat → Nat → Int32) (N : Nat) (w k : Int32) : Nat → Int32 := fun i => if F 8 i = w ∧ F 10 i / 7 = k then sPy F N i else 0
def tCt (F : Nat → Nat → Int32) (N : Nat) (t k : Int32) : Nat → Int32 := fun i => if F 9 i = t ∧ F 10 i / 7 = k then sCh F N i else 0
/-- what every state keeps -/
def wf (F : Nat → Nat → Int32) (N : Nat) : Prop := N ≤ 80 ∧ F 7 0 = nI N ∧ ∀ i, i < N → (∃ w, w < 6 ∧ F 8 i = nI w) ∧ (∃ t, t < 4 ∧ F 9 i = nI t) ∧ (∃ d, d < 140 ∧ F 10 i = nI d) ∧ ∃ h, h ≤ 16 ∧ F 11 i = nI h
/-! small facts -/
theorem ps_s (f : Nat → Int32) (n : Nat) : ps f (n + 1) = ps f n + f n := rfl
theorem ps_0 (f : Nat → Int32) : ps f 0 = 0 := rfl
theorem i32_a0 (x : Int32) : x + 0 = x := Int32.add_zero x
theorem br_ge {x : Int32} {N i : Nat} (e : x = nI N) (hN : N ≤ 140) (hi : i ≤ N) : x ≤ nI i ↔ i = N := by
  rw [e, nI_leI (by omega) (by omega)]; omega
theorem br_lt {i N : Nat} (hN : N ≤ 140) (hi : i ≤ N) : nI N ≤ nI i ↔ i = N := br_ge rfl hN hi
theorem wf.n {F : Nat → Nat → Int32} {N : Nat} (h : wf F N) : N ≤ 80 := h.1
theorem wf.c {F : Nat → Nat → Int32} {N : Nat} (h : wf F N) : F 7 0 = nI N := h.2.1
theorem wf.day {F : Nat → Nat → Int32} {N i : Nat} (h : wf F N) (hi : i < N) : dayN F i < 140 ∧ F 10 i = nI (dayN F i) := by
  obtain ⟨d, h1, h2⟩ := (h.2.2 i hi).2.2.1
  have e : dayN F i = d := by unfold dayN; rw [h2]; exact nI_clamp (by omega)
  rw [e]; exact ⟨h1, h2⟩
theorem wf.week {F : Nat → Nat → Int32} {N i : Nat} (h : wf F N) (hi : i < N) : F 10 i / 7 = nI (dayN F i / 7) := by
  obtain ⟨h1, h2⟩ := h.day hi
  rw [h2]; exact pk_div (d := 7) (by omega) (by omega) (by omega)
theorem wf.site {F : Nat → Nat → Int32} {N i : Nat} (h : wf F N) (hi : i < N) : (F 9 i).toNatClampNeg < 4 ∧ F 9 i = nI (F 9 i).toNatClampNeg := by
  obtain ⟨t, h1, h2⟩ := (h.2.2 i hi).2.1
  have e : (F 9 i).toNatClampNeg = t := by rw [h2]; exact nI_clamp (by omega)
  rw [e]; exact ⟨h1, h2⟩
theorem wf.wkr {F : Nat → Nat → Int32} {N i : Nat} (h : wf F N) (hi : i < N) : (F 8 i).toNatClampNeg < 6 ∧ F 8 i = nI (F 8 i).toNatClampNeg := by
  obtain ⟨t, h1, h2⟩ := (h.2.2 i hi).1
  have e : (F 8 i).toNatClampNeg = t := by rw [h2]; exact nI_clamp (by omega)
  rw [e]; exact ⟨h1, h2⟩
theorem wf.hrs {F : Nat → Nat → Int32} {N i : Nat} (h : wf F N) (hi : i < N) : (F 11 i).toNatClampNeg ≤ 16 ∧ F 11 i = nI (F 11 i).toNatClampNeg := by
  obtain ⟨t, h1, h2⟩ := (h.2.2 i hi).2.2.2
  have e : (F 11 i).toNatClampNeg = t := by rw [h2]; exact nI_clamp (by omega)
  rw [e]; exact ⟨h1, h2⟩
section ROWS2
variable {p : Program} {l : Launch} {e : Env} {R : Room} {s : State} {m : MethodId} {args : Array Value} {below : List Frame} {meth : Method} {c : Code} {H : Heap} {locs : List Loc} {cells slots : Nat} {Q : State → Prop}
variable {cc : ByteArray} {pc : Nat} {ls : Array Slot} {rest : List Value} {D : va_G} {cA : ClassId} {A0 : Nat → Prop} {H0 : Heap} {w : va_W} {b n j : Nat} {f : Nat → Int32} {i x : Int32}
theorem ri_ald (hx : p.tables.exec = Jvm.exec) (hb : c.code = cc) (hK : KA D cA s) (hP : va_P D vwCl w H) (q0 : Nat) (ha : w[q0]? = some (b, .inl (cA, n, .inl f))) (ei : i = nI j) (hj : j < n) (hn : n ≤ 120) (hdg : decode cc pc = .ok (.iaload, 1))
    (kk : W p l e R s m args below meth c H locs cells slots Q (F0 m (pc + 1) ls (.int (f j) :: rest))) : W p l e R s m args below meth c H locs cells slots Q (F0 m pc ls (.int i :: .ref b :: rest)) := by
  subst ei
  refine va_iald hx hb hK hP q0 0 ha rfl (vp_in_nI hj (by omega)) hdg ?_
  rw [nI_clamp (by omega)]
  exact kk
theorem ri_ast (hx : p.tables.exec = Jvm.exec) (hb : c.code = cc) (hK : KA D cA s) (hP : va_P D vwCl w H) (hD : va_D A0 w) (hS : va_S A0 H0 H locs) (q0 : Nat) (ha : w[q0]? = some (b, .inl (cA, n, .inl f))) (ei : i = nI j) (hj : j < n) (hn : n ≤ 120) (hdg : decode cc pc = .ok (.iastore, 1))
    (kk : ∀ (H1 : Heap) (locs1 : List Loc), va_P D vwCl (w.set q0 (b, .inl (cA, n, .inl (upd f j x)))) H1 → va_D A0 (w.set q0 (b, .inl (cA, n, .inl (upd f j x)))) → va_S A0 H0 H1 locs1 → W p l e R s m args below meth c H1 locs1 cells slots Q (F0 m (pc + 1) ls rest)) : W p l e R s m args below meth c H locs cells slots Q (F0 m pc ls (.int x :: .int i :: .ref b :: rest)) := by
  subst ei
  refine va_iast hx hb hK hP hD hS q0 0 ha rfl (vp_in_nI hj (by omega)) hdg ?_
  rw [nI_clamp (by omega)]
  exact kk
end ROWS2

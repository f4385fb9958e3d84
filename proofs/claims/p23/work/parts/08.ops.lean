/-! OPS: which exception a call throws (0: none), what it leaves, what it answers -/
abbrev cI (x n : Int32) : Prop := ¬ x < 0 ∧ x < n
abbrev cR (x a b : Int32) : Prop := ¬ x < a ∧ x ≤ b
theorem cI_n {x n : Int32} (h : ¬ cI x n) : x < 0 ∨ ¬ x < n := by
  by_cases a : x < 0
  · exact Or.inl a
  · exact Or.inr (fun b => h ⟨a, b⟩)
theorem cR_n {x a b : Int32} (h : ¬ cR x a b) : x < a ∨ ¬ x ≤ b := by
  by_cases z : x < a
  · exact Or.inl z
  · exact Or.inr (fun y => h ⟨z, y⟩)
theorem cI_of {x y : Int32} {n : Nat} (h : cI x y) (hy : y = nI n) (hn : n ≤ 200) : x.toNatClampNeg < n ∧ x = nI x.toNatClampNeg := by
  subst hy
  rcases pk_ix x (n := n) (by omega) with h1 | h1 | ⟨j, hj, e⟩
  · exact absurd h1 h.1
  · exact absurd h.2 (Int32.not_lt.mpr h1)
  · subst e
    rw [nI_clamp (by omega)]
    exact ⟨hj, rfl⟩
theorem cR_of {x y : Int32} {n : Nat} (h : cR x 0 y) (hy : y = nI n) (hn : n ≤ 200) : x.toNatClampNeg < n + 1 ∧ x = nI x.toNatClampNeg := by
  subst hy
  rcases pk_ix x (n := n + 1) (by omega) with h1 | h1 | ⟨j, hj, e⟩
  · exact absurd h1 h.1
  · have h2 : nI (n + 1) ≤ nI n := Int32.le_trans h1 h.2
    rw [nI_leI (by omega) (by omega)] at h2
    omega
  · subst e
    rw [nI_clamp (by omega)]
    exact ⟨hj, rfl⟩
def exN (k : Int32) (e1 e2 e3 : String) : String := if k = 1 then e1 else if k = 2 then e2 else e3
def kRates (s r q : Int32) : Int32 := if cI s 4 then (if cR r 1 10000 then (if cR q r 10000 then 0 else 2) else 2) else 1
def kMargins (s m lo v : Int32) : Int32 := if cI s 4 then (if cR m 0 100 then (if cR lo 0 m then (if cR v 1 1000 then 0 else 2) else 2) else 2) else 1
def kEqual (sp gp : Int32) : Int32 := if cR sp 1 12 then (if cR gp 0 6 then 0 else 1) else 1
def kShift (F : Nat → Nat → Int32) (N : Nat) (w t d h : Int32) : Int32 := if cI w 6 then (if cI t 4 then (if cR d 0 139 then (if cR h 1 16 then (if F 7 0 < 80 then (if ps (tOn F w d) N + h ≤ 24 then 0 else 3) else 3) else 2) else 2) else 1) else 1
def kCorrect (F : Nat → Nat → Int32) (N : Nat) (x h : Int32) : Int32 := if cI x (F 7 0) then (if cR h 0 16 then (if ps (tOn F (F 8 x.toNatClampNeg) (F 10 x.toNatClampNeg)) N + (h - F 11 x.toNatClampNeg) ≤ 24 then (if ¬ 7 * ps (tHr F (F 8 x.toNatClampNeg)) N - F 14 (F 8 x.toNatClampNeg).toNatClampNeg + 7 * (h - F 11 x.toNatClampNeg) < 0 then 0 else 3) else 3) else 2) else 1
def kWW (w k : Int32) : Int32 := if cI w 6 then (if cI k 20 then 0 else 1) else 1
def kSW (t k : Int32) : Int32 := if cI t 4 then (if cI k 20 then 0 else 1) else 1
def kWSW (w t k : Int32) : Int32 := if cI w 6 then (if cI t 4 then (if cI k 20 then 0 else 1) else 1) else 1
def kSh (F : Nat → Nat → Int32) (x : Int32) : Int32 := if cI x (F 7 0) then 0 else 1
def kWk (k : Int32) : Int32 := if cI k 20 then 0 else 1
def kTake (F : Nat → Nat → Int32) (N : Nat) (w m : Int32) : Int32 := if cI w 6 then (if cR m 1 10000 then (if m ≤ 7 * ps (tHr F w) N - F 14 w.toNatClampNeg then 0 else 3) else 2) else 1
def kW (w : Int32) : Int32 := if cI w 6 then 0 else 1
/-- a shift is told -/
def fShift (F : Nat → Nat → Int32) (N : Nat) (w t d h : Int32) : Nat → Nat → Int32 := fUp (fUp (fUp (fUp (fUp F 8 N w) 9 N t) 10 N d) 11 N h) 7 0 (F 7 0 + 1)
def fMargins (F : Nat → Nat → Int32) (j : Nat) (m lo v : Int32) : Nat → Nat → Int32 := fUp (fUp (fUp F 2 j m) 3 j lo) 4 j v
theorem ix20 {x y : Int32} {a b : Nat} (ex : x = nI a) (ey : y = nI b) : x * 20 + y = nI (a * 20 + b) := by
  rw [ex, ey]
  exact (congrArg (· + nI b) (pk_mul a 20)).trans (nI_add _ _)
theorem ix20' {x y : Int32} {a b : Nat} (ex : x = nI a) (ey : y = nI b) : 20 * x + y = nI (a * 20 + b) := by
  rw [Int32.mul_comm]; exact ix20 ex ey
/-- running a week: the pay of worker i, the charges of site i; the rows behind i of them -/
def pW (F : Nat → Nat → Int32) (N k i : Nat) : Int32 := ps (tPw F N (nI i) (nI k)) N
def cS (F : Nat → Nat → Int32) (N k i : Nat) : Int32 := ps (tCt F N (nI i) (nI k)) N
def runP (F : Nat → Nat → Int32) (N k : Nat) : Nat → Nat → Nat → Int32
  | 0 => F
  | i + 1 => fUp (runP F N k i) 12 (i * 20 + k) (pW F N k i)
def runB (F : Nat → Nat → Int32) (N k : Nat) : Nat → Nat → Nat → Int32
  | 0 => runP F N k 6
  | i + 1 => fUp (runB F N k i) 13 (i * 20 + k) (cS F N k i)
def sRun (F : Nat → Nat → Int32) (N k : Nat) : Int32 := ps (fun i => pW F N k i - F 12 (i * 20 + k)) 6
/-! what running a week writes, nothing of pay or charges reads -/
/-- the rows that the shifts' pay and charges read agree -/
def agr (F G : Nat → Nat → Int32) : Prop := F 0 = G 0 ∧ F 1 = G 1 ∧ F 2 = G 2 ∧ F 3 = G 3 ∧ F 4 = G 4 ∧ F 5 = G 5 ∧ F 6 = G 6 ∧ F 7 = G 7 ∧ F 8 = G 8 ∧ F 9 = G 9 ∧ F 10 = G 10 ∧ F 11 = G 11
theorem agr.rf (F : Nat → Nat → Int32) : agr F F := ⟨rfl, rfl, rfl, rfl, rfl, rfl, rfl, rfl, rfl, rfl, rfl, rfl⟩
theorem agr.up12 {F G : Nat → Nat → Int32} (h : agr F G) (j : Nat) (v : Int32) : agr (fUp F 12 j v) G := h
theorem agr.up13 {F G : Nat → Nat → Int32} (h : agr F G) (j : Nat) (v : Int32) : agr (fUp F 13 j v) G := h
theorem agr.wf {F G : Nat → Nat → Int32} {N : Nat} (h : agr F G) (hW : wf G N) : wf F N := by
  obtain ⟨-, -, -, -, -, -, -, h7, h8, h9, h10, h11⟩ := h
  obtain ⟨w1, w2, w3⟩ := hW
  refine ⟨w1, by rw [h7]; exact w2, fun i hi => ?_⟩
  rw [h8, h9, h10, h11]
  exact w3 i hi
theorem agr.wkdE {F G : Nat → Nat → Int32} (h : agr F G) (w t k : Int32) (n : Nat) : wkd F w t k n = wkd G w t k n := by
  obtain ⟨-, -, -, -, -, -, -, -, h8, h9, h10, h11⟩ := h
  induction n with
  | zero => rfl
  | succ n ih => unfold wkd; rw [ih, h8, h9, h10, h11]
theorem agr.day {F G : Nat → Nat → Int32} (h : agr F G) (i : Nat) : dayN F i = dayN G i := by
  unfold dayN; rw [h.2.2.2.2.2.2.2.2.2.2.1]
theorem agr.eqV {F G : Nat → Nat → Int32} (h : agr F G) (N : Nat) (w t : Int32) (k : Nat) : sEqV F N w t k = sEqV G N w t k := by
  unfold sEqV
  rw [h.2.2.2.2.2.2.1, show (fun j => wkd F w t (nI j) N) = (fun j => wkd G w t (nI j) N) from funext (fun j => h.wkdE _ _ _ _)]
theorem agr.step {F G : Nat → Nat → Int32} (h : agr F G) (one : Nat) (d : Int32) (i : Nat) (z : Int32 × Int32 × Int32) : ovStep F one d i z = ovStep G one d i z := by
  obtain ⟨-, -, -, -, -, -, -, -, h8, h9, h10, h11⟩ := h
  unfold ovStep ovT
  rw [h8, h10, h11]
theorem agr.dayL {F G : Nat → Nat → Int32} (h : agr F G) (one : Nat) (d : Int32) (z : Int32 × Int32 × Int32) (n : Nat) : ovDay F one d z n = ovDay G one d z n := by
  induction n with
  | zero => rfl
  | succ n ih => show ovStep F one d n (ovDay F one d z n) = ovStep G one d n (ovDay G one d z n); rw [ih, h.step]
theorem agr.wkL {F G : Nat → Nat → Int32} (h : agr F G) (N one d0 k : Nat) : ovWk F N one d0 k = ovWk G N one d0 k := by
  induction k with
  | zero => rfl
  | succ k ih =>
    show ((ovDay F one (nI (d0 + k)) ((ovWk F N one d0 k).1, 0, (ovWk F N one d0 k).2) N).1, (ovDay F one (nI (d0 + k)) ((ovWk F N one d0 k).1, 0, (ovWk F N one d0 k).2) N).2.2) = ((ovDay G one (nI (d0 + k)) ((ovWk G N one d0 k).1, 0, (ovWk G N one d0 k).2) N).1, (ovDay G one (nI (d0 + k)) ((ovWk G N one d0 k).1, 0, (ovWk G N one d0 k).2) N).2.2)
    rw [ih, h.dayL]
theorem agr.ov {F G : Nat → Nat → Int32} (h : agr F G) (N i : Nat) : sOv F N i = sOv G N i := by
  unfold sOv; rw [h.day, h.wkL]
theorem agr.py {F G : Nat → Nat → Int32} (h : agr F G) (N i : Nat) : sPy F N i = sPy G N i := by
  have h1 := h.ov N i
  have h2 := h.day i
  obtain ⟨g0, g1, -, -, -, g5, -, -, g8, g9, -, g11⟩ := id h
  unfold sPy sRt
  rw [h1, h2, h.eqV, g0, g1, g5, g8, g9, g11]
theorem agr.at' {F G : Nat → Nat → Int32} (h : agr F G) (t k : Int32) : tAt F t k = tAt G t k := by
  obtain ⟨-, -, -, -, -, -, -, -, h8, h9, h10, h11⟩ := h
  unfold tAt; rw [h9, h10, h11]
theorem agr.mg {F G : Nat → Nat → Int32} (h : agr F G) (N : Nat) (t k : Int32) : sMg F N t k = sMg G N t k := by
  have h1 := h.at' t k
  obtain ⟨-, -, g2, g3, g4, -⟩ := h
  unfold sMg; rw [h1, g2, g3, g4]
theorem agr.ch {F G : Nat → Nat → Int32} (h : agr F G) (N i : Nat) : sCh F N i = sCh G N i := by
  have h1 := h.py N i
  have h2 := h.mg N (G 9 i) (G 10 i / 7)
  obtain ⟨-, -, -, -, -, -, -, -, -, g9, g10, -⟩ := id h
  unfold sCh; rw [h1, g9, g10, h2]
theorem agr.pw {F G : Nat → Nat → Int32} (h : agr F G) (N : Nat) (w k : Int32) : tPw F N w k = tPw G N w k := by
  funext i
  have h1 := h.py N i
  obtain ⟨-, -, -, -, -, -, -, -, g8, g9, g10, -⟩ := id h
  unfold tPw; rw [h1, g8, g10]
theorem agr.ct {F G : Nat → Nat → Int32} (h : agr F G) (N : Nat) (t k : Int32) : tCt F N t k = tCt G N t k := by
  funext i
  have h1 := h.ch N i
  obtain ⟨-, -, -, -, -, -, -, -, g8, g9, g10, -⟩ := id h
  unfold tCt; rw [h1, g9, g10]
theorem runP_agr (F : Nat → Nat → Int32) (N k i : Nat) : agr (runP F N k i) F := by
  induction i with
  | zero => exact agr.rf F
  | succ i ih => exact ih.up12 _ _
theorem runB_agr (F : Nat → Nat → Int32) (N k i : Nat) : agr (runB F N k i) F := by
  induction i with
  | zero => exact runP_agr F N k 6
  | succ i ih => exact ih.up13 _ _
theorem runP_at (F : Nat → Nat → Int32) (N k i j : Nat) (h : i ≤ j) : runP F N k i 12 (j * 20 + k) = F 12 (j * 20 + k) := by
  induction i with
  | zero => rfl
  | succ i ih =>
    show upd (runP F N k i 12) (i * 20 + k) _ (j * 20 + k) = _
    rw [pk_un (by omega)]
    exact ih (by omega)
theorem runP_pay {F : Nat → Nat → Int32} {N k i : Nat} {w x : Int32} (ex : x = nI k) (j : Nat) (ew : w = nI j) : ps (tPw (runP F N k i) N w x) N = pW F N k j := by
  rw [(runP_agr F N k i).pw, ex, ew]; rfl
theorem runB_chg {F : Nat → Nat → Int32} {N k i : Nat} {t x : Int32} (ex : x = nI k) (j : Nat) (et : t = nI j) : ps (tCt (runB F N k i) N t x) N = cS F N k j := by
  rw [(runB_agr F N k i).ct, ex, et]; rfl

/-! PURE LEMMAS: the class' ways of computing against the reference's -/
def wksM (F : Nat → Nat → Int32) (w t : Int32) : Nat → Int32
  | 0 => 0
  | n + 1 => if F 8 n = w ∧ F 9 n = t ∧ 1 ≤ F 11 n then wksM F w t n ||| (1 <<< (F 10 n / 7 &&& 31)) else wksM F w t n
theorem wks_s (F : Nat → Nat → Int32) (w t : Int32) (n : Nat) : wksM F w t (n + 1) = if F 8 n = w ∧ F 9 n = t ∧ 1 ≤ F 11 n then wksM F w t n ||| (1 <<< (F 10 n / 7 &&& 31)) else wksM F w t n := rfl
theorem eqL_s (b : Nat → Bool) (gap : Int32) (k : Nat) (wo mi : Int32) : eqL b gap (k + 1) wo mi = if mi ≤ gap then (if b k = true then eqL b gap k (wo + 1) 0 else eqL b gap k wo (mi + 1)) else wo := rfl
abbrev ahT (F : Nat → Nat → Int32) (one j i : Nat) : Prop := (F 10 i < F 10 one ∨ (F 10 i = F 10 one ∧ nI i < nI one)) ∧ (F 8 i = F 8 one ∧ F 10 i / 7 = F 10 one / 7) ∧ dayN F i % 7 = j
def tAh (F : Nat → Nat → Int32) (one j : Nat) : Nat → Int32 := fun i => if ahT F one j i then F 11 i else 0
theorem i32_m1 (x : Int32) : x + Int32.ofInt (-1) = x - 1 := by rw [Int32.sub_eq_add_neg]; rfl
theorem z_upd {g : Nat → Int32} {i : Nat} (inv : ∀ j, j < i → g j = 0) : ∀ j, j < i + 1 → upd g i 0 j = 0 := by
  intro j h
  by_cases e : j = i
  · subst e; exact pk_us
  · exact (pk_un e).trans (inv j (by omega))
theorem ah_skip {F : Nat → Nat → Int32} {one i : Nat} {g : Nat → Int32} (inv : ∀ j, j < 7 → g j = ps (tAh F one j) i) (hn : ∀ j, ¬ ahT F one j i) : ∀ j, j < 7 → g j = ps (tAh F one j) (i + 1) := by
  intro j h
  rw [ps_s, inv j h]; unfold tAh; rw [if_neg (hn j), i32_a0]
theorem ah_upd {F : Nat → Nat → Int32} {one i : Nat} {g : Nat → Int32} (inv : ∀ j, j < 7 → g j = ps (tAh F one j) i) (hc : F 10 i < F 10 one ∨ (F 10 i = F 10 one ∧ nI i < nI one)) (hq : F 8 i = F 8 one ∧ F 10 i / 7 = F 10 one / 7) :
    ∀ j, j < 7 → upd g (dayN F i % 7) (g (dayN F i % 7) + F 11 i) j = ps (tAh F one j) (i + 1) := by
  intro j h
  rw [ps_s]
  by_cases e : j = dayN F i % 7
  · have h9 : tAh F one j i = F 11 i := if_pos ⟨hc, hq, e.symm⟩
    rw [h9, ← inv j h, e]; exact pk_us
  · have h9 : tAh F one j i = 0 := if_neg (fun z => e z.2.2.symm)
    rw [h9, i32_a0, ← inv j h]; exact pk_un e
theorem wks_bit {F : Nat → Nat → Int32} {N : Nat} (hW : wf F N) (w t : Int32) {k : Nat} (hk : k < 20) : ((wksM F w t N >>> (nI k &&& 31)) &&& 1 = 1) ↔ wkd F w t (nI k) N = true := by sorry
theorem ov_eq {F : Nat → Nat → Int32} {N one : Nat} (hW : wf F N) (h1 : one < N) {g : Nat → Int32} (hg : ∀ j, j < 7 → g j = ps (tAh F one j) N) {sd S own : Int32} (esd : sd = g (dayN F one % 7)) (eS : S = ps (fun i => if g i < 8 then g i else 8) 7) (eo : own = F 11 one) :
    own - (if (if 0 < 40 - S then 40 - S else 0) < ((if sd + own < 8 then sd + own else 8) - (if sd < 8 then sd else 8)) then (if 0 < 40 - S then 40 - S else 0) else ((if sd + own < 8 then sd + own else 8) - (if sd < 8 then sd else 8))) = sOv F N one := by sorry
theorem rem7 {F : Nat → Nat → Int32} {N i : Nat} (hW : wf F N) (h : i < N) : F 10 i - F 10 i / 7 * 7 = nI (dayN F i % 7) := by
  obtain ⟨h1, h2⟩ := hW.day h
  rw [h2]
  have e : dayN F i = (nI (dayN F i)).toNatClampNeg := (nI_clamp (by omega)).symm
  exact pk_rem (d := 7) (by omega) (by omega) (by omega)
theorem P_upd {D : va_G} {A : Nat → Prop} {H H1 : Heap} {w : va_W} {k b : Nat} {e0 e1 : va_E} (hP : va_P D vwCl w H) (hD : va_D A w) (hk : w[k]? = some (b, e0)) (h1 : va_at D vwCl (b, e1) H1) (hkeep : ∀ q : Nat, q < H.size → q ≠ b → H1[q]? = H[q]?) : va_P D vwCl (w.set k (b, e1)) H1 := by
  intro i z hz
  have hlt : k < w.length := (List.getElem?_eq_some_iff.mp hk).1
  by_cases hi : i = k
  · subst hi
    rw [List.getElem?_set_self hlt] at hz
    cases hz
    exact h1
  · rw [List.getElem?_set_ne (fun h => hi h.symm)] at hz
    exact (hP i z hz).kept (hkeep z.1 (hP i z hz).lt (fun h => hi (hD.1 i k z (b, e0) hz hk h)))

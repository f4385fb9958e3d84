/-! small lemmas for the reference's walks -/
def bI (b : Bool) : Int32 := if b = true then 1 else 0
theorem bI_t {x : Int32} {b : Bool} (e : x = bI b) (h : ¬ x = 0) : b = true := by
  cases b
  · exact absurd e h
  · rfl
theorem bI_f {x : Int32} {b : Bool} (e : x = bI b) (h : x = 0) : b = false := by
  cases b
  · rfl
  · rw [e] at h; exact absurd h (by decide)
theorem bI_01 {x : Int32} {b : Bool} (e : x = bI b) : x = 0 ∨ x = 1 := by
  cases b
  · exact Or.inl e
  · exact Or.inr e
theorem wk_t {F : Nat → Nat → Int32} {w t k : Int32} {n : Nat} (h : wkd F w t k n = true) : 1 = bI (wkd F w t k (n + 1)) := by
  unfold wkd; rw [h]; rfl
theorem wk_p {F : Nat → Nat → Int32} {w t k : Int32} {n : Nat} (h : F 8 n = w ∧ F 9 n = t ∧ F 10 n / 7 = k ∧ 0 < F 11 n) : 1 = bI (wkd F w t k (n + 1)) := by
  unfold wkd; rw [decide_eq_true h, Bool.or_true]; rfl
theorem wk_n {F : Nat → Nat → Int32} {w t k : Int32} {n : Nat} (h : wkd F w t k n = false) (hn : ¬ (F 8 n = w ∧ F 9 n = t ∧ F 10 n / 7 = k ∧ 0 < F 11 n)) : 0 = bI (wkd F w t k (n + 1)) := by
  unfold wkd; rw [h, decide_eq_false hn]; rfl
theorem ov_t3 {F : Nat → Nat → Int32} {one i : Nat} {d x3 x6 its : Int32} {z : Int32 × Int32 × Int32} (hc : ovT F one d i) (e3 : x3 = z.1) (e6 : x6 = z.2.1) (hi : its = ovIts x3 x6 (F 11 i)) :
    x3 + its = (ovStep F one d i z).1 ∧ x6 + F 11 i = (ovStep F one d i z).2.1 ∧ F 11 i - its = (ovStep F one d i z).2.2 := by
  have h9 : ovStep F one d i z = (z.1 + ovIts z.1 z.2.1 (F 11 i), z.2.1 + F 11 i, F 11 i - ovIts z.1 z.2.1 (F 11 i)) := if_pos hc
  rw [h9, hi, e3, e6]
  exact ⟨rfl, rfl, rfl⟩
theorem ov_f3 {F : Nat → Nat → Int32} {one i : Nat} {d x3 x6 x4 : Int32} {z : Int32 × Int32 × Int32} (hc : ¬ ovT F one d i) (e3 : x3 = z.1) (e6 : x6 = z.2.1) (e4 : x4 = z.2.2) :
    x3 = (ovStep F one d i z).1 ∧ x6 = (ovStep F one d i z).2.1 ∧ x4 = (ovStep F one d i z).2.2 := by
  have h9 : ovStep F one d i z = z := if_neg hc
  rw [h9]
  exact ⟨e3, e6, e4⟩
theorem br_gt {x : Int32} {D i : Nat} (e : x = nI D) (hD : D < 140) (hi : i ≤ D % 7 + 1) : x < nI (7 * (D / 7) + i) ↔ i = D % 7 + 1 := by
  rw [e, nI_ltI (by omega) (by omega)]; omega
theorem cI_cR {x : Int32} {n : Nat} {y z : Int32} (hy : y = nI (n + 1)) (hz : z = nI n) (hn : n ≤ 200) : cR x 0 z ↔ cI x y := by
  subst hy; subst hz
  constructor
  · intro h
    refine ⟨h.1, ?_⟩
    rcases pk_ix x (n := n + 1) (by omega) with h1 | h1 | ⟨j, hj, e⟩
    · exact absurd h1 h.1
    · have h2 : nI (n + 1) ≤ nI n := Int32.le_trans h1 h.2
      rw [nI_leI (by omega) (by omega)] at h2
      omega
    · subst e; exact (nI_ltI (by omega) (by omega)).mpr hj
  · intro h
    refine ⟨h.1, ?_⟩
    rcases pk_ix x (n := n + 1) (by omega) with h1 | h1 | ⟨j, hj, e⟩
    · exact absurd h1 h.1
    · exact absurd h.2 (Int32.not_lt.mpr h1)
    · subst e; exact (nI_leI (by omega) (by omega)).mpr (by omega)
theorem cI_cR0 {x : Int32} {N : Nat} {y : Int32} (hy : y = nI N) (hn : N ≤ 80) : cR x 0 (y - 1) ↔ cI x y := by
  cases N with
  | zero =>
    subst hy
    constructor
    · intro h; exact absurd (Int32.le_trans (Int32.not_lt.mp h.1) h.2) (by decide)
    · intro h; exact absurd h.2 h.1
  | succ n => exact cI_cR hy (by rw [hy]; exact nI_pred n) (by omega)
theorem i32_mul_add (a b c : Int32) : a * (b + c) = a * b + a * c := Int32.mul_add
theorem er_eq (F : Nat → Nat → Int32) (w : Int32) (n : Nat) : ps (tEr F w) n = 7 * ps (tHr F w) n := by
  induction n with
  | zero => rfl
  | succ n ih =>
    rw [ps_s, ps_s, ih, i32_mul_add]
    unfold tEr tHr
    by_cases h : F 8 n = w
    · rw [if_pos h, if_pos h]
    · rw [if_neg h, if_neg h]; rfl
theorem ifc {P Q : Prop} (dP : Decidable P) (dQ : Decidable Q) (h : P ↔ Q) : @ite Int32 P dP 1 0 = @ite Int32 Q dQ 1 0 := by
  by_cases z : P
  · rw [if_pos z, if_pos (h.mp z)]
  · rw [if_neg z, if_neg (fun y => z (h.mpr y))]
theorem i32_ss (a b : Int32) : a - (a - b) = b := by rw [Int32.sub_eq_iff_eq_add, Int32.add_comm, Int32.sub_add_cancel]
theorem left_up (F : Nat → Nat → Int32) (N j : Nat) (w m : Int32) : 7 * ps (tHr (fUp F 14 j (F 14 j + m)) w) N - fUp F 14 j (F 14 j + m) 14 j = 7 * ps (tHr F w) N - F 14 j - m := by
  have h1 : fUp F 14 j (F 14 j + m) 14 j = F 14 j + m := pk_us
  have h2 : tHr (fUp F 14 j (F 14 j + m)) w = tHr F w := rfl
  rw [h1, h2, Int32.sub_sub]
theorem wf_up14 {F : Nat → Nat → Int32} {N j : Nat} {v : Int32} (h : wf F N) : wf (fUp F 14 j v) N := h
/-- the holidays: taken is not more than earned, and both are small -/
def hol (F : Nat → Nat → Int32) (N : Nat) : Prop := ∀ j, j < 6 → ∃ t e : Nat, F 14 j = nI t ∧ 7 * ps (tHr F (nI j)) N = nI e ∧ t ≤ e ∧ e ≤ 8960
theorem nI_nn {n : Nat} (h : n < 2 ^ 31) : ¬ nI n < 0 := nI_pos h
theorem corr_iff {E T h1 h2 : Int32} {e t a b : Nat} (eE : E = nI e) (eT : T = nI t) (e1 : h1 = nI a) (e2 : h2 = nI b) (ht : t ≤ e) (he : e ≤ 8960) (ha : a ≤ 16) (hb : b ≤ 16) : T ≤ E + 7 * (h1 - h2) ↔ ¬ E - T + 7 * (h1 - h2) < 0 := by
  subst eE; subst eT; subst e1; subst e2
  rcases Nat.lt_or_ge a b with h | h
  · obtain ⟨d, rfl⟩ : ∃ d, b = a + d := ⟨b - a, by omega⟩
    have z1 : nI a - nI (a + d) = 0 - nI d := by
      rw [← nI_add, ← Int32.sub_sub, Int32.sub_self]
    have z2 : (7 : Int32) * (0 - nI d) = 0 - nI (7 * d) := by
      rw [Int32.mul_sub, show (7 : Int32) * 0 = 0 from rfl]
      exact congrArg (0 - ·) (pk_mul 7 d)
    have z3 : nI e + (0 - nI (7 * d)) = nI e - nI (7 * d) := by
      rw [Int32.sub_eq_add_neg 0, Int32.zero_add, ← Int32.sub_eq_add_neg]
    have z4 : nI e - nI t + (0 - nI (7 * d)) = nI (e - t) - nI (7 * d) := by
      rw [pk_sub ht, Int32.sub_eq_add_neg 0, Int32.zero_add, ← Int32.sub_eq_add_neg]
    rw [z1, z2, z3, z4, Int32.not_lt, Int32.le_iff_toInt_le, Int32.le_iff_toInt_le, pk_sub_toInt (by omega) (by omega), pk_sub_toInt (by omega) (by omega), nI_toInt (by omega), show (0 : Int32).toInt = 0 from rfl]
    omega
  · have z1 : nI a - nI b = nI (a - b) := pk_sub h
    have z2 : (7 : Int32) * nI (a - b) = nI (7 * (a - b)) := pk_mul 7 _
    rw [z1, z2, pk_sub ht, nI_add, nI_add]
    constructor
    · intro _; exact nI_nn (by omega)
    · intro _; exact nI_le (by omega) (by omega)

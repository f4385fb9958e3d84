/-! NUMBERS: overtime in natural numbers -/
def sN (f : Nat → Nat) : Nat → Nat
  | 0 => 0
  | n + 1 => sN f n + f n
theorem sN_s (f : Nat → Nat) (n : Nat) : sN f (n + 1) = sN f n + f n := rfl
theorem sN_congr {f g : Nat → Nat} {n : Nat} (h : ∀ i, i < n → f i = g i) : sN f n = sN g n := by
  induction n with
  | zero => rfl
  | succ n ih => rw [sN_s, sN_s, ih (fun i hi => h i (by omega)), h n (by omega)]
theorem sN_le {f : Nat → Nat} {c n : Nat} (h : ∀ i, i < n → f i ≤ c) : sN f n ≤ c * n := by
  induction n with
  | zero => exact Nat.zero_le _
  | succ n ih =>
    rw [sN_s, Nat.mul_succ]
    exact Nat.add_le_add (ih (fun i hi => h i (by omega))) (h n (by omega))
theorem sN_cut {f : Nat → Nat} {m n : Nat} (hm : m ≤ n) (h : ∀ i, m ≤ i → i < n → f i = 0) : sN f n = sN f m := by
  induction n with
  | zero => rw [Nat.le_zero.mp hm]
  | succ n ih =>
    rcases Nat.lt_or_ge n m with q | q
    · rw [show m = n + 1 by omega]
    · rw [sN_s, h n q (by omega), Nat.add_zero]
      exact ih q (fun i h1 h2 => h i h1 (by omega))
theorem ps_nI {f : Nat → Int32} {p : Nat → Nat} {n : Nat} (h : ∀ i, i < n → f i = nI (p i)) : ps f n = nI (sN p n) := by
  induction n with
  | zero => exact nI_0.symm
  | succ n ih => rw [ps_s, sN_s, ih (fun i hi => h i (by omega)), h n (by omega), nI_add]
theorem ps_congr {f g : Nat → Int32} {n : Nat} (h : ∀ i, i < n → f i = g i) : ps f n = ps g n := by
  induction n with
  | zero => rfl
  | succ n ih => rw [ps_s, ps_s, ih (fun i hi => h i (by omega)), h n (by omega)]
def hrN (F : Nat → Nat → Int32) (i : Nat) : Nat := (F 11 i).toNatClampNeg
def tD (F : Nat → Nat → Int32) (w : Int32) (d : Nat) : Nat → Nat := fun i => if F 8 i = w ∧ dayN F i = d then hrN F i else 0
/-- a worker's hours on day d among the first n shifts -/
def dhw (F : Nat → Nat → Int32) (w : Int32) (d n : Nat) : Nat := sN (tD F w d) n
theorem tD_le {F : Nat → Nat → Int32} {N : Nat} (hW : wf F N) (w : Int32) (d : Nat) {i : Nat} (hi : i < N) : tD F w d i ≤ 16 := by
  unfold tD
  by_cases h : F 8 i = w ∧ dayN F i = d
  · rw [if_pos h]; exact (hW.hrs hi).1
  · rw [if_neg h]; exact Nat.zero_le _
theorem dhw_le {F : Nat → Nat → Int32} {N : Nat} (hW : wf F N) (w : Int32) (d : Nat) {n : Nat} (hn : n ≤ N) : dhw F w d n ≤ 1280 := by
  have h1 : sN (tD F w d) n ≤ 16 * n := sN_le (fun i hi => tD_le hW w d (by omega))
  have h2 := hW.n
  unfold dhw; omega
theorem dhw_s (F : Nat → Nat → Int32) (w : Int32) (d n : Nat) : dhw F w d (n + 1) = dhw F w d n + tD F w d n := rfl
theorem iflt {x y : Nat} (hx : x < 2 ^ 31) (hy : y < 2 ^ 31) : (if nI x < nI y then nI x else nI y) = nI (min x y) := by
  by_cases h : x < y
  · rw [if_pos ((nI_ltI hx hy).mpr h), Nat.min_eq_left (by omega)]
  · rw [if_neg (fun z => h ((nI_ltI hx hy).mp z)), Nat.min_eq_right (by omega)]
theorem m8 {b : Nat} (hb : b ≤ 3000) : (if nI b < 8 then 8 - nI b else 0) = nI (8 - b) := by
  by_cases h : b < 8
  · rw [if_pos (show nI b < 8 from nI_lt (a := b) (b := 8) h (by omega))]; exact pk_sub (a := 8) (b := b) (by omega)
  · rw [if_neg (show ¬ nI b < 8 from nI_nlt (a := b) (b := 8) (by omega) (by omega)), show 8 - b = 0 by omega]; rfl
/-- of h hours: normal ones, behind a normal ones in the week and b on the day -/
def itsN (a b h : Nat) : Nat := min h (min (8 - b) (40 - a))
theorem its_nI {a b h : Nat} (ha : a ≤ 40) (hb : b ≤ 3000) (hh : h ≤ 16) : ovIts (nI a) (nI b) (nI h) = nI (itsN a b h) := by
  have e2 : (40 : Int32) - nI a = nI (40 - a) := pk_sub (a := 40) (b := a) ha
  unfold ovIts itsN
  rw [m8 hb, e2, iflt (by omega) (by omega), iflt (by omega) (by omega)]
theorem wf.hn {F : Nat → Nat → Int32} {N i : Nat} (h : wf F N) (hi : i < N) : F 11 i = nI (hrN F i) ∧ hrN F i ≤ 16 := ⟨(h.hrs hi).2, (h.hrs hi).1⟩
theorem wf.dayE {F : Nat → Nat → Int32} {N i d : Nat} (h : wf F N) (hi : i < N) (hd : d < 1000) : F 10 i = nI d ↔ dayN F i = d := by
  obtain ⟨h1, h2⟩ := h.day hi
  rw [h2, nI_eq (by omega) (by omega)]
/-- a day of the week's walk: what is normal and what came before -/
theorem day_inv {F : Nat → Nat → Int32} {N one d n0 : Nat} (hW : wf F N) (ho : one < N) (hn0 : n0 ≤ 40) (z : Int32) (hd : d ≤ dayN F one) :
    ∀ n, n ≤ N → (d < dayN F one ∨ n ≤ one) → (ovDay F one (nI d) (nI n0, 0, z) n).1 = nI (min 40 (n0 + min 8 (dhw F (F 8 one) d n))) ∧ (ovDay F one (nI d) (nI n0, 0, z) n).2.1 = nI (dhw F (F 8 one) d n) := by
  have hD := (hW.day ho).1
  intro n
  induction n with
  | zero =>
    intro _ _
    refine ⟨?_, rfl⟩
    show nI n0 = nI (min 40 (n0 + min 8 0))
    rw [show min 40 (n0 + min 8 0) = n0 by omega]
  | succ n ih =>
    intro hn hc
    obtain ⟨i1, i2⟩ := ih (by omega) (by omega)
    have hb := dhw_le hW (F 8 one) d (n := n) (by omega)
    obtain ⟨eh, hh⟩ := hW.hn (i := n) (by omega)
    show (ovStep F one (nI d) n (ovDay F one (nI d) (nI n0, 0, z) n)).1 = _ ∧ (ovStep F one (nI d) n (ovDay F one (nI d) (nI n0, 0, z) n)).2.1 = _
    rw [dhw_s]
    by_cases hq : F 8 n = F 8 one ∧ dayN F n = d
    · have hT : ovT F one (nI d) n := by
        refine ⟨hq.1, (hW.dayE (by omega) (by omega)).mpr hq.2, ?_⟩
        rcases hc with h | h
        · left; rw [(hW.day ho).2]; exact nI_lt h (by omega)
        · right; exact nI_le (by omega) (by have := hW.n; omega)
      have e9 : ovStep F one (nI d) n (ovDay F one (nI d) (nI n0, 0, z) n) = ((ovDay F one (nI d) (nI n0, 0, z) n).1 + ovIts (ovDay F one (nI d) (nI n0, 0, z) n).1 (ovDay F one (nI d) (nI n0, 0, z) n).2.1 (F 11 n), (ovDay F one (nI d) (nI n0, 0, z) n).2.1 + F 11 n, F 11 n - ovIts (ovDay F one (nI d) (nI n0, 0, z) n).1 (ovDay F one (nI d) (nI n0, 0, z) n).2.1 (F 11 n)) := if_pos hT
      have et : tD F (F 8 one) d n = hrN F n := if_pos hq
      rw [e9, i1, i2, eh, et, its_nI (by omega) (by omega) hh]
      refine ⟨?_, nI_add _ _⟩
      show nI _ + nI _ = _
      rw [nI_add]
      unfold itsN
      congr 1
      omega
    · have hT : ¬ ovT F one (nI d) n := fun h => hq ⟨h.1, (hW.dayE (by omega) (by omega)).mp h.2.1⟩
      have e9 : ovStep F one (nI d) n (ovDay F one (nI d) (nI n0, 0, z) n) = ovDay F one (nI d) (nI n0, 0, z) n := if_neg hT
      have et : tD F (F 8 one) d n = 0 := if_neg hq
      rw [e9, et]
      exact ⟨i1, i2⟩
/-- normal by day in the week's first r days -/
def wkS (F : Nat → Nat → Int32) (w : Int32) (N d0 r : Nat) : Nat := sN (fun j => min 8 (dhw F w (d0 + j) N)) r
theorem wk_inv {F : Nat → Nat → Int32} {N one d0 : Nat} (hW : wf F N) (ho : one < N) : ∀ k, d0 + k ≤ dayN F one → (ovWk F N one d0 k).1 = nI (min 40 (wkS F (F 8 one) N d0 k)) := by
  intro k
  induction k with
  | zero => intro _; rfl
  | succ k ih =>
    intro hk
    have h1 := ih (by omega)
    show (ovDay F one (nI (d0 + k)) ((ovWk F N one d0 k).1, 0, (ovWk F N one d0 k).2) N).1 = _
    rw [h1, (day_inv hW ho (Nat.min_le_left _ _) _ (by omega) N (Nat.le_refl _) (Or.inl (by omega))).1]
    unfold wkS
    rw [sN_s]
    congr 1
    omega
theorem day_tail {F : Nat → Nat → Int32} {N one : Nat} (hW : wf F N) (ho : one < N) (z : Int32 × Int32 × Int32) : ∀ n, one + 1 + n ≤ N → ovDay F one (F 10 one) z (one + 1 + n) = ovDay F one (F 10 one) z (one + 1) := by
  intro n
  induction n with
  | zero => intro _; rfl
  | succ n ih =>
    intro hn
    rw [← ih (by omega)]
    have h9 : ¬ ovT F one (F 10 one) (one + 1 + n) := by
      intro h
      rcases h.2.2 with q | q
      · exact absurd q Int32.lt_irrefl
      · have := hW.n
        have q2 := (nI_leI (a := one + 1 + n) (b := one) (by omega) (by omega)).mp q
        omega
    exact if_neg h9
/-- the reference's overtime in natural numbers -/
theorem sOv_nI {F : Nat → Nat → Int32} {N one : Nat} (hW : wf F N) (ho : one < N) :
    sOv F N one = nI (hrN F one - itsN (min 40 (wkS F (F 8 one) N (7 * (dayN F one / 7)) (dayN F one % 7) + min 8 (dhw F (F 8 one) (dayN F one) one))) (dhw F (F 8 one) (dayN F one) one) (hrN F one)) := by
  obtain ⟨hD, eD⟩ := hW.day ho
  obtain ⟨eh, hh⟩ := hW.hn ho
  have hb := dhw_le hW (F 8 one) (dayN F one) (n := one) (by omega)
  have hsum : 7 * (dayN F one / 7) + dayN F one % 7 = dayN F one := by omega
  unfold sOv
  show (ovDay F one (nI (7 * (dayN F one / 7) + dayN F one % 7)) ((ovWk F N one (7 * (dayN F one / 7)) (dayN F one % 7)).1, 0, (ovWk F N one (7 * (dayN F one / 7)) (dayN F one % 7)).2) N).2.2 = _
  rw [wk_inv hW ho _ (by omega), hsum]
  generalize (ovWk F N one (7 * (dayN F one / 7)) (dayN F one % 7)).2 = z
  generalize wkS F (F 8 one) N (7 * (dayN F one / 7)) (dayN F one % 7) = S
  obtain ⟨i1, i2⟩ := day_inv (n0 := min 40 S) hW ho (Nat.min_le_left _ _) z (Nat.le_refl _) one (by omega) (Or.inr (Nat.le_refl _))
  have hT : ovT F one (nI (dayN F one)) one := ⟨rfl, eD, Or.inr Int32.le_rfl⟩
  have e8 : ovDay F one (nI (dayN F one)) (nI (min 40 S), 0, z) N = ovDay F one (nI (dayN F one)) (nI (min 40 S), 0, z) (one + 1) := by
    rw [← eD]
    have h9 := day_tail hW ho (nI (min 40 S), 0, z) (N - (one + 1)) (by omega)
    rw [show one + 1 + (N - (one + 1)) = N by omega] at h9
    exact h9
  rw [e8]
  show (ovStep F one (nI (dayN F one)) one (ovDay F one (nI (dayN F one)) (nI (min 40 S), 0, z) one)).2.2 = _
  have e9 : ovStep F one (nI (dayN F one)) one (ovDay F one (nI (dayN F one)) (nI (min 40 S), 0, z) one) = ((ovDay F one (nI (dayN F one)) (nI (min 40 S), 0, z) one).1 + ovIts (ovDay F one (nI (dayN F one)) (nI (min 40 S), 0, z) one).1 (ovDay F one (nI (dayN F one)) (nI (min 40 S), 0, z) one).2.1 (F 11 one), (ovDay F one (nI (dayN F one)) (nI (min 40 S), 0, z) one).2.1 + F 11 one, F 11 one - ovIts (ovDay F one (nI (dayN F one)) (nI (min 40 S), 0, z) one).1 (ovDay F one (nI (dayN F one)) (nI (min 40 S), 0, z) one).2.1 (F 11 one)) := if_pos hT
  rw [e9, i1, i2, eh, its_nI (by omega) (by omega) hh]
  show nI _ - nI _ = _
  rw [pk_sub (by unfold itsN; omega)]
  congr 2
  unfold itsN
  omega

/-! HOUR BY HOUR: the class' payByHours against the pay of the shifts -/
def tDy (F : Nat → Nat → Int32) (N : Nat) (w : Int32) (d : Nat) : Nat → Int32 := fun q => if F 8 q = w ∧ F 10 q = nI d then sPy F N q else 0
theorem ps_add (a b : Nat → Int32) (n : Nat) : ps (fun j => a j + b j) n = ps a n + ps b n := by
  induction n with
  | zero => rfl
  | succ n ih =>
    rw [ps_s, ps_s, ps_s, ih]
    simp only [Int32.add_assoc]
    congr 1
    rw [← Int32.add_assoc, ← Int32.add_assoc, Int32.add_comm (ps b n)]
theorem ps_zero (n : Nat) : ps (fun _ => 0) n = 0 := by
  induction n with
  | zero => rfl
  | succ n ih => rw [ps_s, ih]; rfl
theorem ps_swap (f : Nat → Nat → Int32) (m n : Nat) : ps (fun j => ps (fun q => f j q) n) m = ps (fun q => ps (fun j => f j q) m) n := by
  induction n with
  | zero => exact ps_zero m
  | succ n ih =>
    rw [ps_s, ← ih]
    exact ps_add (fun j => ps (fun q => f j q) n) (fun j => f j n) m
theorem ps_one (v : Int32) (r : Nat) : ∀ n, ps (fun j => if j = r then v else 0) n = if r < n then v else 0 := by
  intro n
  induction n with
  | zero => rfl
  | succ n ih =>
    rw [ps_s, ih]
    rcases Nat.lt_trichotomy r n with q | q | q
    · rw [if_pos q, if_neg (by omega), if_pos (by omega), i32_a0]
    · rw [if_neg (by omega), if_pos q.symm, if_pos (by omega), Int32.zero_add]
    · rw [if_neg (by omega), if_neg (by omega), if_neg (by omega)]; rfl
theorem pbh_sum {F : Nat → Nat → Int32} {N K : Nat} (hW : wf F N) (hK : K < 20) (w : Int32) : ps (fun j => ps (tDy F N w (7 * K + j)) N) 7 = ps (tPw F N w (nI K)) N := by
  refine (ps_swap (fun j q => tDy F N w (7 * K + j) q) 7 N).trans (ps_congr (fun q hq => ?_))
  have hd := hW.day hq
  show ps (fun j => tDy F N w (7 * K + j) q) 7 = tPw F N w (nI K) q
  unfold tDy tPw
  by_cases h : F 8 q = w ∧ F 10 q / 7 = nI K
  · rw [if_pos h]
    have h7 : dayN F q / 7 = K := by
      have := h.2
      rw [hW.week hq, nI_eq (by omega) (by omega)] at this
      exact this
    have h9 := ps_one (sPy F N q) (dayN F q % 7) 7
    rw [if_pos (by omega)] at h9
    refine Eq.trans (ps_congr (g := fun j => if j = dayN F q % 7 then sPy F N q else 0) (fun j hj => ?_)) h9
    show (if F 8 q = w ∧ F 10 q = nI (7 * K + j) then sPy F N q else 0) = (if j = dayN F q % 7 then sPy F N q else 0)
    by_cases e : j = dayN F q % 7
    · rw [if_pos e, if_pos ⟨h.1, (hW.dayE hq (by omega)).mpr (by omega)⟩]
    · rw [if_neg e, if_neg (fun z => e (by have := (hW.dayE hq (by omega)).mp z.2; omega))]
  · rw [if_neg h]
    have h9 : ps (fun j => if F 8 q = w ∧ F 10 q = nI (7 * K + j) then sPy F N q else 0) 7 = ps (fun _ => 0) 7 := by
      refine ps_congr (fun j hj => if_neg (fun z => h ⟨z.1, ?_⟩))
      rw [hW.week hq, (hW.dayE hq (by omega)).mp z.2]
      congr 1
      omega
    rw [h9, ps_zero]
theorem mulc (c k : Nat) (rt : Int32) : nI c * rt + nI k * rt = nI (c + k) * rt := by rw [← nI_add, Int32.add_mul]
theorem hr_o {P0 b0 u : Nat} {v4 v7 v11 rt : Int32} (e4 : v4 = nI (P0 + itsN P0 b0 u)) (e7 : v7 = nI (b0 + u)) (e11 : v11 = nI (2 * itsN P0 b0 u + 3 * (u - itsN P0 b0 u)) * rt) (hP : P0 ≤ 40) (hb : b0 ≤ 1280) (hu : u ≤ 16) (hc : 8 ≤ v7 ∨ ¬ v4 < 40) :
    v4 = nI (P0 + itsN P0 b0 (u + 1)) ∧ v11 + 3 * rt = nI (2 * itsN P0 b0 (u + 1) + 3 * (u + 1 - itsN P0 b0 (u + 1))) * rt := by
  have h1 : itsN P0 b0 u ≤ u := Nat.min_le_left _ _
  have hs : itsN P0 b0 (u + 1) = itsN P0 b0 u := by
    rcases hc with h | h
    · rw [e7] at h
      have h2 : 8 ≤ b0 + u := (nI_leI (a := 8) (by omega) (by omega)).mp h
      unfold itsN; omega
    · rw [e4] at h
      have h2 : ¬ P0 + itsN P0 b0 u < 40 := fun z => h (nI_lt (b := 40) z (by omega))
      unfold itsN at h2 ⊢; omega
  rw [hs]
  refine ⟨e4, ?_⟩
  rw [e11, show u + 1 - itsN P0 b0 u = (u - itsN P0 b0 u) + 1 by omega]
  refine (mulc _ 3 rt).trans ?_
  congr 2
theorem hr_p {P0 b0 u : Nat} {v4 v7 v11 rt : Int32} (e4 : v4 = nI (P0 + itsN P0 b0 u)) (e7 : v7 = nI (b0 + u)) (e11 : v11 = nI (2 * itsN P0 b0 u + 3 * (u - itsN P0 b0 u)) * rt) (hP : P0 ≤ 40) (hb : b0 ≤ 1280) (hu : u ≤ 16) (h7 : ¬ 8 ≤ v7) (h4 : v4 < 40) :
    v4 + 1 = nI (P0 + itsN P0 b0 (u + 1)) ∧ v11 + 2 * rt = nI (2 * itsN P0 b0 (u + 1) + 3 * (u + 1 - itsN P0 b0 (u + 1))) * rt := by
  have h1 : itsN P0 b0 u ≤ u := Nat.min_le_left _ _
  have hs : itsN P0 b0 (u + 1) = itsN P0 b0 u + 1 := by
    rw [e7] at h7
    rw [e4] at h4
    have h2 : ¬ 8 ≤ b0 + u := fun z => h7 (nI_le (a := 8) z (by omega))
    have h3 : P0 + itsN P0 b0 u < 40 := (nI_ltI (b := 40) (by omega) (by omega)).mp h4
    unfold itsN at h3 ⊢; omega
  rw [hs]
  refine ⟨by rw [e4]; exact nI_1 _, ?_⟩
  rw [e11, show u + 1 - (itsN P0 b0 u + 1) = u - itsN P0 b0 u by omega]
  refine (mulc _ 2 rt).trans ?_
  congr 2
  omega
/-- the hours of one shift, gone through, are its pay -/
theorem hr_e {F : Nat → Nat → Int32} {N q K i : Nat} {w v11 rt : Int32} (hW : wf F N) (hq : q < N) (hi : i < 7) (ew : F 8 q = w) (ed : dayN F q = 7 * K + i)
    (ert : rt = (if F 5 0 ≤ sEqV F N w (F 9 q) K then F 1 (F 9 q).toNatClampNeg else F 0 (F 9 q).toNatClampNeg))
    (e11 : v11 = nI (2 * itsN (min 40 (wkS F w N (7 * K) i + min 8 (dhw F w (7 * K + i) q))) (dhw F w (7 * K + i) q) (hrN F q) + 3 * (hrN F q - itsN (min 40 (wkS F w N (7 * K) i + min 8 (dhw F w (7 * K + i) q))) (dhw F w (7 * K + i) q) (hrN F q))) * rt) :
    v11 / 2 = sPy F N q := by
  obtain ⟨eh, hh⟩ := hW.hn hq
  have e1 : dayN F q / 7 = K := by omega
  have e2 : dayN F q % 7 = i := by omega
  have h1 := sOv_nI hW hq
  rw [e1, e2, ed, ew] at h1
  have hp : itsN (min 40 (wkS F w N (7 * K) i + min 8 (dhw F w (7 * K + i) q))) (dhw F w (7 * K + i) q) (hrN F q) ≤ hrN F q := Nat.min_le_left _ _
  generalize itsN (min 40 (wkS F w N (7 * K) i + min 8 (dhw F w (7 * K + i) q))) (dhw F w (7 * K + i) q) (hrN F q) = p9 at *
  unfold sPy sRt
  rw [h1, e11, e1, ew, ← ert, eh]
  have z1 : nI (hrN F q) - nI (hrN F q - p9) = nI p9 := by rw [pk_sub (by omega)]; congr 1; omega
  have z2 : (2 : Int32) * nI p9 = nI (2 * p9) := pk_mul 2 p9
  have z3 : (3 : Int32) * nI (hrN F q - p9) = nI (3 * (hrN F q - p9)) := pk_mul 3 _
  rw [z1, z2, z3, nI_add]

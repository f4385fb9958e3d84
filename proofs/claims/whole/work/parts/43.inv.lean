/-! INVARIANTS: what every call keeps -/
def tHn (F : Nat → Nat → Int32) (j : Nat) : Nat → Nat := fun i => if F 8 i = nI j then hrN F i else 0
def hol2 (F : Nat → Nat → Int32) (N : Nat) : Prop := ∀ j, j < 6 → ∃ t : Nat, F 14 j = nI t ∧ t ≤ 7 * sN (tHn F j) N
theorem tHr_nI {F : Nat → Nat → Int32} {N : Nat} (hW : wf F N) (j : Nat) : ps (tHr F (nI j)) N = nI (sN (tHn F j) N) := by
  refine ps_nI (fun i hi => ?_)
  unfold tHr tHn
  by_cases h : F 8 i = nI j
  · rw [if_pos h, if_pos h]; exact (hW.hn hi).1
  · rw [if_neg h, if_neg h]; rfl
theorem tHn_le {F : Nat → Nat → Int32} {N : Nat} (hW : wf F N) (j : Nat) : sN (tHn F j) N ≤ 16 * N := by
  refine sN_le (fun i hi => ?_)
  unfold tHn
  by_cases h : F 8 i = nI j
  · rw [if_pos h]; exact (hW.hn hi).2
  · rw [if_neg h]; exact Nat.zero_le _
theorem hol2.hol {F : Nat → Nat → Int32} {N : Nat} (hW : wf F N) (h : hol2 F N) : hol F N := by
  intro j hj
  obtain ⟨t, h1, h2⟩ := h j hj
  have h3 := tHn_le hW j
  have h4 := hW.n
  exact ⟨t, 7 * sN (tHn F j) N, h1, by rw [tHr_nI hW]; exact pk_mul 7 _, h2, by omega⟩
theorem hol2_congr {F G : Nat → Nat → Int32} {N : Nat} (h8 : G 8 = F 8) (h11 : G 11 = F 11) (h14 : G 14 = F 14) (h : hol2 F N) : hol2 G N := by
  intro j hj
  obtain ⟨t, h1, h2⟩ := h j hj
  have e : tHn G j = tHn F j := by funext i; unfold tHn hrN; rw [h8, h11]
  exact ⟨t, by rw [h14]; exact h1, by rw [e]; exact h2⟩
theorem runP_14 (F : Nat → Nat → Int32) (N k i : Nat) : runP F N k i 14 = F 14 := by
  induction i with
  | zero => rfl
  | succ i ih => exact ih
theorem runB_14 (F : Nat → Nat → Int32) (N k i : Nat) : runB F N k i 14 = F 14 := by
  induction i with
  | zero => exact runP_14 F N k 6
  | succ i ih => exact ih
theorem cR_big {x a : Int32} {k : Nat} (ha : a = nI k) (hk : k ≤ 20000) (h1 : ¬ x < 0) (h2 : x ≤ a) : ∃ m, m ≤ k ∧ x = nI m := by
  subst ha
  rcases pk_ix x (n := k + 1) (by omega) with z | z | ⟨j, hj, e⟩
  · exact absurd z h1
  · have z2 : nI (k + 1) ≤ nI k := Int32.le_trans z h2
    rw [nI_leI (by omega) (by omega)] at z2
    omega
  · exact ⟨j, by omega, e⟩
theorem nn_of1 {x : Int32} (h : ¬ x < 1) : ¬ x < 0 := fun z => h (Int32.lt_trans z (by decide))
abbrev INV (G : Nat → Nat → Int32) : Prop := ∃ N', wf G N' ∧ hol2 G N'
theorem inv_rates {F : Nat → Nat → Int32} {N : Nat} (hW : wf F N) (hH : hol2 F N) (j : Nat) (x y : Int32) : INV (fUp (fUp F 0 j x) 1 j y) := ⟨N, hW, hol2_congr rfl rfl rfl hH⟩
theorem inv_margins {F : Nat → Nat → Int32} {N : Nat} (hW : wf F N) (hH : hol2 F N) (j : Nat) (x y z : Int32) : INV (fMargins F j x y z) := ⟨N, hW, hol2_congr rfl rfl rfl hH⟩
theorem inv_equal {F : Nat → Nat → Int32} {N : Nat} (hW : wf F N) (hH : hol2 F N) (x y : Int32) : INV (fUp (fUp F 5 0 x) 6 0 y) := ⟨N, hW, hol2_congr rfl rfl rfl hH⟩
theorem inv_run {F : Nat → Nat → Int32} {N : Nat} (hW : wf F N) (hH : hol2 F N) (k : Nat) : INV (runB F N k 4) :=
  ⟨N, (runB_agr F N k 4).wf hW, hol2_congr (runB_agr F N k 4).2.2.2.2.2.2.2.2.1 (runB_agr F N k 4).2.2.2.2.2.2.2.2.2.2.2 (runB_14 F N k 4) hH⟩
theorem sN_mono {f g : Nat → Nat} {n : Nat} (h : ∀ i, i < n → f i ≤ g i) : sN f n ≤ sN g n := by
  induction n with
  | zero => exact Nat.le_refl _
  | succ n ih => rw [sN_s, sN_s]; exact Nat.add_le_add (ih (fun i hi => h i (by omega))) (h n (by omega))
theorem inv_shift {F : Nat → Nat → Int32} {N : Nat} (hW : wf F N) (hH : hol2 F N) {w t d h : Int32} (h1 : cI w 6) (h2 : cI t 4) (h3 : cR d 0 139) (h4 : cR h 1 16) (h5 : F 7 0 < 80) : INV (fShift F N w t d h) := by
  have hN := hW.n
  have hN80 : N < 80 := (nI_ltI (a := N) (b := 80) (by omega) (by omega)).mp (by rw [← hW.c]; exact h5)
  obtain ⟨a1, a2⟩ := cI_of h1 (n := 6) rfl (by omega)
  obtain ⟨b1, b2⟩ := cI_of h2 (n := 4) rfl (by omega)
  obtain ⟨c1, c2⟩ := cR_of h3 (n := 139) rfl (by omega)
  obtain ⟨d1, d2⟩ := cR_of (x := h) (y := 16) ⟨nn_of1 h4.1, h4.2⟩ (n := 16) rfl (by omega)
  have e8 : fShift F N w t d h 8 = upd (F 8) N w := rfl
  have e9 : fShift F N w t d h 9 = upd (F 9) N t := rfl
  have e10 : fShift F N w t d h 10 = upd (F 10) N d := rfl
  have e11 : fShift F N w t d h 11 = upd (F 11) N h := rfl
  have e14 : fShift F N w t d h 14 = F 14 := rfl
  refine ⟨N + 1, ⟨by omega, ?_, fun i hi => ?_⟩, fun j hj => ?_⟩
  · show upd (F 7) 0 (F 7 0 + 1) 0 = _
    rw [pk_us, hW.c]; exact nI_1 N
  · rw [e8, e9, e10, e11]
    by_cases e : i = N
    · subst e
      rw [pk_us, pk_us, pk_us, pk_us]
      exact ⟨⟨_, a1, a2⟩, ⟨_, b1, b2⟩, ⟨_, by omega, c2⟩, ⟨_, by omega, d2⟩⟩
    · rw [pk_un e, pk_un e, pk_un e, pk_un e]
      exact hW.2.2 i (by omega)
  · obtain ⟨q, q1, q2⟩ := hH j hj
    refine ⟨q, by rw [e14]; exact q1, ?_⟩
    have hm : sN (tHn F j) N ≤ sN (tHn (fShift F N w t d h) j) N := by
      refine sN_mono (fun i hi => ?_)
      have z8 : fShift F N w t d h 8 i = F 8 i := pk_un (by omega)
      have z11 : fShift F N w t d h 11 i = F 11 i := pk_un (by omega)
      unfold tHn hrN
      rw [z8, z11]
      exact Nat.le_refl _
    rw [sN_s]
    omega
theorem sN_upd {f g : Nat → Nat} {J : Nat} (hne : ∀ i, i ≠ J → g i = f i) : ∀ n, J < n → sN g n + f J = sN f n + g J := by
  intro n
  induction n with
  | zero => intro h; omega
  | succ n ih =>
    intro h
    rw [sN_s, sN_s]
    by_cases e : J = n
    · subst e
      have h9 : sN g J = sN f J := sN_congr (fun i hi => hne i (by omega))
      omega
    · have := ih (by omega)
      rw [hne n (fun z => e z.symm)]
      omega
theorem inv_correct {F : Nat → Nat → Int32} {N : Nat} (hW : wf F N) (hH : hol2 F N) {x h : Int32} (h1 : cI x (F 7 0)) (h2 : cR h 0 16)
    (h4 : ¬ 7 * ps (tHr F (F 8 x.toNatClampNeg)) N - F 14 (F 8 x.toNatClampNeg).toNatClampNeg + 7 * (h - F 11 x.toNatClampNeg) < 0) : INV (fUp F 11 x.toNatClampNeg h) := by
  have hN := hW.n
  obtain ⟨a1, a2⟩ := cI_of h1 (n := N) hW.c (by omega)
  obtain ⟨d1, d2⟩ := cR_of h2 (n := 16) rfl (by omega)
  generalize x.toNatClampNeg = J at *
  obtain ⟨eh, hh⟩ := hW.hn a1
  obtain ⟨w1, w2⟩ := hW.wkr a1
  have e11 : fUp F 11 J h 11 = upd (F 11) J h := rfl
  have e8 : fUp F 11 J h 8 = F 8 := rfl
  have e14 : fUp F 11 J h 14 = F 14 := rfl
  refine ⟨N, ⟨hN, hW.c, fun i hi => ?_⟩, fun j hj => ?_⟩
  · obtain ⟨p1, p2, p3, p4⟩ := hW.2.2 i hi
    refine ⟨p1, p2, p3, ?_⟩
    rw [e11]
    by_cases e : i = J
    · rw [e, pk_us]; exact ⟨_, by omega, d2⟩
    · rw [pk_un e]; exact p4
  · obtain ⟨t, t1, t2⟩ := hH j hj
    refine ⟨t, by rw [e14]; exact t1, ?_⟩
    have hne : ∀ i, i ≠ J → tHn (fUp F 11 J h) j i = tHn F j i := by
      intro i hi
      unfold tHn hrN
      rw [e8, e11, pk_un hi]
    have hs := sN_upd hne N a1
    by_cases hw : F 8 J = nI j
    · have g1 : tHn F j J = hrN F J := if_pos hw
      have g2 : tHn (fUp F 11 J h) j J = h.toNatClampNeg := by
        unfold tHn hrN
        rw [e8, e11, pk_us, if_pos hw]
      rw [g1, g2] at hs
      have hjj : (F 8 J).toNatClampNeg = j := by rw [hw]; exact nI_clamp (by omega)
      rw [hjj, hw, tHr_nI hW, t1, eh] at h4
      have hb := tHn_le hW j
      generalize sN (tHn F j) N = S1 at *
      generalize sN (tHn (fUp F 11 J h) j) N = S2 at *
      generalize hrN F J = q at *
      rw [d2] at h4
      generalize h.toNatClampNeg = k at *
      rcases Nat.lt_or_ge (7 * S2) t with z | z
      · exfalso
        apply h4
        obtain ⟨r, rfl⟩ : ∃ r, q = k + r := ⟨q - k, by omega⟩
        have z1 : nI k - nI (k + r) = 0 - nI r := by rw [← nI_add, ← Int32.sub_sub, Int32.sub_self]
        have z2 : (7 : Int32) * (0 - nI r) = 0 - nI (7 * r) := by
          rw [Int32.mul_sub, show (7 : Int32) * 0 = 0 from rfl]
          exact congrArg (0 - ·) (pk_mul 7 r)
        have z3 : (7 : Int32) * nI S1 = nI (7 * S1) := pk_mul 7 _
        rw [z1, z2, z3, pk_sub t2, Int32.sub_eq_add_neg 0, Int32.zero_add, ← Int32.sub_eq_add_neg]
        exact pk_sneg (by omega) (by omega)
      · exact z
    · have g1 : tHn F j J = 0 := if_neg hw
      have g2 : tHn (fUp F 11 J h) j J = 0 := if_neg hw
      rw [g1, g2] at hs
      omega
theorem inv_take {F : Nat → Nat → Int32} {N : Nat} (hW : wf F N) (hH : hol2 F N) {x m : Int32} (h1 : cI x 6) (h2 : cR m 1 10000) (h3 : m ≤ 7 * ps (tHr F x) N - F 14 x.toNatClampNeg) : INV (fUp F 14 x.toNatClampNeg (F 14 x.toNatClampNeg + m)) := by
  obtain ⟨a1, a2⟩ := cI_of h1 (n := 6) rfl (by omega)
  obtain ⟨k, k1, k2⟩ := cR_big (a := 10000) (k := 10000) rfl (by omega) (nn_of1 h2.1) h2.2
  have hN := hW.n
  refine ⟨N, hW, fun j hj => ?_⟩
  obtain ⟨t, t1, t2⟩ := hH j hj
  have hs : tHn (fUp F 14 x.toNatClampNeg (F 14 x.toNatClampNeg + m)) j = tHn F j := rfl
  rw [hs]
  by_cases e : j = x.toNatClampNeg
  · subst e
    refine ⟨t + k, ?_, ?_⟩
    · show upd (F 14) x.toNatClampNeg (F 14 x.toNatClampNeg + m) x.toNatClampNeg = _
      rw [pk_us, t1, k2]; exact nI_add _ _
    · rw [t1] at h3
      have hx : ps (tHr F x) N = nI (sN (tHn F x.toNatClampNeg) N) := (congrArg (fun z => ps (tHr F z) N) a2).trans (tHr_nI hW _)
      have hb := tHn_le hW x.toNatClampNeg
      rw [hx, k2] at h3
      generalize sN (tHn F x.toNatClampNeg) N = S1 at *
      have z3 : (7 : Int32) * nI S1 = nI (7 * S1) := pk_mul 7 _
      rw [z3, pk_sub t2, nI_leI (by omega) (by omega)] at h3
      omega
  · refine ⟨t, ?_, t2⟩
    show upd (F 14) x.toNatClampNeg (F 14 x.toNatClampNeg + m) j = _
    rw [pk_un e]; exact t1
theorem inv_of {F G FO : Nat → Nat → Int32} {N : Nat} {K : Int32} (hW : wf F N) (hH : hol2 F N) (h0 : K = 0 → G = FO) (hn : K ≠ 0 → G = F) (hI : K = 0 → INV FO) : INV G := by
  by_cases h : K = 0
  · rw [h0 h]; exact hI h
  · rw [hn h]; exact ⟨N, hW, hH⟩
theorem F_same {K : Int32} {F FO G1 G2 : Nat → Nat → Int32} (h1 : K = 0 → G1 = FO) (h2 : K ≠ 0 → G1 = F) (h3 : K = 0 → G2 = FO) (h4 : K ≠ 0 → G2 = F) : G2 = G1 := by
  by_cases h : K = 0
  · rw [h1 h, h3 h]
  · rw [h2 h, h4 h]
theorem wf_0 : wf (F0s 4) 0 := ⟨by omega, rfl, fun i hi => absurd hi (Nat.not_lt_zero _)⟩
theorem hol_0 : hol2 (F0s 4) 0 := fun j _ => ⟨0, rfl, Nat.zero_le _⟩

/-! the law's own methods; by program (wip/whole/gen) -/
theorem kRates_r (z0 z1 z2 : Int32) : kRates z0 z1 z2 = 0 ∨ kRates z0 z1 z2 = 1 ∨ kRates z0 z1 z2 = 2 := by
  by_cases h1 : cI z0 4
  · skip
    by_cases h2 : cR z1 1 10000
    · skip
      by_cases h3 : cR z2 z1 10000
      · skip
        exact Or.inl (by rw [kRates, if_pos h1, if_pos h2, if_pos h3])
      · exact Or.inr (Or.inr ((by rw [kRates, if_pos h1, if_pos h2, if_neg h3])))
    · exact Or.inr (Or.inr ((by rw [kRates, if_pos h1, if_neg h2])))
  · exact Or.inr (Or.inl (by rw [kRates, if_neg h1]))
theorem kRates_0 (z0 z1 z2 : Int32) (h : kRates z0 z1 z2 = 0) : (cI z0 4) ∧ (cR z1 1 10000) ∧ (cR z2 z1 10000) := by
  by_cases h1 : cI z0 4
  · skip
    by_cases h2 : cR z1 1 10000
    · skip
      by_cases h3 : cR z2 z1 10000
      · skip
        exact ⟨h1, h2, h3⟩
      · rw [kRates, if_pos h1, if_pos h2, if_neg h3] at h; exact absurd h (by decide)
    · rw [kRates, if_pos h1, if_neg h2] at h; exact absurd h (by decide)
  · rw [kRates, if_neg h1] at h; exact absurd h (by decide)
theorem kMargins_r (z0 z1 z2 z3 : Int32) : kMargins z0 z1 z2 z3 = 0 ∨ kMargins z0 z1 z2 z3 = 1 ∨ kMargins z0 z1 z2 z3 = 2 := by
  by_cases h1 : cI z0 4
  · skip
    by_cases h2 : cR z1 0 100
    · skip
      by_cases h3 : cR z2 0 z1
      · skip
        by_cases h4 : cR z3 1 1000
        · skip
          exact Or.inl (by rw [kMargins, if_pos h1, if_pos h2, if_pos h3, if_pos h4])
        · exact Or.inr (Or.inr ((by rw [kMargins, if_pos h1, if_pos h2, if_pos h3, if_neg h4])))
      · exact Or.inr (Or.inr ((by rw [kMargins, if_pos h1, if_pos h2, if_neg h3])))
    · exact Or.inr (Or.inr ((by rw [kMargins, if_pos h1, if_neg h2])))
  · exact Or.inr (Or.inl (by rw [kMargins, if_neg h1]))
theorem kMargins_0 (z0 z1 z2 z3 : Int32) (h : kMargins z0 z1 z2 z3 = 0) : (cI z0 4) ∧ (cR z1 0 100) ∧ (cR z2 0 z1) ∧ (cR z3 1 1000) := by
  by_cases h1 : cI z0 4
  · skip
    by_cases h2 : cR z1 0 100
    · skip
      by_cases h3 : cR z2 0 z1
      · skip
        by_cases h4 : cR z3 1 1000
        · skip
          exact ⟨h1, h2, h3, h4⟩
        · rw [kMargins, if_pos h1, if_pos h2, if_pos h3, if_neg h4] at h; exact absurd h (by decide)
      · rw [kMargins, if_pos h1, if_pos h2, if_neg h3] at h; exact absurd h (by decide)
    · rw [kMargins, if_pos h1, if_neg h2] at h; exact absurd h (by decide)
  · rw [kMargins, if_neg h1] at h; exact absurd h (by decide)
theorem kEqual_r (z0 z1 : Int32) : kEqual z0 z1 = 0 ∨ kEqual z0 z1 = 1 := by
  by_cases h1 : cR z0 1 12
  · skip
    by_cases h2 : cR z1 0 6
    · skip
      exact Or.inl (by rw [kEqual, if_pos h1, if_pos h2])
    · exact Or.inr ((by rw [kEqual, if_pos h1, if_neg h2]))
  · exact Or.inr ((by rw [kEqual, if_neg h1]))
theorem kEqual_0 (z0 z1 : Int32) (h : kEqual z0 z1 = 0) : (cR z0 1 12) ∧ (cR z1 0 6) := by
  by_cases h1 : cR z0 1 12
  · skip
    by_cases h2 : cR z1 0 6
    · skip
      exact ⟨h1, h2⟩
    · rw [kEqual, if_pos h1, if_neg h2] at h; exact absurd h (by decide)
  · rw [kEqual, if_neg h1] at h; exact absurd h (by decide)
theorem kShift_r (F : Nat → Nat → Int32) (N : Nat) (z0 z1 z2 z3 : Int32) : kShift F N z0 z1 z2 z3 = 0 ∨ kShift F N z0 z1 z2 z3 = 1 ∨ kShift F N z0 z1 z2 z3 = 2 ∨ kShift F N z0 z1 z2 z3 = 3 := by
  by_cases h1 : cI z0 6
  · skip
    by_cases h2 : cI z1 4
    · skip
      by_cases h3 : cR z2 0 139
      · skip
        by_cases h4 : cR z3 1 16
        · skip
          by_cases h5 : F 7 0 < 80
          · skip
            by_cases h6 : ps (tOn F z0 z2) N + z3 ≤ 24
            · skip
              exact Or.inl (by rw [kShift, if_pos h1, if_pos h2, if_pos h3, if_pos h4, if_pos h5, if_pos h6])
            · exact Or.inr (Or.inr (Or.inr ((by rw [kShift, if_pos h1, if_pos h2, if_pos h3, if_pos h4, if_pos h5, if_neg h6]))))
          · exact Or.inr (Or.inr (Or.inr ((by rw [kShift, if_pos h1, if_pos h2, if_pos h3, if_pos h4, if_neg h5]))))
        · exact Or.inr (Or.inr (Or.inl (by rw [kShift, if_pos h1, if_pos h2, if_pos h3, if_neg h4])))
      · exact Or.inr (Or.inr (Or.inl (by rw [kShift, if_pos h1, if_pos h2, if_neg h3])))
    · exact Or.inr (Or.inl (by rw [kShift, if_pos h1, if_neg h2]))
  · exact Or.inr (Or.inl (by rw [kShift, if_neg h1]))
theorem kShift_0 (F : Nat → Nat → Int32) (N : Nat) (z0 z1 z2 z3 : Int32) (h : kShift F N z0 z1 z2 z3 = 0) : (cI z0 6) ∧ (cI z1 4) ∧ (cR z2 0 139) ∧ (cR z3 1 16) ∧ (F 7 0 < 80) ∧ (ps (tOn F z0 z2) N + z3 ≤ 24) := by
  by_cases h1 : cI z0 6
  · skip
    by_cases h2 : cI z1 4
    · skip
      by_cases h3 : cR z2 0 139
      · skip
        by_cases h4 : cR z3 1 16
        · skip
          by_cases h5 : F 7 0 < 80
          · skip
            by_cases h6 : ps (tOn F z0 z2) N + z3 ≤ 24
            · skip
              exact ⟨h1, h2, h3, h4, h5, h6⟩
            · rw [kShift, if_pos h1, if_pos h2, if_pos h3, if_pos h4, if_pos h5, if_neg h6] at h; exact absurd h (by decide)
          · rw [kShift, if_pos h1, if_pos h2, if_pos h3, if_pos h4, if_neg h5] at h; exact absurd h (by decide)
        · rw [kShift, if_pos h1, if_pos h2, if_pos h3, if_neg h4] at h; exact absurd h (by decide)
      · rw [kShift, if_pos h1, if_pos h2, if_neg h3] at h; exact absurd h (by decide)
    · rw [kShift, if_pos h1, if_neg h2] at h; exact absurd h (by decide)
  · rw [kShift, if_neg h1] at h; exact absurd h (by decide)
theorem kCorrect_r (F : Nat → Nat → Int32) (N : Nat) (z0 z1 : Int32) : kCorrect F N z0 z1 = 0 ∨ kCorrect F N z0 z1 = 1 ∨ kCorrect F N z0 z1 = 2 ∨ kCorrect F N z0 z1 = 3 := by
  by_cases h1 : cI z0 (F 7 0)
  · skip
    by_cases h2 : cR z1 0 16
    · skip
      by_cases h3 : ps (tOn F (F 8 z0.toNatClampNeg) (F 10 z0.toNatClampNeg)) N + (z1 - F 11 z0.toNatClampNeg) ≤ 24
      · skip
        by_cases h4 : ¬ 7 * ps (tHr F (F 8 z0.toNatClampNeg)) N - F 14 (F 8 z0.toNatClampNeg).toNatClampNeg + 7 * (z1 - F 11 z0.toNatClampNeg) < 0
        · skip
          exact Or.inl (by rw [kCorrect, if_pos h1, if_pos h2, if_pos h3, if_pos h4])
        · exact Or.inr (Or.inr (Or.inr ((by rw [kCorrect, if_pos h1, if_pos h2, if_pos h3, if_neg h4]))))
      · exact Or.inr (Or.inr (Or.inr ((by rw [kCorrect, if_pos h1, if_pos h2, if_neg h3]))))
    · exact Or.inr (Or.inr (Or.inl (by rw [kCorrect, if_pos h1, if_neg h2])))
  · exact Or.inr (Or.inl (by rw [kCorrect, if_neg h1]))
theorem kCorrect_0 (F : Nat → Nat → Int32) (N : Nat) (z0 z1 : Int32) (h : kCorrect F N z0 z1 = 0) : (cI z0 (F 7 0)) ∧ (cR z1 0 16) ∧ (ps (tOn F (F 8 z0.toNatClampNeg) (F 10 z0.toNatClampNeg)) N + (z1 - F 11 z0.toNatClampNeg) ≤ 24) ∧ (¬ 7 * ps (tHr F (F 8 z0.toNatClampNeg)) N - F 14 (F 8 z0.toNatClampNeg).toNatClampNeg + 7 * (z1 - F 11 z0.toNatClampNeg) < 0) := by
  by_cases h1 : cI z0 (F 7 0)
  · skip
    by_cases h2 : cR z1 0 16
    · skip
      by_cases h3 : ps (tOn F (F 8 z0.toNatClampNeg) (F 10 z0.toNatClampNeg)) N + (z1 - F 11 z0.toNatClampNeg) ≤ 24
      · skip
        by_cases h4 : ¬ 7 * ps (tHr F (F 8 z0.toNatClampNeg)) N - F 14 (F 8 z0.toNatClampNeg).toNatClampNeg + 7 * (z1 - F 11 z0.toNatClampNeg) < 0
        · skip
          exact ⟨h1, h2, h3, h4⟩
        · rw [kCorrect, if_pos h1, if_pos h2, if_pos h3, if_neg h4] at h; exact absurd h (by decide)
      · rw [kCorrect, if_pos h1, if_pos h2, if_neg h3] at h; exact absurd h (by decide)
    · rw [kCorrect, if_pos h1, if_neg h2] at h; exact absurd h (by decide)
  · rw [kCorrect, if_neg h1] at h; exact absurd h (by decide)
theorem kTake_r (F : Nat → Nat → Int32) (N : Nat) (z0 z1 : Int32) : kTake F N z0 z1 = 0 ∨ kTake F N z0 z1 = 1 ∨ kTake F N z0 z1 = 2 ∨ kTake F N z0 z1 = 3 := by
  by_cases h1 : cI z0 6
  · skip
    by_cases h2 : cR z1 1 10000
    · skip
      by_cases h3 : z1 ≤ 7 * ps (tHr F z0) N - F 14 z0.toNatClampNeg
      · skip
        exact Or.inl (by rw [kTake, if_pos h1, if_pos h2, if_pos h3])
      · exact Or.inr (Or.inr (Or.inr ((by rw [kTake, if_pos h1, if_pos h2, if_neg h3]))))
    · exact Or.inr (Or.inr (Or.inl (by rw [kTake, if_pos h1, if_neg h2])))
  · exact Or.inr (Or.inl (by rw [kTake, if_neg h1]))
theorem kTake_0 (F : Nat → Nat → Int32) (N : Nat) (z0 z1 : Int32) (h : kTake F N z0 z1 = 0) : (cI z0 6) ∧ (cR z1 1 10000) ∧ (z1 ≤ 7 * ps (tHr F z0) N - F 14 z0.toNatClampNeg) := by
  by_cases h1 : cI z0 6
  · skip
    by_cases h2 : cR z1 1 10000
    · skip
      by_cases h3 : z1 ≤ 7 * ps (tHr F z0) N - F 14 z0.toNatClampNeg
      · skip
        exact ⟨h1, h2, h3⟩
      · rw [kTake, if_pos h1, if_pos h2, if_neg h3] at h; exact absurd h (by decide)
    · rw [kTake, if_pos h1, if_neg h2] at h; exact absurd h (by decide)
  · rw [kTake, if_neg h1] at h; exact absurd h (by decide)
theorem kW_r (z0 : Int32) : kW z0 = 0 ∨ kW z0 = 1 := by
  by_cases h1 : cI z0 6
  · skip
    exact Or.inl (by rw [kW, if_pos h1])
  · exact Or.inr ((by rw [kW, if_neg h1]))
theorem kW_0 (z0 : Int32) (h : kW z0 = 0) : (cI z0 6) := by
  by_cases h1 : cI z0 6
  · skip
    exact h1
  · rw [kW, if_neg h1] at h; exact absurd h (by decide)
theorem kWW_r (z0 z1 : Int32) : kWW z0 z1 = 0 ∨ kWW z0 z1 = 1 := by
  by_cases h1 : cI z0 6
  · skip
    by_cases h2 : cI z1 20
    · skip
      exact Or.inl (by rw [kWW, if_pos h1, if_pos h2])
    · exact Or.inr ((by rw [kWW, if_pos h1, if_neg h2]))
  · exact Or.inr ((by rw [kWW, if_neg h1]))
theorem kWW_0 (z0 z1 : Int32) (h : kWW z0 z1 = 0) : (cI z0 6) ∧ (cI z1 20) := by
  by_cases h1 : cI z0 6
  · skip
    by_cases h2 : cI z1 20
    · skip
      exact ⟨h1, h2⟩
    · rw [kWW, if_pos h1, if_neg h2] at h; exact absurd h (by decide)
  · rw [kWW, if_neg h1] at h; exact absurd h (by decide)
theorem kSW_r (z0 z1 : Int32) : kSW z0 z1 = 0 ∨ kSW z0 z1 = 1 := by
  by_cases h1 : cI z0 4
  · skip
    by_cases h2 : cI z1 20
    · skip
      exact Or.inl (by rw [kSW, if_pos h1, if_pos h2])
    · exact Or.inr ((by rw [kSW, if_pos h1, if_neg h2]))
  · exact Or.inr ((by rw [kSW, if_neg h1]))
theorem kSW_0 (z0 z1 : Int32) (h : kSW z0 z1 = 0) : (cI z0 4) ∧ (cI z1 20) := by
  by_cases h1 : cI z0 4
  · skip
    by_cases h2 : cI z1 20
    · skip
      exact ⟨h1, h2⟩
    · rw [kSW, if_pos h1, if_neg h2] at h; exact absurd h (by decide)
  · rw [kSW, if_neg h1] at h; exact absurd h (by decide)
theorem kWSW_r (z0 z1 z2 : Int32) : kWSW z0 z1 z2 = 0 ∨ kWSW z0 z1 z2 = 1 := by
  by_cases h1 : cI z0 6
  · skip
    by_cases h2 : cI z1 4
    · skip
      by_cases h3 : cI z2 20
      · skip
        exact Or.inl (by rw [kWSW, if_pos h1, if_pos h2, if_pos h3])
      · exact Or.inr ((by rw [kWSW, if_pos h1, if_pos h2, if_neg h3]))
    · exact Or.inr ((by rw [kWSW, if_pos h1, if_neg h2]))
  · exact Or.inr ((by rw [kWSW, if_neg h1]))
theorem kWSW_0 (z0 z1 z2 : Int32) (h : kWSW z0 z1 z2 = 0) : (cI z0 6) ∧ (cI z1 4) ∧ (cI z2 20) := by
  by_cases h1 : cI z0 6
  · skip
    by_cases h2 : cI z1 4
    · skip
      by_cases h3 : cI z2 20
      · skip
        exact ⟨h1, h2, h3⟩
      · rw [kWSW, if_pos h1, if_pos h2, if_neg h3] at h; exact absurd h (by decide)
    · rw [kWSW, if_pos h1, if_neg h2] at h; exact absurd h (by decide)
  · rw [kWSW, if_neg h1] at h; exact absurd h (by decide)
theorem kSh_r (F : Nat → Nat → Int32) (z0 : Int32) : kSh F z0 = 0 ∨ kSh F z0 = 1 := by
  by_cases h1 : cI z0 (F 7 0)
  · skip
    exact Or.inl (by rw [kSh, if_pos h1])
  · exact Or.inr ((by rw [kSh, if_neg h1]))
theorem kSh_0 (F : Nat → Nat → Int32) (z0 : Int32) (h : kSh F z0 = 0) : (cI z0 (F 7 0)) := by
  by_cases h1 : cI z0 (F 7 0)
  · skip
    exact h1
  · rw [kSh, if_neg h1] at h; exact absurd h (by decide)
theorem kWk_r (z0 : Int32) : kWk z0 = 0 ∨ kWk z0 = 1 := by
  by_cases h1 : cI z0 20
  · skip
    exact Or.inl (by rw [kWk, if_pos h1])
  · exact Or.inr ((by rw [kWk, if_neg h1]))
theorem kWk_0 (z0 : Int32) (h : kWk z0 = 0) : (cI z0 20) := by
  by_cases h1 : cI z0 20
  · skip
    exact h1
  · rw [kWk, if_neg h1] at h; exact absurd h (by decide)
abbrev rmL_setRates : Room := { frames := 8, cells := 1, slots := 6, locals := 135 }
set_option maxHeartbeats 4000000 in
set_option maxRecDepth 100000 in
theorem c_L_setRates (l : Launch) (hl9 : l.stackTraces = false) (D : va_G) (cA cL : ClassId) (a : Nat → Nat) (F : Nat → Nat → Int32) (g : Nat → Int32) (N : Nat) (hW : wf F N) (z0 z1 z2 : Int32) : Lw l D cA cL (S := (Nat → Nat → Int32) × (Nat → Int32)) (wX a cA F g) (fun u => wX a cA u.1 u.2) yL_setRates wsL_setRates rmL_setRates [.ref (a 16), .int z0, .int z1, .int z2] (fun r u => r = kRates z0 z1 z2 ∧ (kRates z0 z1 z2 = 0 → u.1 = fUp (fUp F 0 z0.toNatClampNeg z1) 1 z0.toNatClampNeg z2) ∧ (kRates z0 z1 z2 ≠ 0 → u.1 = F)) := by
  refine Lw.of (cc := cL_setRates) (maxL := 5) (by decide) rfl (Nat.le_of_ble_eq_true rfl) ?_
  intro p e s m args below meth c ls A Q hx hb hts hown hml hK hP hD hA hS hl htab hZ hend
  have hown : s.vm.findClass RL = some m.cls := hown
  have hKA : KA D cA s := hK.sub [0] rfl
  have hl : lv_has ls 5 [(0, .ref (a 16)), (1, .int z0), (2, .int z1), (3, .int z2)] := hl
  rcases kRates_r z0 z1 z2 with hk | hk | hk
  · obtain ⟨h1, h2, h3⟩ := kRates_0 z0 z1 z2 hk
    refine lv_aload_n hx hb dL_setRates_0 rfl (lv_at hl 0 rfl) ?_
    refine lv_iload_n hx hb dL_setRates_1 rfl (lv_at hl 1 rfl) ?_
    refine lv_iload_n hx hb dL_setRates_2 rfl (lv_at hl 2 rfl) ?_
    refine lv_iload_n hx hb dL_setRates_3 rfl (lv_at hl 3 rfl) ?_
    refine Wv.callV (rest := []) (q0 := 0) (ci := 0) (wr := []) [0, 1, 2, 3, 4, 5, 6, 7, 8, 9, 10, 11, 12, 13] [] ⟨hx, hb, hml, hown, hts⟩ (c_X0_setRates l D cA a F g N hW z0 z1 z2 h1 h2 h3) (cwV 3 hts gL_setRates_X0_setRates rfl rfl rfl (by decide +kernel) ⟨Nat.le_of_ble_eq_true rfl, Nat.le_of_ble_eq_true rfl⟩) hKA hP hD hS hA rfl rfl (by decide) (by decide) (by decide) rfl rfl rfl rfl rfl hl.1 (Nat.le_of_ble_eq_true rfl) dL_setRates_4 ⟨Nat.zero_le _, Nat.zero_le _⟩ (fun u9 H locs hu9 hP hD hS => ?_)
    have hP : va_P D vwCl (wX a cA (fUp (fUp F 0 z0.toNatClampNeg z1) 1 z0.toNatClampNeg z2) g) H := hP
    have hD : va_D A (wX a cA (fUp (fUp F 0 z0.toNatClampNeg z1) 1 z0.toNatClampNeg z2) g) := hD
    refine lv_goto (tgt := 18) hx hb dL_setRates_7 (by decide) ?_
    refine lv_iconst (v := 0) hx hb dL_setRates_18 (by decide) ?_
    refine W.widen (k := 1) (n := 6) (Nat.zero_le _) (Nat.zero_le _) ?_
    exact hend 19 ls _ ((fUp (fUp F 0 z0.toNatClampNeg z1) 1 z0.toNatClampNeg z2), g) _ _ dL_setRates_19 hP hD hS ⟨hk.symm, fun _ => rfl, fun h => absurd hk h⟩
  · have hb9 : Bx l D cA (wX a cA F g) yX0_setRates wsX0_setRates rbX0_setRates [.ref (a 16), .int z0, .int z1, .int z2] eI := by have h9 := b_X0_setRates l D cA hl9 a F g N hW z0 z1 z2 (by rw [hk]; decide); rw [hk] at h9; exact h9
    refine lv_aload_n hx hb dL_setRates_0 rfl (lv_at hl 0 rfl) ?_
    refine lv_iload_n hx hb dL_setRates_1 rfl (lv_at hl 1 rfl) ?_
    refine lv_iload_n hx hb dL_setRates_2 rfl (lv_at hl 2 rfl) ?_
    refine lv_iload_n hx hb dL_setRates_3 rfl (lv_at hl 3 rfl) ?_
    refine Bx.catch (E := eI) (name := "java/lang/IndexOutOfBoundsException") (own := RL) (w := (wX a cA F g)) (vx_runV (rest := []) ⟨hx, hb, hml, hown, hts⟩ (hb9 s.heap.size) (cwV 3 hts gL_setRates_X0_setRates rfl rfl rfl (by decide +kernel) ⟨Nat.le_of_ble_eq_true rfl, Nat.le_of_ble_eq_true rfl⟩) ⟨(PreBx (As := [.ref (a 16), .int z0, .int z1, .int z2]) rfl hKA (hP.sub [0, 1, 2, 3, 4, 5, 6, 7, 8, 9, 10, 11, 12, 13] rfl : va_P D vwCl (wX a cA F g) s.heap) hZ.1).1, va_recv hKA (hP.sub [0, 1, 2, 3, 4, 5, 6, 7, 8, 9, 10, 11, 12, 13] rfl : va_P D vwCl (wX a cA F g) s.heap) (ci := 0) (q0 := 0) rfl rfl, (PreBx (As := [.ref (a 16), .int z0, .int z1, .int z2]) rfl hKA (hP.sub [0, 1, 2, 3, 4, 5, 6, 7, 8, 9, 10, 11, 12, 13] rfl : va_P D vwCl (wX a cA F g) s.heap) hZ.1).2⟩ rfl rfl hl.1 rfl (lv_room (Nat.le_of_ble_eq_true rfl)) dL_setRates_4 ⟨Nat.le_of_ble_eq_true rfl, Nat.le_of_ble_eq_true rfl⟩) (fun _ _ _ h => h) hown [] ⟨0, 7, 10, 13⟩ [⟨0, 7, 14, 15⟩] (htab.trans rfl) (fun z hz => nomatch hz) (by decide) (by decide) (hts (.classLink RL 13 "java/lang/IndexOutOfBoundsException") (by decide +kernel)) (va_Nw.use rfl hZ.1.2.2.2.2.2.1) hP hA (fun q9 H locs hP hS => ?_)
    refine lv_astore (lv' := [(4, .ref q9), (0, .ref (a 16)), (1, .int z0), (2, .int z1), (3, .int z2)]) hx hb dL_setRates_10 hl (by decide) rfl (fun ls hl => ?_)
    refine lv_iconst (v := 1) hx hb dL_setRates_12 (by decide) ?_
    exact hend 13 ls _ (F, g) _ _ dL_setRates_13 hP hD hS ⟨hk.symm, fun h => absurd (hk.symm.trans h) (by decide), fun _ => rfl⟩
  · have hb9 : Bx l D cA (wX a cA F g) yX0_setRates wsX0_setRates rbX0_setRates [.ref (a 16), .int z0, .int z1, .int z2] eA := by have h9 := b_X0_setRates l D cA hl9 a F g N hW z0 z1 z2 (by rw [hk]; decide); rw [hk] at h9; exact h9
    refine lv_aload_n hx hb dL_setRates_0 rfl (lv_at hl 0 rfl) ?_
    refine lv_iload_n hx hb dL_setRates_1 rfl (lv_at hl 1 rfl) ?_
    refine lv_iload_n hx hb dL_setRates_2 rfl (lv_at hl 2 rfl) ?_
    refine lv_iload_n hx hb dL_setRates_3 rfl (lv_at hl 3 rfl) ?_
    refine Bx.catch (E := eA) (name := "java/lang/IllegalArgumentException") (own := RL) (w := (wX a cA F g)) (vx_runV (rest := []) ⟨hx, hb, hml, hown, hts⟩ (hb9 s.heap.size) (cwV 3 hts gL_setRates_X0_setRates rfl rfl rfl (by decide +kernel) ⟨Nat.le_of_ble_eq_true rfl, Nat.le_of_ble_eq_true rfl⟩) ⟨(PreBx (As := [.ref (a 16), .int z0, .int z1, .int z2]) rfl hKA (hP.sub [0, 1, 2, 3, 4, 5, 6, 7, 8, 9, 10, 11, 12, 13] rfl : va_P D vwCl (wX a cA F g) s.heap) hZ.1).1, va_recv hKA (hP.sub [0, 1, 2, 3, 4, 5, 6, 7, 8, 9, 10, 11, 12, 13] rfl : va_P D vwCl (wX a cA F g) s.heap) (ci := 0) (q0 := 0) rfl rfl, (PreBx (As := [.ref (a 16), .int z0, .int z1, .int z2]) rfl hKA (hP.sub [0, 1, 2, 3, 4, 5, 6, 7, 8, 9, 10, 11, 12, 13] rfl : va_P D vwCl (wX a cA F g) s.heap) hZ.1).2⟩ rfl rfl hl.1 rfl (lv_room (Nat.le_of_ble_eq_true rfl)) dL_setRates_4 ⟨Nat.le_of_ble_eq_true rfl, Nat.le_of_ble_eq_true rfl⟩) (fun _ _ _ h => h) hown [⟨0, 7, 10, 13⟩] ⟨0, 7, 14, 15⟩ [] (htab.trans rfl) (fun z hz => by rcases List.mem_singleton.mp hz with rfl; exact Or.inr ⟨by decide, "java/lang/IndexOutOfBoundsException", hts (.classLink RL 13 "java/lang/IndexOutOfBoundsException") (by decide +kernel), hZ.2.1⟩) (by decide) (by decide) (hts (.classLink RL 15 "java/lang/IllegalArgumentException") (by decide +kernel)) (va_Nw.use rfl hZ.1.2.2.2.2.2.2.1) hP hA (fun q9 H locs hP hS => ?_)
    refine lv_astore (lv' := [(4, .ref q9), (0, .ref (a 16)), (1, .int z0), (2, .int z1), (3, .int z2)]) hx hb dL_setRates_14 hl (by decide) rfl (fun ls hl => ?_)
    refine lv_iconst (v := 2) hx hb dL_setRates_16 (by decide) ?_
    exact hend 17 ls _ (F, g) _ _ dL_setRates_17 hP hD hS ⟨hk.symm, fun h => absurd (hk.symm.trans h) (by decide), fun _ => rfl⟩

abbrev rmL_setMargins : Room := { frames := 8, cells := 1, slots := 6, locals := 136 }
set_option maxHeartbeats 4000000 in
set_option maxRecDepth 100000 in
theorem c_L_setMargins (l : Launch) (hl9 : l.stackTraces = false) (D : va_G) (cA cL : ClassId) (a : Nat → Nat) (F : Nat → Nat → Int32) (g : Nat → Int32) (N : Nat) (hW : wf F N) (z0 z1 z2 z3 : Int32) : Lw l D cA cL (S := (Nat → Nat → Int32) × (Nat → Int32)) (wX a cA F g) (fun u => wX a cA u.1 u.2) yL_setMargins wsL_setMargins rmL_setMargins [.ref (a 16), .int z0, .int z1, .int z2, .int z3] (fun r u => r = kMargins z0 z1 z2 z3 ∧ (kMargins z0 z1 z2 z3 = 0 → u.1 = fMargins F z0.toNatClampNeg z1 z2 z3) ∧ (kMargins z0 z1 z2 z3 ≠ 0 → u.1 = F)) := by
  refine Lw.of (cc := cL_setMargins) (maxL := 6) (by decide) rfl (Nat.le_of_ble_eq_true rfl) ?_
  intro p e s m args below meth c ls A Q hx hb hts hown hml hK hP hD hA hS hl htab hZ hend
  have hown : s.vm.findClass RL = some m.cls := hown
  have hKA : KA D cA s := hK.sub [0] rfl
  have hl : lv_has ls 6 [(0, .ref (a 16)), (1, .int z0), (2, .int z1), (3, .int z2), (4, .int z3)] := hl
  rcases kMargins_r z0 z1 z2 z3 with hk | hk | hk
  · obtain ⟨h1, h2, h3, h4⟩ := kMargins_0 z0 z1 z2 z3 hk
    refine lv_aload_n hx hb dL_setMargins_0 rfl (lv_at hl 0 rfl) ?_
    refine lv_iload_n hx hb dL_setMargins_1 rfl (lv_at hl 1 rfl) ?_
    refine lv_iload_n hx hb dL_setMargins_2 rfl (lv_at hl 2 rfl) ?_
    refine lv_iload_n hx hb dL_setMargins_3 rfl (lv_at hl 3 rfl) ?_
    refine lv_iload hx hb dL_setMargins_4 (lv_at hl 4 rfl) ?_
    refine Wv.callV (rest := []) (q0 := 0) (ci := 0) (wr := []) [0, 1, 2, 3, 4, 5, 6, 7, 8, 9, 10, 11, 12, 13] [] ⟨hx, hb, hml, hown, hts⟩ (c_X0_setMargins l D cA a F g N hW z0 z1 z2 z3 h1 h2 h3 h4) (cwV 4 hts gL_setMargins_X0_setMargins rfl rfl rfl (by decide +kernel) ⟨Nat.le_of_ble_eq_true rfl, Nat.le_of_ble_eq_true rfl⟩) hKA hP hD hS hA rfl rfl (by decide) (by decide) (by decide) rfl rfl rfl rfl rfl hl.1 (Nat.le_of_ble_eq_true rfl) dL_setMargins_6 ⟨Nat.zero_le _, Nat.zero_le _⟩ (fun u9 H locs hu9 hP hD hS => ?_)
    have hP : va_P D vwCl (wX a cA (fMargins F z0.toNatClampNeg z1 z2 z3) g) H := hP
    have hD : va_D A (wX a cA (fMargins F z0.toNatClampNeg z1 z2 z3) g) := hD
    refine lv_goto (tgt := 20) hx hb dL_setMargins_9 (by decide) ?_
    refine lv_iconst (v := 0) hx hb dL_setMargins_20 (by decide) ?_
    refine W.widen (k := 1) (n := 6) (Nat.zero_le _) (Nat.zero_le _) ?_
    exact hend 21 ls _ ((fMargins F z0.toNatClampNeg z1 z2 z3), g) _ _ dL_setMargins_21 hP hD hS ⟨hk.symm, fun _ => rfl, fun h => absurd hk h⟩
  · have hb9 : Bx l D cA (wX a cA F g) yX0_setMargins wsX0_setMargins rbX0_setMargins [.ref (a 16), .int z0, .int z1, .int z2, .int z3] eI := by have h9 := b_X0_setMargins l D cA hl9 a F g N hW z0 z1 z2 z3 (by rw [hk]; decide); rw [hk] at h9; exact h9
    refine lv_aload_n hx hb dL_setMargins_0 rfl (lv_at hl 0 rfl) ?_
    refine lv_iload_n hx hb dL_setMargins_1 rfl (lv_at hl 1 rfl) ?_
    refine lv_iload_n hx hb dL_setMargins_2 rfl (lv_at hl 2 rfl) ?_
    refine lv_iload_n hx hb dL_setMargins_3 rfl (lv_at hl 3 rfl) ?_
    refine lv_iload hx hb dL_setMargins_4 (lv_at hl 4 rfl) ?_
    refine Bx.catch (E := eI) (name := "java/lang/IndexOutOfBoundsException") (own := RL) (w := (wX a cA F g)) (vx_runV (rest := []) ⟨hx, hb, hml, hown, hts⟩ (hb9 s.heap.size) (cwV 4 hts gL_setMargins_X0_setMargins rfl rfl rfl (by decide +kernel) ⟨Nat.le_of_ble_eq_true rfl, Nat.le_of_ble_eq_true rfl⟩) ⟨(PreBx (As := [.ref (a 16), .int z0, .int z1, .int z2, .int z3]) rfl hKA (hP.sub [0, 1, 2, 3, 4, 5, 6, 7, 8, 9, 10, 11, 12, 13] rfl : va_P D vwCl (wX a cA F g) s.heap) hZ.1).1, va_recv hKA (hP.sub [0, 1, 2, 3, 4, 5, 6, 7, 8, 9, 10, 11, 12, 13] rfl : va_P D vwCl (wX a cA F g) s.heap) (ci := 0) (q0 := 0) rfl rfl, (PreBx (As := [.ref (a 16), .int z0, .int z1, .int z2, .int z3]) rfl hKA (hP.sub [0, 1, 2, 3, 4, 5, 6, 7, 8, 9, 10, 11, 12, 13] rfl : va_P D vwCl (wX a cA F g) s.heap) hZ.1).2⟩ rfl rfl hl.1 rfl (lv_room (Nat.le_of_ble_eq_true rfl)) dL_setMargins_6 ⟨Nat.le_of_ble_eq_true rfl, Nat.le_of_ble_eq_true rfl⟩) (fun _ _ _ h => h) hown [] ⟨0, 9, 12, 13⟩ [⟨0, 9, 16, 15⟩] (htab.trans rfl) (fun z hz => nomatch hz) (by decide) (by decide) (hts (.classLink RL 13 "java/lang/IndexOutOfBoundsException") (by decide +kernel)) (va_Nw.use rfl hZ.1.2.2.2.2.2.1) hP hA (fun q9 H locs hP hS => ?_)
    refine lv_astore (lv' := [(5, .ref q9), (0, .ref (a 16)), (1, .int z0), (2, .int z1), (3, .int z2), (4, .int z3)]) hx hb dL_setMargins_12 hl (by decide) rfl (fun ls hl => ?_)
    refine lv_iconst (v := 1) hx hb dL_setMargins_14 (by decide) ?_
    exact hend 15 ls _ (F, g) _ _ dL_setMargins_15 hP hD hS ⟨hk.symm, fun h => absurd (hk.symm.trans h) (by decide), fun _ => rfl⟩
  · have hb9 : Bx l D cA (wX a cA F g) yX0_setMargins wsX0_setMargins rbX0_setMargins [.ref (a 16), .int z0, .int z1, .int z2, .int z3] eA := by have h9 := b_X0_setMargins l D cA hl9 a F g N hW z0 z1 z2 z3 (by rw [hk]; decide); rw [hk] at h9; exact h9
    refine lv_aload_n hx hb dL_setMargins_0 rfl (lv_at hl 0 rfl) ?_
    refine lv_iload_n hx hb dL_setMargins_1 rfl (lv_at hl 1 rfl) ?_
    refine lv_iload_n hx hb dL_setMargins_2 rfl (lv_at hl 2 rfl) ?_
    refine lv_iload_n hx hb dL_setMargins_3 rfl (lv_at hl 3 rfl) ?_
    refine lv_iload hx hb dL_setMargins_4 (lv_at hl 4 rfl) ?_
    refine Bx.catch (E := eA) (name := "java/lang/IllegalArgumentException") (own := RL) (w := (wX a cA F g)) (vx_runV (rest := []) ⟨hx, hb, hml, hown, hts⟩ (hb9 s.heap.size) (cwV 4 hts gL_setMargins_X0_setMargins rfl rfl rfl (by decide +kernel) ⟨Nat.le_of_ble_eq_true rfl, Nat.le_of_ble_eq_true rfl⟩) ⟨(PreBx (As := [.ref (a 16), .int z0, .int z1, .int z2, .int z3]) rfl hKA (hP.sub [0, 1, 2, 3, 4, 5, 6, 7, 8, 9, 10, 11, 12, 13] rfl : va_P D vwCl (wX a cA F g) s.heap) hZ.1).1, va_recv hKA (hP.sub [0, 1, 2, 3, 4, 5, 6, 7, 8, 9, 10, 11, 12, 13] rfl : va_P D vwCl (wX a cA F g) s.heap) (ci := 0) (q0 := 0) rfl rfl, (PreBx (As := [.ref (a 16), .int z0, .int z1, .int z2, .int z3]) rfl hKA (hP.sub [0, 1, 2, 3, 4, 5, 6, 7, 8, 9, 10, 11, 12, 13] rfl : va_P D vwCl (wX a cA F g) s.heap) hZ.1).2⟩ rfl rfl hl.1 rfl (lv_room (Nat.le_of_ble_eq_true rfl)) dL_setMargins_6 ⟨Nat.le_of_ble_eq_true rfl, Nat.le_of_ble_eq_true rfl⟩) (fun _ _ _ h => h) hown [⟨0, 9, 12, 13⟩] ⟨0, 9, 16, 15⟩ [] (htab.trans rfl) (fun z hz => by rcases List.mem_singleton.mp hz with rfl; exact Or.inr ⟨by decide, "java/lang/IndexOutOfBoundsException", hts (.classLink RL 13 "java/lang/IndexOutOfBoundsException") (by decide +kernel), hZ.2.1⟩) (by decide) (by decide) (hts (.classLink RL 15 "java/lang/IllegalArgumentException") (by decide +kernel)) (va_Nw.use rfl hZ.1.2.2.2.2.2.2.1) hP hA (fun q9 H locs hP hS => ?_)
    refine lv_astore (lv' := [(5, .ref q9), (0, .ref (a 16)), (1, .int z0), (2, .int z1), (3, .int z2), (4, .int z3)]) hx hb dL_setMargins_16 hl (by decide) rfl (fun ls hl => ?_)
    refine lv_iconst (v := 2) hx hb dL_setMargins_18 (by decide) ?_
    exact hend 19 ls _ (F, g) _ _ dL_setMargins_19 hP hD hS ⟨hk.symm, fun h => absurd (hk.symm.trans h) (by decide), fun _ => rfl⟩

abbrev rmL_setEqual : Room := { frames := 8, cells := 1, slots := 6, locals := 134 }
set_option maxHeartbeats 4000000 in
set_option maxRecDepth 100000 in
theorem c_L_setEqual (l : Launch) (hl9 : l.stackTraces = false) (D : va_G) (cA cL : ClassId) (a : Nat → Nat) (F : Nat → Nat → Int32) (g : Nat → Int32) (N : Nat) (hW : wf F N) (z0 z1 : Int32) : Lw l D cA cL (S := (Nat → Nat → Int32) × (Nat → Int32)) (wX a cA F g) (fun u => wX a cA u.1 u.2) yL_setEqual wsL_setEqual rmL_setEqual [.ref (a 16), .int z0, .int z1] (fun r u => r = kEqual z0 z1 ∧ (kEqual z0 z1 = 0 → u.1 = fUp (fUp F 5 0 z0) 6 0 z1) ∧ (kEqual z0 z1 ≠ 0 → u.1 = F)) := by
  refine Lw.of (cc := cL_setEqual) (maxL := 4) (by decide) rfl (Nat.le_of_ble_eq_true rfl) ?_
  intro p e s m args below meth c ls A Q hx hb hts hown hml hK hP hD hA hS hl htab hZ hend
  have hown : s.vm.findClass RL = some m.cls := hown
  have hKA : KA D cA s := hK.sub [0] rfl
  have hl : lv_has ls 4 [(0, .ref (a 16)), (1, .int z0), (2, .int z1)] := hl
  rcases kEqual_r z0 z1 with hk | hk
  · obtain ⟨h1, h2⟩ := kEqual_0 z0 z1 hk
    refine lv_aload_n hx hb dL_setEqual_0 rfl (lv_at hl 0 rfl) ?_
    refine lv_iload_n hx hb dL_setEqual_1 rfl (lv_at hl 1 rfl) ?_
    refine lv_iload_n hx hb dL_setEqual_2 rfl (lv_at hl 2 rfl) ?_
    refine Wv.callV (rest := []) (q0 := 0) (ci := 0) (wr := []) [0, 1, 2, 3, 4, 5, 6, 7, 8, 9, 10, 11, 12, 13] [] ⟨hx, hb, hml, hown, hts⟩ (c_X0_setEqual l D cA a F g N hW z0 z1 h1 h2) (cwV 2 hts gL_setEqual_X0_setEqual rfl rfl rfl (by decide +kernel) ⟨Nat.le_of_ble_eq_true rfl, Nat.le_of_ble_eq_true rfl⟩) hKA hP hD hS hA rfl rfl (by decide) (by decide) (by decide) rfl rfl rfl rfl rfl hl.1 (Nat.le_of_ble_eq_true rfl) dL_setEqual_3 ⟨Nat.zero_le _, Nat.zero_le _⟩ (fun u9 H locs hu9 hP hD hS => ?_)
    have hP : va_P D vwCl (wX a cA (fUp (fUp F 5 0 z0) 6 0 z1) g) H := hP
    have hD : va_D A (wX a cA (fUp (fUp F 5 0 z0) 6 0 z1) g) := hD
    refine lv_goto (tgt := 12) hx hb dL_setEqual_6 (by decide) ?_
    refine lv_iconst (v := 0) hx hb dL_setEqual_12 (by decide) ?_
    refine W.widen (k := 1) (n := 6) (Nat.zero_le _) (Nat.zero_le _) ?_
    exact hend 13 ls _ ((fUp (fUp F 5 0 z0) 6 0 z1), g) _ _ dL_setEqual_13 hP hD hS ⟨hk.symm, fun _ => rfl, fun h => absurd hk h⟩
  · have hb9 : Bx l D cA (wX a cA F g) yX0_setEqual wsX0_setEqual rbX0_setEqual [.ref (a 16), .int z0, .int z1] eA := by have h9 := b_X0_setEqual l D cA hl9 a F g N hW z0 z1 (by rw [hk]; decide); rw [hk] at h9; exact h9
    refine lv_aload_n hx hb dL_setEqual_0 rfl (lv_at hl 0 rfl) ?_
    refine lv_iload_n hx hb dL_setEqual_1 rfl (lv_at hl 1 rfl) ?_
    refine lv_iload_n hx hb dL_setEqual_2 rfl (lv_at hl 2 rfl) ?_
    refine Bx.catch (E := eA) (name := "java/lang/IllegalArgumentException") (own := RL) (w := (wX a cA F g)) (vx_runV (rest := []) ⟨hx, hb, hml, hown, hts⟩ (hb9 s.heap.size) (cwV 2 hts gL_setEqual_X0_setEqual rfl rfl rfl (by decide +kernel) ⟨Nat.le_of_ble_eq_true rfl, Nat.le_of_ble_eq_true rfl⟩) ⟨(PreBx (As := [.ref (a 16), .int z0, .int z1]) rfl hKA (hP.sub [0, 1, 2, 3, 4, 5, 6, 7, 8, 9, 10, 11, 12, 13] rfl : va_P D vwCl (wX a cA F g) s.heap) hZ.1).1, va_recv hKA (hP.sub [0, 1, 2, 3, 4, 5, 6, 7, 8, 9, 10, 11, 12, 13] rfl : va_P D vwCl (wX a cA F g) s.heap) (ci := 0) (q0 := 0) rfl rfl, (PreBx (As := [.ref (a 16), .int z0, .int z1]) rfl hKA (hP.sub [0, 1, 2, 3, 4, 5, 6, 7, 8, 9, 10, 11, 12, 13] rfl : va_P D vwCl (wX a cA F g) s.heap) hZ.1).2⟩ rfl rfl hl.1 rfl (lv_room (Nat.le_of_ble_eq_true rfl)) dL_setEqual_3 ⟨Nat.le_of_ble_eq_true rfl, Nat.le_of_ble_eq_true rfl⟩) (fun _ _ _ h => h) hown [] ⟨0, 6, 9, 15⟩ [] (htab.trans rfl) (fun z hz => nomatch hz) (by decide) (by decide) (hts (.classLink RL 15 "java/lang/IllegalArgumentException") (by decide +kernel)) (va_Nw.use rfl hZ.1.2.2.2.2.2.2.1) hP hA (fun q9 H locs hP hS => ?_)
    refine lv_astore_n (lv' := [(3, .ref q9), (0, .ref (a 16)), (1, .int z0), (2, .int z1)]) hx hb dL_setEqual_9 rfl hl (by decide) rfl (fun ls hl => ?_)
    refine lv_iconst (v := 1) hx hb dL_setEqual_10 (by decide) ?_
    exact hend 11 ls _ (F, g) _ _ dL_setEqual_11 hP hD hS ⟨hk.symm, fun h => absurd (hk.symm.trans h) (by decide), fun _ => rfl⟩

abbrev rmL_shift : Room := { frames := 8, cells := 1, slots := 6, locals := 137 }
set_option maxHeartbeats 4000000 in
set_option maxRecDepth 100000 in
theorem c_L_shift (l : Launch) (hl9 : l.stackTraces = false) (D : va_G) (cA cL : ClassId) (a : Nat → Nat) (F : Nat → Nat → Int32) (g : Nat → Int32) (ob : Nat) (fo : Nat → Int64) (N : Nat) (hW : wf F N) (z0 z1 z2 z3 : Int32) : Lw l D cA cL (S := (Nat → Nat → Int32) × (Nat → Int32) × (Nat → Int64)) (wL a cA F g ob cL fo) (fun u => wL a cA u.1 u.2.1 ob cL u.2.2) yL_shift wsL_shift rmL_shift [.ref (a 16), .int z0, .int z1, .int z2, .int z3, .ref ob] (fun r u => r = kShift F N z0 z1 z2 z3 ∧ (kShift F N z0 z1 z2 z3 = 0 → u.1 = fShift F N z0 z1 z2 z3 ∧ u.2.2 0 = (F 7 0 : Int32).toInt64) ∧ (kShift F N z0 z1 z2 z3 ≠ 0 → u.1 = F)) := by
  refine Lw.of (cc := cL_shift) (maxL := 7) (by decide) rfl (Nat.le_of_ble_eq_true rfl) ?_
  intro p e s m args below meth c ls A Q hx hb hts hown hml hK hP hD hA hS hl htab hZ hend
  have hown : s.vm.findClass RL = some m.cls := hown
  have hKA : KA D cA s := hK.sub [0] rfl
  have hl : lv_has ls 7 [(0, .ref (a 16)), (1, .int z0), (2, .int z1), (3, .int z2), (4, .int z3), (5, .ref ob)] := hl
  rcases kShift_r F N z0 z1 z2 z3 with hk | hk | hk | hk
  · obtain ⟨h1, h2, h3, h4, h5, h6⟩ := kShift_0 F N z0 z1 z2 z3 hk
    refine lv_aload hx hb dL_shift_0 (lv_at hl 5 rfl) ?_
    refine lv_iconst (v := 0) hx hb dL_shift_2 (by decide) ?_
    refine lv_aload_n hx hb dL_shift_3 rfl (lv_at hl 0 rfl) ?_
    refine lv_iload_n hx hb dL_shift_4 rfl (lv_at hl 1 rfl) ?_
    refine lv_iload_n hx hb dL_shift_5 rfl (lv_at hl 2 rfl) ?_
    refine lv_iload_n hx hb dL_shift_6 rfl (lv_at hl 3 rfl) ?_
    refine lv_iload hx hb dL_shift_7 (lv_at hl 4 rfl) ?_
    refine Wi.callV (rest := [.int 0, .ref ob]) (q0 := 0) (ci := 0) (wr := wO ob cL fo) [0, 1, 2, 3, 4, 5, 6, 7, 8, 9, 10, 11, 12, 13] [14] ⟨hx, hb, hml, hown, hts⟩ (c_X0_shift l D cA a F g N hW z0 z1 z2 z3 h1 h2 h3 h4 h5 h6) (cwV 4 hts gL_shift_X0_shift rfl rfl rfl (by decide +kernel) ⟨Nat.le_of_ble_eq_true rfl, Nat.le_of_ble_eq_true rfl⟩) hKA hP hD hS hA rfl rfl (by decide) (by decide) (by decide) rfl rfl rfl rfl rfl hl.1 (Nat.le_of_ble_eq_true rfl) dL_shift_9 ⟨Nat.zero_le _, Nat.zero_le _⟩ (fun r9 u9 H locs hu9 hP hD hS => ?_)
    have hP : va_P D vwCl (wL a cA (fShift F N z0 z1 z2 z3) g ob cL fo) H := hP.sub [1, 2, 3, 4, 5, 6, 7, 8, 9, 10, 11, 12, 13, 14, 0] rfl
    have hD : va_D A (wL a cA (fShift F N z0 z1 z2 z3) g ob cL fo) := hD.sub [1, 2, 3, 4, 5, 6, 7, 8, 9, 10, 11, 12, 13, 14, 0] (by decide) rfl
    have hu9 : r9 = F 7 0 := hu9
    refine lv_i2l (v := (r9 : Int32).toInt64) hx hb dL_shift_12 rfl ?_
    refine va_last hx hb hK hP hD hS 14 1 rfl rfl (vp_in_nI (n := 0) (N := 1) (by decide) (by decide)) dL_shift_13 (fun H locs hP hD hS => ?_)
    have hP : va_P D vwCl (wL a cA (fShift F N z0 z1 z2 z3) g ob cL (vp_updL fo 0 ((r9 : Int32).toInt64))) H := hP
    have hD : va_D A (wL a cA (fShift F N z0 z1 z2 z3) g ob cL (vp_updL fo 0 ((r9 : Int32).toInt64))) := hD
    refine lv_goto (tgt := 29) hx hb dL_shift_14 (by decide) ?_
    refine lv_iconst (v := 0) hx hb dL_shift_29 (by decide) ?_
    refine W.widen (k := 1) (n := 6) (Nat.zero_le _) (Nat.zero_le _) ?_
    exact hend 30 ls _ ((fShift F N z0 z1 z2 z3), g, (vp_updL fo 0 ((r9 : Int32).toInt64))) _ _ dL_shift_30 hP hD hS ⟨hk.symm, fun _ => ⟨rfl, by show (r9 : Int32).toInt64 = _; rw [hu9]⟩, fun h => absurd hk h⟩
  · have hb9 : Bx l D cA (wX a cA F g) yX0_shift wsX0_shift rbX0_shift [.ref (a 16), .int z0, .int z1, .int z2, .int z3] eI := by have h9 := b_X0_shift l D cA hl9 a F g N hW z0 z1 z2 z3 (by rw [hk]; decide); rw [hk] at h9; exact h9
    refine lv_aload hx hb dL_shift_0 (lv_at hl 5 rfl) ?_
    refine lv_iconst (v := 0) hx hb dL_shift_2 (by decide) ?_
    refine lv_aload_n hx hb dL_shift_3 rfl (lv_at hl 0 rfl) ?_
    refine lv_iload_n hx hb dL_shift_4 rfl (lv_at hl 1 rfl) ?_
    refine lv_iload_n hx hb dL_shift_5 rfl (lv_at hl 2 rfl) ?_
    refine lv_iload_n hx hb dL_shift_6 rfl (lv_at hl 3 rfl) ?_
    refine lv_iload hx hb dL_shift_7 (lv_at hl 4 rfl) ?_
    refine Bx.catch (E := eI) (name := "java/lang/IndexOutOfBoundsException") (own := RL) (w := (wL a cA F g ob cL fo)) (vx_runV (rest := [.int 0, .ref ob]) ⟨hx, hb, hml, hown, hts⟩ (hb9 s.heap.size) (cwV 4 hts gL_shift_X0_shift rfl rfl rfl (by decide +kernel) ⟨Nat.le_of_ble_eq_true rfl, Nat.le_of_ble_eq_true rfl⟩) ⟨(PreBx (As := [.ref (a 16), .int z0, .int z1, .int z2, .int z3]) rfl hKA (hP.sub [0, 1, 2, 3, 4, 5, 6, 7, 8, 9, 10, 11, 12, 13] rfl : va_P D vwCl (wX a cA F g) s.heap) hZ.1).1, va_recv hKA (hP.sub [0, 1, 2, 3, 4, 5, 6, 7, 8, 9, 10, 11, 12, 13] rfl : va_P D vwCl (wX a cA F g) s.heap) (ci := 0) (q0 := 0) rfl rfl, (PreBx (As := [.ref (a 16), .int z0, .int z1, .int z2, .int z3]) rfl hKA (hP.sub [0, 1, 2, 3, 4, 5, 6, 7, 8, 9, 10, 11, 12, 13] rfl : va_P D vwCl (wX a cA F g) s.heap) hZ.1).2⟩ rfl rfl hl.1 rfl (lv_room (Nat.le_of_ble_eq_true rfl)) dL_shift_9 ⟨Nat.le_of_ble_eq_true rfl, Nat.le_of_ble_eq_true rfl⟩) (fun _ _ _ h => h) hown [] ⟨0, 14, 17, 13⟩ [⟨0, 14, 21, 15⟩, ⟨0, 14, 25, 29⟩] (htab.trans rfl) (fun z hz => nomatch hz) (by decide) (by decide) (hts (.classLink RL 13 "java/lang/IndexOutOfBoundsException") (by decide +kernel)) (va_Nw.use rfl hZ.1.2.2.2.2.2.1) hP hA (fun q9 H locs hP hS => ?_)
    refine lv_astore (lv' := [(6, .ref q9), (0, .ref (a 16)), (1, .int z0), (2, .int z1), (3, .int z2), (4, .int z3), (5, .ref ob)]) hx hb dL_shift_17 hl (by decide) rfl (fun ls hl => ?_)
    refine lv_iconst (v := 1) hx hb dL_shift_19 (by decide) ?_
    exact hend 20 ls _ (F, g, fo) _ _ dL_shift_20 hP hD hS ⟨hk.symm, fun h => absurd (hk.symm.trans h) (by decide), fun _ => rfl⟩
  · have hb9 : Bx l D cA (wX a cA F g) yX0_shift wsX0_shift rbX0_shift [.ref (a 16), .int z0, .int z1, .int z2, .int z3] eA := by have h9 := b_X0_shift l D cA hl9 a F g N hW z0 z1 z2 z3 (by rw [hk]; decide); rw [hk] at h9; exact h9
    refine lv_aload hx hb dL_shift_0 (lv_at hl 5 rfl) ?_
    refine lv_iconst (v := 0) hx hb dL_shift_2 (by decide) ?_
    refine lv_aload_n hx hb dL_shift_3 rfl (lv_at hl 0 rfl) ?_
    refine lv_iload_n hx hb dL_shift_4 rfl (lv_at hl 1 rfl) ?_
    refine lv_iload_n hx hb dL_shift_5 rfl (lv_at hl 2 rfl) ?_
    refine lv_iload_n hx hb dL_shift_6 rfl (lv_at hl 3 rfl) ?_
    refine lv_iload hx hb dL_shift_7 (lv_at hl 4 rfl) ?_
    refine Bx.catch (E := eA) (name := "java/lang/IllegalArgumentException") (own := RL) (w := (wL a cA F g ob cL fo)) (vx_runV (rest := [.int 0, .ref ob]) ⟨hx, hb, hml, hown, hts⟩ (hb9 s.heap.size) (cwV 4 hts gL_shift_X0_shift rfl rfl rfl (by decide +kernel) ⟨Nat.le_of_ble_eq_true rfl, Nat.le_of_ble_eq_true rfl⟩) ⟨(PreBx (As := [.ref (a 16), .int z0, .int z1, .int z2, .int z3]) rfl hKA (hP.sub [0, 1, 2, 3, 4, 5, 6, 7, 8, 9, 10, 11, 12, 13] rfl : va_P D vwCl (wX a cA F g) s.heap) hZ.1).1, va_recv hKA (hP.sub [0, 1, 2, 3, 4, 5, 6, 7, 8, 9, 10, 11, 12, 13] rfl : va_P D vwCl (wX a cA F g) s.heap) (ci := 0) (q0 := 0) rfl rfl, (PreBx (As := [.ref (a 16), .int z0, .int z1, .int z2, .int z3]) rfl hKA (hP.sub [0, 1, 2, 3, 4, 5, 6, 7, 8, 9, 10, 11, 12, 13] rfl : va_P D vwCl (wX a cA F g) s.heap) hZ.1).2⟩ rfl rfl hl.1 rfl (lv_room (Nat.le_of_ble_eq_true rfl)) dL_shift_9 ⟨Nat.le_of_ble_eq_true rfl, Nat.le_of_ble_eq_true rfl⟩) (fun _ _ _ h => h) hown [⟨0, 14, 17, 13⟩] ⟨0, 14, 21, 15⟩ [⟨0, 14, 25, 29⟩] (htab.trans rfl) (fun z hz => by rcases List.mem_singleton.mp hz with rfl; exact Or.inr ⟨by decide, "java/lang/IndexOutOfBoundsException", hts (.classLink RL 13 "java/lang/IndexOutOfBoundsException") (by decide +kernel), hZ.2.1⟩) (by decide) (by decide) (hts (.classLink RL 15 "java/lang/IllegalArgumentException") (by decide +kernel)) (va_Nw.use rfl hZ.1.2.2.2.2.2.2.1) hP hA (fun q9 H locs hP hS => ?_)
    refine lv_astore (lv' := [(6, .ref q9), (0, .ref (a 16)), (1, .int z0), (2, .int z1), (3, .int z2), (4, .int z3), (5, .ref ob)]) hx hb dL_shift_21 hl (by decide) rfl (fun ls hl => ?_)
    refine lv_iconst (v := 2) hx hb dL_shift_23 (by decide) ?_
    exact hend 24 ls _ (F, g, fo) _ _ dL_shift_24 hP hD hS ⟨hk.symm, fun h => absurd (hk.symm.trans h) (by decide), fun _ => rfl⟩
  · have hb9 : Bx l D cA (wX a cA F g) yX0_shift wsX0_shift rbX0_shift [.ref (a 16), .int z0, .int z1, .int z2, .int z3] eS := by have h9 := b_X0_shift l D cA hl9 a F g N hW z0 z1 z2 z3 (by rw [hk]; decide); rw [hk] at h9; exact h9
    refine lv_aload hx hb dL_shift_0 (lv_at hl 5 rfl) ?_
    refine lv_iconst (v := 0) hx hb dL_shift_2 (by decide) ?_
    refine lv_aload_n hx hb dL_shift_3 rfl (lv_at hl 0 rfl) ?_
    refine lv_iload_n hx hb dL_shift_4 rfl (lv_at hl 1 rfl) ?_
    refine lv_iload_n hx hb dL_shift_5 rfl (lv_at hl 2 rfl) ?_
    refine lv_iload_n hx hb dL_shift_6 rfl (lv_at hl 3 rfl) ?_
    refine lv_iload hx hb dL_shift_7 (lv_at hl 4 rfl) ?_
    refine Bx.catch (E := eS) (name := "java/lang/IllegalStateException") (own := RL) (w := (wL a cA F g ob cL fo)) (vx_runV (rest := [.int 0, .ref ob]) ⟨hx, hb, hml, hown, hts⟩ (hb9 s.heap.size) (cwV 4 hts gL_shift_X0_shift rfl rfl rfl (by decide +kernel) ⟨Nat.le_of_ble_eq_true rfl, Nat.le_of_ble_eq_true rfl⟩) ⟨(PreBx (As := [.ref (a 16), .int z0, .int z1, .int z2, .int z3]) rfl hKA (hP.sub [0, 1, 2, 3, 4, 5, 6, 7, 8, 9, 10, 11, 12, 13] rfl : va_P D vwCl (wX a cA F g) s.heap) hZ.1).1, va_recv hKA (hP.sub [0, 1, 2, 3, 4, 5, 6, 7, 8, 9, 10, 11, 12, 13] rfl : va_P D vwCl (wX a cA F g) s.heap) (ci := 0) (q0 := 0) rfl rfl, (PreBx (As := [.ref (a 16), .int z0, .int z1, .int z2, .int z3]) rfl hKA (hP.sub [0, 1, 2, 3, 4, 5, 6, 7, 8, 9, 10, 11, 12, 13] rfl : va_P D vwCl (wX a cA F g) s.heap) hZ.1).2⟩ rfl rfl hl.1 rfl (lv_room (Nat.le_of_ble_eq_true rfl)) dL_shift_9 ⟨Nat.le_of_ble_eq_true rfl, Nat.le_of_ble_eq_true rfl⟩) (fun _ _ _ h => h) hown [⟨0, 14, 17, 13⟩, ⟨0, 14, 21, 15⟩] ⟨0, 14, 25, 29⟩ [] (htab.trans rfl) (fun z hz => (List.mem_cons.mp hz).elim (fun h9 => by subst h9; exact Or.inr ⟨by decide, "java/lang/IndexOutOfBoundsException", hts (.classLink RL 13 "java/lang/IndexOutOfBoundsException") (by decide +kernel), hZ.2.2.1⟩) (fun h9 => by rcases List.mem_singleton.mp h9 with rfl; exact Or.inr ⟨by decide, "java/lang/IllegalArgumentException", hts (.classLink RL 15 "java/lang/IllegalArgumentException") (by decide +kernel), hZ.2.2.2⟩)) (by decide) (by decide) (hts (.classLink RL 29 "java/lang/IllegalStateException") (by decide +kernel)) (va_Nw.use rfl hZ.1.2.2.2.2.2.2.2.1) hP hA (fun q9 H locs hP hS => ?_)
    refine lv_astore (lv' := [(6, .ref q9), (0, .ref (a 16)), (1, .int z0), (2, .int z1), (3, .int z2), (4, .int z3), (5, .ref ob)]) hx hb dL_shift_25 hl (by decide) rfl (fun ls hl => ?_)
    refine lv_iconst (v := 3) hx hb dL_shift_27 (by decide) ?_
    exact hend 28 ls _ (F, g, fo) _ _ dL_shift_28 hP hD hS ⟨hk.symm, fun h => absurd (hk.symm.trans h) (by decide), fun _ => rfl⟩

abbrev rmL_correct : Room := { frames := 8, cells := 1, slots := 6, locals := 137 }
set_option maxHeartbeats 4000000 in
set_option maxRecDepth 100000 in
theorem c_L_correct (l : Launch) (hl9 : l.stackTraces = false) (D : va_G) (cA cL : ClassId) (a : Nat → Nat) (F : Nat → Nat → Int32) (g : Nat → Int32) (ob : Nat) (fo : Nat → Int64) (N : Nat) (hW : wf F N) (z0 z1 : Int32) : Lw l D cA cL (S := (Nat → Nat → Int32) × (Nat → Int32) × (Nat → Int64)) (wL a cA F g ob cL fo) (fun u => wL a cA u.1 u.2.1 ob cL u.2.2) yL_correct wsL_correct rmL_correct [.ref (a 16), .int z0, .int z1, .ref ob] (fun r u => r = kCorrect F N z0 z1 ∧ (kCorrect F N z0 z1 = 0 → u.1 = fUp F 11 z0.toNatClampNeg z1 ∧ u.2.2 0 = (F 11 z0.toNatClampNeg : Int32).toInt64) ∧ (kCorrect F N z0 z1 ≠ 0 → u.1 = F)) := by
  refine Lw.of (cc := cL_correct) (maxL := 5) (by decide) rfl (Nat.le_of_ble_eq_true rfl) ?_
  intro p e s m args below meth c ls A Q hx hb hts hown hml hK hP hD hA hS hl htab hZ hend
  have hown : s.vm.findClass RL = some m.cls := hown
  have hKA : KA D cA s := hK.sub [0] rfl
  have hl : lv_has ls 5 [(0, .ref (a 16)), (1, .int z0), (2, .int z1), (3, .ref ob)] := hl
  rcases kCorrect_r F N z0 z1 with hk | hk | hk | hk
  · obtain ⟨h1, h2, h3, h4⟩ := kCorrect_0 F N z0 z1 hk
    refine lv_aload_n hx hb dL_correct_0 rfl (lv_at hl 3 rfl) ?_
    refine lv_iconst (v := 0) hx hb dL_correct_1 (by decide) ?_
    refine lv_aload_n hx hb dL_correct_2 rfl (lv_at hl 0 rfl) ?_
    refine lv_iload_n hx hb dL_correct_3 rfl (lv_at hl 1 rfl) ?_
    refine lv_iload_n hx hb dL_correct_4 rfl (lv_at hl 2 rfl) ?_
    refine Wi.callV (rest := [.int 0, .ref ob]) (q0 := 0) (ci := 0) (wr := wO ob cL fo) [0, 1, 2, 3, 4, 5, 6, 7, 8, 9, 10, 11, 12, 13] [14] ⟨hx, hb, hml, hown, hts⟩ (c_X0_correct l D cA a F g N hW z0 z1 h1 h2 h3 h4) (cwV 2 hts gL_correct_X0_correct rfl rfl rfl (by decide +kernel) ⟨Nat.le_of_ble_eq_true rfl, Nat.le_of_ble_eq_true rfl⟩) hKA hP hD hS hA rfl rfl (by decide) (by decide) (by decide) rfl rfl rfl rfl rfl hl.1 (Nat.le_of_ble_eq_true rfl) dL_correct_5 ⟨Nat.zero_le _, Nat.zero_le _⟩ (fun r9 u9 H locs hu9 hP hD hS => ?_)
    have hP : va_P D vwCl (wL a cA (fUp F 11 z0.toNatClampNeg z1) g ob cL fo) H := hP.sub [1, 2, 3, 4, 5, 6, 7, 8, 9, 10, 11, 12, 13, 14, 0] rfl
    have hD : va_D A (wL a cA (fUp F 11 z0.toNatClampNeg z1) g ob cL fo) := hD.sub [1, 2, 3, 4, 5, 6, 7, 8, 9, 10, 11, 12, 13, 14, 0] (by decide) rfl
    have hu9 : r9 = F 11 z0.toNatClampNeg := hu9
    refine lv_i2l (v := (r9 : Int32).toInt64) hx hb dL_correct_8 rfl ?_
    refine va_last hx hb hK hP hD hS 14 1 rfl rfl (vp_in_nI (n := 0) (N := 1) (by decide) (by decide)) dL_correct_9 (fun H locs hP hD hS => ?_)
    have hP : va_P D vwCl (wL a cA (fUp F 11 z0.toNatClampNeg z1) g ob cL (vp_updL fo 0 ((r9 : Int32).toInt64))) H := hP
    have hD : va_D A (wL a cA (fUp F 11 z0.toNatClampNeg z1) g ob cL (vp_updL fo 0 ((r9 : Int32).toInt64))) := hD
    refine lv_goto (tgt := 25) hx hb dL_correct_10 (by decide) ?_
    refine lv_iconst (v := 0) hx hb dL_correct_25 (by decide) ?_
    refine W.widen (k := 1) (n := 6) (Nat.zero_le _) (Nat.zero_le _) ?_
    exact hend 26 ls _ ((fUp F 11 z0.toNatClampNeg z1), g, (vp_updL fo 0 ((r9 : Int32).toInt64))) _ _ dL_correct_26 hP hD hS ⟨hk.symm, fun _ => ⟨rfl, by show (r9 : Int32).toInt64 = _; rw [hu9]⟩, fun h => absurd hk h⟩
  · have hb9 : Bx l D cA (wX a cA F g) yX0_correct wsX0_correct rbX0_correct [.ref (a 16), .int z0, .int z1] eI := by have h9 := b_X0_correct l D cA hl9 a F g N hW z0 z1 (by rw [hk]; decide); rw [hk] at h9; exact h9
    refine lv_aload_n hx hb dL_correct_0 rfl (lv_at hl 3 rfl) ?_
    refine lv_iconst (v := 0) hx hb dL_correct_1 (by decide) ?_
    refine lv_aload_n hx hb dL_correct_2 rfl (lv_at hl 0 rfl) ?_
    refine lv_iload_n hx hb dL_correct_3 rfl (lv_at hl 1 rfl) ?_
    refine lv_iload_n hx hb dL_correct_4 rfl (lv_at hl 2 rfl) ?_
    refine Bx.catch (E := eI) (name := "java/lang/IndexOutOfBoundsException") (own := RL) (w := (wL a cA F g ob cL fo)) (vx_runV (rest := [.int 0, .ref ob]) ⟨hx, hb, hml, hown, hts⟩ (hb9 s.heap.size) (cwV 2 hts gL_correct_X0_correct rfl rfl rfl (by decide +kernel) ⟨Nat.le_of_ble_eq_true rfl, Nat.le_of_ble_eq_true rfl⟩) ⟨(PreBx (As := [.ref (a 16), .int z0, .int z1]) rfl hKA (hP.sub [0, 1, 2, 3, 4, 5, 6, 7, 8, 9, 10, 11, 12, 13] rfl : va_P D vwCl (wX a cA F g) s.heap) hZ.1).1, va_recv hKA (hP.sub [0, 1, 2, 3, 4, 5, 6, 7, 8, 9, 10, 11, 12, 13] rfl : va_P D vwCl (wX a cA F g) s.heap) (ci := 0) (q0 := 0) rfl rfl, (PreBx (As := [.ref (a 16), .int z0, .int z1]) rfl hKA (hP.sub [0, 1, 2, 3, 4, 5, 6, 7, 8, 9, 10, 11, 12, 13] rfl : va_P D vwCl (wX a cA F g) s.heap) hZ.1).2⟩ rfl rfl hl.1 rfl (lv_room (Nat.le_of_ble_eq_true rfl)) dL_correct_5 ⟨Nat.le_of_ble_eq_true rfl, Nat.le_of_ble_eq_true rfl⟩) (fun _ _ _ h => h) hown [] ⟨0, 10, 13, 13⟩ [⟨0, 10, 17, 15⟩, ⟨0, 10, 21, 29⟩] (htab.trans rfl) (fun z hz => nomatch hz) (by decide) (by decide) (hts (.classLink RL 13 "java/lang/IndexOutOfBoundsException") (by decide +kernel)) (va_Nw.use rfl hZ.1.2.2.2.2.2.1) hP hA (fun q9 H locs hP hS => ?_)
    refine lv_astore (lv' := [(4, .ref q9), (0, .ref (a 16)), (1, .int z0), (2, .int z1), (3, .ref ob)]) hx hb dL_correct_13 hl (by decide) rfl (fun ls hl => ?_)
    refine lv_iconst (v := 1) hx hb dL_correct_15 (by decide) ?_
    exact hend 16 ls _ (F, g, fo) _ _ dL_correct_16 hP hD hS ⟨hk.symm, fun h => absurd (hk.symm.trans h) (by decide), fun _ => rfl⟩
  · have hb9 : Bx l D cA (wX a cA F g) yX0_correct wsX0_correct rbX0_correct [.ref (a 16), .int z0, .int z1] eA := by have h9 := b_X0_correct l D cA hl9 a F g N hW z0 z1 (by rw [hk]; decide); rw [hk] at h9; exact h9
    refine lv_aload_n hx hb dL_correct_0 rfl (lv_at hl 3 rfl) ?_
    refine lv_iconst (v := 0) hx hb dL_correct_1 (by decide) ?_
    refine lv_aload_n hx hb dL_correct_2 rfl (lv_at hl 0 rfl) ?_
    refine lv_iload_n hx hb dL_correct_3 rfl (lv_at hl 1 rfl) ?_
    refine lv_iload_n hx hb dL_correct_4 rfl (lv_at hl 2 rfl) ?_
    refine Bx.catch (E := eA) (name := "java/lang/IllegalArgumentException") (own := RL) (w := (wL a cA F g ob cL fo)) (vx_runV (rest := [.int 0, .ref ob]) ⟨hx, hb, hml, hown, hts⟩ (hb9 s.heap.size) (cwV 2 hts gL_correct_X0_correct rfl rfl rfl (by decide +kernel) ⟨Nat.le_of_ble_eq_true rfl, Nat.le_of_ble_eq_true rfl⟩) ⟨(PreBx (As := [.ref (a 16), .int z0, .int z1]) rfl hKA (hP.sub [0, 1, 2, 3, 4, 5, 6, 7, 8, 9, 10, 11, 12, 13] rfl : va_P D vwCl (wX a cA F g) s.heap) hZ.1).1, va_recv hKA (hP.sub [0, 1, 2, 3, 4, 5, 6, 7, 8, 9, 10, 11, 12, 13] rfl : va_P D vwCl (wX a cA F g) s.heap) (ci := 0) (q0 := 0) rfl rfl, (PreBx (As := [.ref (a 16), .int z0, .int z1]) rfl hKA (hP.sub [0, 1, 2, 3, 4, 5, 6, 7, 8, 9, 10, 11, 12, 13] rfl : va_P D vwCl (wX a cA F g) s.heap) hZ.1).2⟩ rfl rfl hl.1 rfl (lv_room (Nat.le_of_ble_eq_true rfl)) dL_correct_5 ⟨Nat.le_of_ble_eq_true rfl, Nat.le_of_ble_eq_true rfl⟩) (fun _ _ _ h => h) hown [⟨0, 10, 13, 13⟩] ⟨0, 10, 17, 15⟩ [⟨0, 10, 21, 29⟩] (htab.trans rfl) (fun z hz => by rcases List.mem_singleton.mp hz with rfl; exact Or.inr ⟨by decide, "java/lang/IndexOutOfBoundsException", hts (.classLink RL 13 "java/lang/IndexOutOfBoundsException") (by decide +kernel), hZ.2.1⟩) (by decide) (by decide) (hts (.classLink RL 15 "java/lang/IllegalArgumentException") (by decide +kernel)) (va_Nw.use rfl hZ.1.2.2.2.2.2.2.1) hP hA (fun q9 H locs hP hS => ?_)
    refine lv_astore (lv' := [(4, .ref q9), (0, .ref (a 16)), (1, .int z0), (2, .int z1), (3, .ref ob)]) hx hb dL_correct_17 hl (by decide) rfl (fun ls hl => ?_)
    refine lv_iconst (v := 2) hx hb dL_correct_19 (by decide) ?_
    exact hend 20 ls _ (F, g, fo) _ _ dL_correct_20 hP hD hS ⟨hk.symm, fun h => absurd (hk.symm.trans h) (by decide), fun _ => rfl⟩
  · have hb9 : Bx l D cA (wX a cA F g) yX0_correct wsX0_correct rbX0_correct [.ref (a 16), .int z0, .int z1] eS := by have h9 := b_X0_correct l D cA hl9 a F g N hW z0 z1 (by rw [hk]; decide); rw [hk] at h9; exact h9
    refine lv_aload_n hx hb dL_correct_0 rfl (lv_at hl 3 rfl) ?_
    refine lv_iconst (v := 0) hx hb dL_correct_1 (by decide) ?_
    refine lv_aload_n hx hb dL_correct_2 rfl (lv_at hl 0 rfl) ?_
    refine lv_iload_n hx hb dL_correct_3 rfl (lv_at hl 1 rfl) ?_
    refine lv_iload_n hx hb dL_correct_4 rfl (lv_at hl 2 rfl) ?_
    refine Bx.catch (E := eS) (name := "java/lang/IllegalStateException") (own := RL) (w := (wL a cA F g ob cL fo)) (vx_runV (rest := [.int 0, .ref ob]) ⟨hx, hb, hml, hown, hts⟩ (hb9 s.heap.size) (cwV 2 hts gL_correct_X0_correct rfl rfl rfl (by decide +kernel) ⟨Nat.le_of_ble_eq_true rfl, Nat.le_of_ble_eq_true rfl⟩) ⟨(PreBx (As := [.ref (a 16), .int z0, .int z1]) rfl hKA (hP.sub [0, 1, 2, 3, 4, 5, 6, 7, 8, 9, 10, 11, 12, 13] rfl : va_P D vwCl (wX a cA F g) s.heap) hZ.1).1, va_recv hKA (hP.sub [0, 1, 2, 3, 4, 5, 6, 7, 8, 9, 10, 11, 12, 13] rfl : va_P D vwCl (wX a cA F g) s.heap) (ci := 0) (q0 := 0) rfl rfl, (PreBx (As := [.ref (a 16), .int z0, .int z1]) rfl hKA (hP.sub [0, 1, 2, 3, 4, 5, 6, 7, 8, 9, 10, 11, 12, 13] rfl : va_P D vwCl (wX a cA F g) s.heap) hZ.1).2⟩ rfl rfl hl.1 rfl (lv_room (Nat.le_of_ble_eq_true rfl)) dL_correct_5 ⟨Nat.le_of_ble_eq_true rfl, Nat.le_of_ble_eq_true rfl⟩) (fun _ _ _ h => h) hown [⟨0, 10, 13, 13⟩, ⟨0, 10, 17, 15⟩] ⟨0, 10, 21, 29⟩ [] (htab.trans rfl) (fun z hz => (List.mem_cons.mp hz).elim (fun h9 => by subst h9; exact Or.inr ⟨by decide, "java/lang/IndexOutOfBoundsException", hts (.classLink RL 13 "java/lang/IndexOutOfBoundsException") (by decide +kernel), hZ.2.2.1⟩) (fun h9 => by rcases List.mem_singleton.mp h9 with rfl; exact Or.inr ⟨by decide, "java/lang/IllegalArgumentException", hts (.classLink RL 15 "java/lang/IllegalArgumentException") (by decide +kernel), hZ.2.2.2⟩)) (by decide) (by decide) (hts (.classLink RL 29 "java/lang/IllegalStateException") (by decide +kernel)) (va_Nw.use rfl hZ.1.2.2.2.2.2.2.2.1) hP hA (fun q9 H locs hP hS => ?_)
    refine lv_astore (lv' := [(4, .ref q9), (0, .ref (a 16)), (1, .int z0), (2, .int z1), (3, .ref ob)]) hx hb dL_correct_21 hl (by decide) rfl (fun ls hl => ?_)
    refine lv_iconst (v := 3) hx hb dL_correct_23 (by decide) ?_
    exact hend 24 ls _ (F, g, fo) _ _ dL_correct_24 hP hD hS ⟨hk.symm, fun h => absurd (hk.symm.trans h) (by decide), fun _ => rfl⟩

abbrev rmL_takeHoliday : Room := { frames := 8, cells := 1, slots := 6, locals := 135 }
set_option maxHeartbeats 4000000 in
set_option maxRecDepth 100000 in
theorem c_L_takeHoliday (l : Launch) (hl9 : l.stackTraces = false) (D : va_G) (cA cL : ClassId) (a : Nat → Nat) (F : Nat → Nat → Int32) (g : Nat → Int32) (ob : Nat) (fo : Nat → Int64) (N : Nat) (hW : wf F N) (z0 z1 : Int32) : Lw l D cA cL (S := (Nat → Nat → Int32) × (Nat → Int32) × (Nat → Int64)) (wL a cA F g ob cL fo) (fun u => wL a cA u.1 u.2.1 ob cL u.2.2) yL_takeHoliday wsL_takeHoliday rmL_takeHoliday [.ref (a 16), .int z0, .int z1, .ref ob] (fun r u => r = kTake F N z0 z1 ∧ (kTake F N z0 z1 = 0 → u.1 = fUp F 14 z0.toNatClampNeg (F 14 z0.toNatClampNeg + z1) ∧ u.2.2 0 = (7 * ps (tHr F z0) N - F 14 z0.toNatClampNeg - z1 : Int32).toInt64) ∧ (kTake F N z0 z1 ≠ 0 → u.1 = F)) := by
  refine Lw.of (cc := cL_takeHoliday) (maxL := 5) (by decide) rfl (Nat.le_of_ble_eq_true rfl) ?_
  intro p e s m args below meth c ls A Q hx hb hts hown hml hK hP hD hA hS hl htab hZ hend
  have hown : s.vm.findClass RL = some m.cls := hown
  have hKA : KA D cA s := hK.sub [0] rfl
  have hl : lv_has ls 5 [(0, .ref (a 16)), (1, .int z0), (2, .int z1), (3, .ref ob)] := hl
  rcases kTake_r F N z0 z1 with hk | hk | hk | hk
  · obtain ⟨h1, h2, h3⟩ := kTake_0 F N z0 z1 hk
    refine lv_aload_n hx hb dL_takeHoliday_0 rfl (lv_at hl 3 rfl) ?_
    refine lv_iconst (v := 0) hx hb dL_takeHoliday_1 (by decide) ?_
    refine lv_aload_n hx hb dL_takeHoliday_2 rfl (lv_at hl 0 rfl) ?_
    refine lv_iload_n hx hb dL_takeHoliday_3 rfl (lv_at hl 1 rfl) ?_
    refine lv_iload_n hx hb dL_takeHoliday_4 rfl (lv_at hl 2 rfl) ?_
    refine Wi.callV (rest := [.int 0, .ref ob]) (q0 := 0) (ci := 0) (wr := wO ob cL fo) [0, 1, 2, 3, 4, 5, 6, 7, 8, 9, 10, 11, 12, 13] [14] ⟨hx, hb, hml, hown, hts⟩ (c_X0_takeHoliday l D cA a F g N hW z0 z1 h1 h2 h3) (cwV 2 hts gL_takeHoliday_X0_takeHoliday rfl rfl rfl (by decide +kernel) ⟨Nat.le_of_ble_eq_true rfl, Nat.le_of_ble_eq_true rfl⟩) hKA hP hD hS hA rfl rfl (by decide) (by decide) (by decide) rfl rfl rfl rfl rfl hl.1 (Nat.le_of_ble_eq_true rfl) dL_takeHoliday_5 ⟨Nat.zero_le _, Nat.zero_le _⟩ (fun r9 u9 H locs hu9 hP hD hS => ?_)
    have hP : va_P D vwCl (wL a cA (fUp F 14 z0.toNatClampNeg (F 14 z0.toNatClampNeg + z1)) g ob cL fo) H := hP.sub [1, 2, 3, 4, 5, 6, 7, 8, 9, 10, 11, 12, 13, 14, 0] rfl
    have hD : va_D A (wL a cA (fUp F 14 z0.toNatClampNeg (F 14 z0.toNatClampNeg + z1)) g ob cL fo) := hD.sub [1, 2, 3, 4, 5, 6, 7, 8, 9, 10, 11, 12, 13, 14, 0] (by decide) rfl
    have hu9 : r9 = 7 * ps (tHr F z0) N - F 14 z0.toNatClampNeg - z1 := hu9
    refine lv_i2l (v := (r9 : Int32).toInt64) hx hb dL_takeHoliday_8 rfl ?_
    refine va_last hx hb hK hP hD hS 14 1 rfl rfl (vp_in_nI (n := 0) (N := 1) (by decide) (by decide)) dL_takeHoliday_9 (fun H locs hP hD hS => ?_)
    have hP : va_P D vwCl (wL a cA (fUp F 14 z0.toNatClampNeg (F 14 z0.toNatClampNeg + z1)) g ob cL (vp_updL fo 0 ((r9 : Int32).toInt64))) H := hP
    have hD : va_D A (wL a cA (fUp F 14 z0.toNatClampNeg (F 14 z0.toNatClampNeg + z1)) g ob cL (vp_updL fo 0 ((r9 : Int32).toInt64))) := hD
    refine lv_goto (tgt := 25) hx hb dL_takeHoliday_10 (by decide) ?_
    refine lv_iconst (v := 0) hx hb dL_takeHoliday_25 (by decide) ?_
    refine W.widen (k := 1) (n := 6) (Nat.zero_le _) (Nat.zero_le _) ?_
    exact hend 26 ls _ ((fUp F 14 z0.toNatClampNeg (F 14 z0.toNatClampNeg + z1)), g, (vp_updL fo 0 ((r9 : Int32).toInt64))) _ _ dL_takeHoliday_26 hP hD hS ⟨hk.symm, fun _ => ⟨rfl, by show (r9 : Int32).toInt64 = _; rw [hu9]⟩, fun h => absurd hk h⟩
  · have hb9 : Bx l D cA (wX a cA F g) yX0_takeHoliday wsX0_takeHoliday rbX0_takeHoliday [.ref (a 16), .int z0, .int z1] eI := by have h9 := b_X0_takeHoliday l D cA hl9 a F g N hW z0 z1 (by rw [hk]; decide); rw [hk] at h9; exact h9
    refine lv_aload_n hx hb dL_takeHoliday_0 rfl (lv_at hl 3 rfl) ?_
    refine lv_iconst (v := 0) hx hb dL_takeHoliday_1 (by decide) ?_
    refine lv_aload_n hx hb dL_takeHoliday_2 rfl (lv_at hl 0 rfl) ?_
    refine lv_iload_n hx hb dL_takeHoliday_3 rfl (lv_at hl 1 rfl) ?_
    refine lv_iload_n hx hb dL_takeHoliday_4 rfl (lv_at hl 2 rfl) ?_
    refine Bx.catch (E := eI) (name := "java/lang/IndexOutOfBoundsException") (own := RL) (w := (wL a cA F g ob cL fo)) (vx_runV (rest := [.int 0, .ref ob]) ⟨hx, hb, hml, hown, hts⟩ (hb9 s.heap.size) (cwV 2 hts gL_takeHoliday_X0_takeHoliday rfl rfl rfl (by decide +kernel) ⟨Nat.le_of_ble_eq_true rfl, Nat.le_of_ble_eq_true rfl⟩) ⟨(PreBx (As := [.ref (a 16), .int z0, .int z1]) rfl hKA (hP.sub [0, 1, 2, 3, 4, 5, 6, 7, 8, 9, 10, 11, 12, 13] rfl : va_P D vwCl (wX a cA F g) s.heap) hZ.1).1, va_recv hKA (hP.sub [0, 1, 2, 3, 4, 5, 6, 7, 8, 9, 10, 11, 12, 13] rfl : va_P D vwCl (wX a cA F g) s.heap) (ci := 0) (q0 := 0) rfl rfl, (PreBx (As := [.ref (a 16), .int z0, .int z1]) rfl hKA (hP.sub [0, 1, 2, 3, 4, 5, 6, 7, 8, 9, 10, 11, 12, 13] rfl : va_P D vwCl (wX a cA F g) s.heap) hZ.1).2⟩ rfl rfl hl.1 rfl (lv_room (Nat.le_of_ble_eq_true rfl)) dL_takeHoliday_5 ⟨Nat.le_of_ble_eq_true rfl, Nat.le_of_ble_eq_true rfl⟩) (fun _ _ _ h => h) hown [] ⟨0, 10, 13, 13⟩ [⟨0, 10, 17, 15⟩, ⟨0, 10, 21, 29⟩] (htab.trans rfl) (fun z hz => nomatch hz) (by decide) (by decide) (hts (.classLink RL 13 "java/lang/IndexOutOfBoundsException") (by decide +kernel)) (va_Nw.use rfl hZ.1.2.2.2.2.2.1) hP hA (fun q9 H locs hP hS => ?_)
    refine lv_astore (lv' := [(4, .ref q9), (0, .ref (a 16)), (1, .int z0), (2, .int z1), (3, .ref ob)]) hx hb dL_takeHoliday_13 hl (by decide) rfl (fun ls hl => ?_)
    refine lv_iconst (v := 1) hx hb dL_takeHoliday_15 (by decide) ?_
    exact hend 16 ls _ (F, g, fo) _ _ dL_takeHoliday_16 hP hD hS ⟨hk.symm, fun h => absurd (hk.symm.trans h) (by decide), fun _ => rfl⟩
  · have hb9 : Bx l D cA (wX a cA F g) yX0_takeHoliday wsX0_takeHoliday rbX0_takeHoliday [.ref (a 16), .int z0, .int z1] eA := by have h9 := b_X0_takeHoliday l D cA hl9 a F g N hW z0 z1 (by rw [hk]; decide); rw [hk] at h9; exact h9
    refine lv_aload_n hx hb dL_takeHoliday_0 rfl (lv_at hl 3 rfl) ?_
    refine lv_iconst (v := 0) hx hb dL_takeHoliday_1 (by decide) ?_
    refine lv_aload_n hx hb dL_takeHoliday_2 rfl (lv_at hl 0 rfl) ?_
    refine lv_iload_n hx hb dL_takeHoliday_3 rfl (lv_at hl 1 rfl) ?_
    refine lv_iload_n hx hb dL_takeHoliday_4 rfl (lv_at hl 2 rfl) ?_
    refine Bx.catch (E := eA) (name := "java/lang/IllegalArgumentException") (own := RL) (w := (wL a cA F g ob cL fo)) (vx_runV (rest := [.int 0, .ref ob]) ⟨hx, hb, hml, hown, hts⟩ (hb9 s.heap.size) (cwV 2 hts gL_takeHoliday_X0_takeHoliday rfl rfl rfl (by decide +kernel) ⟨Nat.le_of_ble_eq_true rfl, Nat.le_of_ble_eq_true rfl⟩) ⟨(PreBx (As := [.ref (a 16), .int z0, .int z1]) rfl hKA (hP.sub [0, 1, 2, 3, 4, 5, 6, 7, 8, 9, 10, 11, 12, 13] rfl : va_P D vwCl (wX a cA F g) s.heap) hZ.1).1, va_recv hKA (hP.sub [0, 1, 2, 3, 4, 5, 6, 7, 8, 9, 10, 11, 12, 13] rfl : va_P D vwCl (wX a cA F g) s.heap) (ci := 0) (q0 := 0) rfl rfl, (PreBx (As := [.ref (a 16), .int z0, .int z1]) rfl hKA (hP.sub [0, 1, 2, 3, 4, 5, 6, 7, 8, 9, 10, 11, 12, 13] rfl : va_P D vwCl (wX a cA F g) s.heap) hZ.1).2⟩ rfl rfl hl.1 rfl (lv_room (Nat.le_of_ble_eq_true rfl)) dL_takeHoliday_5 ⟨Nat.le_of_ble_eq_true rfl, Nat.le_of_ble_eq_true rfl⟩) (fun _ _ _ h => h) hown [⟨0, 10, 13, 13⟩] ⟨0, 10, 17, 15⟩ [⟨0, 10, 21, 29⟩] (htab.trans rfl) (fun z hz => by rcases List.mem_singleton.mp hz with rfl; exact Or.inr ⟨by decide, "java/lang/IndexOutOfBoundsException", hts (.classLink RL 13 "java/lang/IndexOutOfBoundsException") (by decide +kernel), hZ.2.1⟩) (by decide) (by decide) (hts (.classLink RL 15 "java/lang/IllegalArgumentException") (by decide +kernel)) (va_Nw.use rfl hZ.1.2.2.2.2.2.2.1) hP hA (fun q9 H locs hP hS => ?_)
    refine lv_astore (lv' := [(4, .ref q9), (0, .ref (a 16)), (1, .int z0), (2, .int z1), (3, .ref ob)]) hx hb dL_takeHoliday_17 hl (by decide) rfl (fun ls hl => ?_)
    refine lv_iconst (v := 2) hx hb dL_takeHoliday_19 (by decide) ?_
    exact hend 20 ls _ (F, g, fo) _ _ dL_takeHoliday_20 hP hD hS ⟨hk.symm, fun h => absurd (hk.symm.trans h) (by decide), fun _ => rfl⟩
  · have hb9 : Bx l D cA (wX a cA F g) yX0_takeHoliday wsX0_takeHoliday rbX0_takeHoliday [.ref (a 16), .int z0, .int z1] eS := by have h9 := b_X0_takeHoliday l D cA hl9 a F g N hW z0 z1 (by rw [hk]; decide); rw [hk] at h9; exact h9
    refine lv_aload_n hx hb dL_takeHoliday_0 rfl (lv_at hl 3 rfl) ?_
    refine lv_iconst (v := 0) hx hb dL_takeHoliday_1 (by decide) ?_
    refine lv_aload_n hx hb dL_takeHoliday_2 rfl (lv_at hl 0 rfl) ?_
    refine lv_iload_n hx hb dL_takeHoliday_3 rfl (lv_at hl 1 rfl) ?_
    refine lv_iload_n hx hb dL_takeHoliday_4 rfl (lv_at hl 2 rfl) ?_
    refine Bx.catch (E := eS) (name := "java/lang/IllegalStateException") (own := RL) (w := (wL a cA F g ob cL fo)) (vx_runV (rest := [.int 0, .ref ob]) ⟨hx, hb, hml, hown, hts⟩ (hb9 s.heap.size) (cwV 2 hts gL_takeHoliday_X0_takeHoliday rfl rfl rfl (by decide +kernel) ⟨Nat.le_of_ble_eq_true rfl, Nat.le_of_ble_eq_true rfl⟩) ⟨(PreBx (As := [.ref (a 16), .int z0, .int z1]) rfl hKA (hP.sub [0, 1, 2, 3, 4, 5, 6, 7, 8, 9, 10, 11, 12, 13] rfl : va_P D vwCl (wX a cA F g) s.heap) hZ.1).1, va_recv hKA (hP.sub [0, 1, 2, 3, 4, 5, 6, 7, 8, 9, 10, 11, 12, 13] rfl : va_P D vwCl (wX a cA F g) s.heap) (ci := 0) (q0 := 0) rfl rfl, (PreBx (As := [.ref (a 16), .int z0, .int z1]) rfl hKA (hP.sub [0, 1, 2, 3, 4, 5, 6, 7, 8, 9, 10, 11, 12, 13] rfl : va_P D vwCl (wX a cA F g) s.heap) hZ.1).2⟩ rfl rfl hl.1 rfl (lv_room (Nat.le_of_ble_eq_true rfl)) dL_takeHoliday_5 ⟨Nat.le_of_ble_eq_true rfl, Nat.le_of_ble_eq_true rfl⟩) (fun _ _ _ h => h) hown [⟨0, 10, 13, 13⟩, ⟨0, 10, 17, 15⟩] ⟨0, 10, 21, 29⟩ [] (htab.trans rfl) (fun z hz => (List.mem_cons.mp hz).elim (fun h9 => by subst h9; exact Or.inr ⟨by decide, "java/lang/IndexOutOfBoundsException", hts (.classLink RL 13 "java/lang/IndexOutOfBoundsException") (by decide +kernel), hZ.2.2.1⟩) (fun h9 => by rcases List.mem_singleton.mp h9 with rfl; exact Or.inr ⟨by decide, "java/lang/IllegalArgumentException", hts (.classLink RL 15 "java/lang/IllegalArgumentException") (by decide +kernel), hZ.2.2.2⟩)) (by decide) (by decide) (hts (.classLink RL 29 "java/lang/IllegalStateException") (by decide +kernel)) (va_Nw.use rfl hZ.1.2.2.2.2.2.2.2.1) hP hA (fun q9 H locs hP hS => ?_)
    refine lv_astore (lv' := [(4, .ref q9), (0, .ref (a 16)), (1, .int z0), (2, .int z1), (3, .ref ob)]) hx hb dL_takeHoliday_21 hl (by decide) rfl (fun ls hl => ?_)
    refine lv_iconst (v := 3) hx hb dL_takeHoliday_23 (by decide) ?_
    exact hend 24 ls _ (F, g, fo) _ _ dL_takeHoliday_24 hP hD hS ⟨hk.symm, fun h => absurd (hk.symm.trans h) (by decide), fun _ => rfl⟩

abbrev rmL_hours : Room := { frames := 8, cells := 1, slots := 6, locals := 135 }
set_option maxHeartbeats 4000000 in
set_option maxRecDepth 100000 in
theorem c_L_hours (l : Launch) (hl9 : l.stackTraces = false) (D : va_G) (cA cL : ClassId) (a : Nat → Nat) (F : Nat → Nat → Int32) (g : Nat → Int32) (ob : Nat) (fo : Nat → Int64) (N : Nat) (hW : wf F N) (z0 z1 : Int32) : Lw l D cA cL (S := (Nat → Nat → Int32) × (Nat → Int32) × (Nat → Int64)) (wL a cA F g ob cL fo) (fun u => wL a cA u.1 u.2.1 ob cL u.2.2) yL_hours wsL_hours rmL_hours [.ref (a 16), .int z0, .int z1, .ref ob] (fun r u => r = kWW z0 z1 ∧ (kWW z0 z1 = 0 → u.1 = F ∧ u.2.2 0 = (ps (tWk F z0 z1) N : Int32).toInt64) ∧ (kWW z0 z1 ≠ 0 → u.1 = F)) := by
  refine Lw.of (cc := cL_hours) (maxL := 5) (by decide) rfl (Nat.le_of_ble_eq_true rfl) ?_
  intro p e s m args below meth c ls A Q hx hb hts hown hml hK hP hD hA hS hl htab hZ hend
  have hown : s.vm.findClass RL = some m.cls := hown
  have hKA : KA D cA s := hK.sub [0] rfl
  have hl : lv_has ls 5 [(0, .ref (a 16)), (1, .int z0), (2, .int z1), (3, .ref ob)] := hl
  rcases kWW_r z0 z1 with hk | hk
  · obtain ⟨h1, h2⟩ := kWW_0 z0 z1 hk
    refine lv_aload_n hx hb dL_hours_0 rfl (lv_at hl 3 rfl) ?_
    refine lv_iconst (v := 0) hx hb dL_hours_1 (by decide) ?_
    refine lv_aload_n hx hb dL_hours_2 rfl (lv_at hl 0 rfl) ?_
    refine lv_iload_n hx hb dL_hours_3 rfl (lv_at hl 1 rfl) ?_
    refine lv_iload_n hx hb dL_hours_4 rfl (lv_at hl 2 rfl) ?_
    refine Rd.callV (rest := [.int 0, .ref ob]) (q0 := 0) (ci := 0) ⟨hx, hb, hml, hown, hts⟩ (c_X0_hours l D cA a F g N hW z0 z1 h1 h2) (cwV 2 hts gL_hours_X0_hours rfl rfl rfl (by decide +kernel) ⟨Nat.le_of_ble_eq_true rfl, Nat.le_of_ble_eq_true rfl⟩) hKA (hP.sub [0, 1, 2, 3, 4, 5, 6, 7, 8, 9, 10, 11, 12, 13] rfl : va_P D vwCl (wX a cA F g) s.heap) rfl rfl rfl rfl rfl hl.1 (Nat.le_of_ble_eq_true rfl) dL_hours_5 ⟨Nat.zero_le _, Nat.zero_le _⟩ ?_
    refine lv_i2l (v := ((ps (tWk F z0 z1) N) : Int32).toInt64) hx hb dL_hours_8 rfl ?_
    refine va_last hx hb hK hP hD hS 14 1 rfl rfl (vp_in_nI (n := 0) (N := 1) (by decide) (by decide)) dL_hours_9 (fun H locs hP hD hS => ?_)
    have hP : va_P D vwCl (wL a cA F g ob cL (vp_updL fo 0 (((ps (tWk F z0 z1) N) : Int32).toInt64))) H := hP
    have hD : va_D A (wL a cA F g ob cL (vp_updL fo 0 (((ps (tWk F z0 z1) N) : Int32).toInt64))) := hD
    refine lv_goto (tgt := 17) hx hb dL_hours_10 (by decide) ?_
    refine lv_iconst (v := 0) hx hb dL_hours_17 (by decide) ?_
    refine W.widen (k := 1) (n := 6) (Nat.zero_le _) (Nat.zero_le _) ?_
    exact hend 18 ls _ (F, g, (vp_updL fo 0 (((ps (tWk F z0 z1) N) : Int32).toInt64))) _ _ dL_hours_18 hP hD hS ⟨hk.symm, fun _ => ⟨rfl, rfl⟩, fun h => absurd hk h⟩
  · have hb9 : Bx l D cA (wX a cA F g) yX0_hours wsX0_hours rbX0_hours [.ref (a 16), .int z0, .int z1] eI := by have h9 := b_X0_hours l D cA hl9 a F g N hW z0 z1 (by rw [hk]; decide); rw [hk] at h9; exact h9
    refine lv_aload_n hx hb dL_hours_0 rfl (lv_at hl 3 rfl) ?_
    refine lv_iconst (v := 0) hx hb dL_hours_1 (by decide) ?_
    refine lv_aload_n hx hb dL_hours_2 rfl (lv_at hl 0 rfl) ?_
    refine lv_iload_n hx hb dL_hours_3 rfl (lv_at hl 1 rfl) ?_
    refine lv_iload_n hx hb dL_hours_4 rfl (lv_at hl 2 rfl) ?_
    refine Bx.catch (E := eI) (name := "java/lang/IndexOutOfBoundsException") (own := RL) (w := (wL a cA F g ob cL fo)) (vx_runV (rest := [.int 0, .ref ob]) ⟨hx, hb, hml, hown, hts⟩ (hb9 s.heap.size) (cwV 2 hts gL_hours_X0_hours rfl rfl rfl (by decide +kernel) ⟨Nat.le_of_ble_eq_true rfl, Nat.le_of_ble_eq_true rfl⟩) ⟨(PreBx (As := [.ref (a 16), .int z0, .int z1]) rfl hKA (hP.sub [0, 1, 2, 3, 4, 5, 6, 7, 8, 9, 10, 11, 12, 13] rfl : va_P D vwCl (wX a cA F g) s.heap) hZ.1).1, va_recv hKA (hP.sub [0, 1, 2, 3, 4, 5, 6, 7, 8, 9, 10, 11, 12, 13] rfl : va_P D vwCl (wX a cA F g) s.heap) (ci := 0) (q0 := 0) rfl rfl, (PreBx (As := [.ref (a 16), .int z0, .int z1]) rfl hKA (hP.sub [0, 1, 2, 3, 4, 5, 6, 7, 8, 9, 10, 11, 12, 13] rfl : va_P D vwCl (wX a cA F g) s.heap) hZ.1).2⟩ rfl rfl hl.1 rfl (lv_room (Nat.le_of_ble_eq_true rfl)) dL_hours_5 ⟨Nat.le_of_ble_eq_true rfl, Nat.le_of_ble_eq_true rfl⟩) (fun _ _ _ h => h) hown [] ⟨0, 10, 13, 13⟩ [] (htab.trans rfl) (fun z hz => nomatch hz) (by decide) (by decide) (hts (.classLink RL 13 "java/lang/IndexOutOfBoundsException") (by decide +kernel)) (va_Nw.use rfl hZ.1.2.2.2.2.2.1) hP hA (fun q9 H locs hP hS => ?_)
    refine lv_astore (lv' := [(4, .ref q9), (0, .ref (a 16)), (1, .int z0), (2, .int z1), (3, .ref ob)]) hx hb dL_hours_13 hl (by decide) rfl (fun ls hl => ?_)
    refine lv_iconst (v := 1) hx hb dL_hours_15 (by decide) ?_
    exact hend 16 ls _ (F, g, fo) _ _ dL_hours_16 hP hD hS ⟨hk.symm, fun h => absurd (hk.symm.trans h) (by decide), fun _ => rfl⟩

abbrev rmL_hasEqual : Room := { frames := 8, cells := 1, slots := 6, locals := 134 }
set_option maxHeartbeats 4000000 in
set_option maxRecDepth 100000 in
theorem c_L_hasEqual (l : Launch) (hl9 : l.stackTraces = false) (D : va_G) (cA cL : ClassId) (a : Nat → Nat) (F : Nat → Nat → Int32) (g : Nat → Int32) (ob : Nat) (fo : Nat → Int64) (N : Nat) (hW : wf F N) (z0 z1 z2 : Int32) : Lw l D cA cL (S := (Nat → Nat → Int32) × (Nat → Int32) × (Nat → Int64)) (wL a cA F g ob cL fo) (fun u => wL a cA u.1 u.2.1 ob cL u.2.2) yL_hasEqual wsL_hasEqual rmL_hasEqual [.ref (a 16), .int z0, .int z1, .int z2, .ref ob] (fun r u => r = kWSW z0 z1 z2 ∧ (kWSW z0 z1 z2 = 0 → u.1 = F ∧ u.2.2 0 = ((if F 5 0 ≤ sEqV F N z0 z1 z2.toNatClampNeg then 1 else 0) : Int32).toInt64) ∧ (kWSW z0 z1 z2 ≠ 0 → u.1 = F)) := by
  refine Lw.of (cc := cL_hasEqual) (maxL := 6) (by decide) rfl (Nat.le_of_ble_eq_true rfl) ?_
  intro p e s m args below meth c ls A Q hx hb hts hown hml hK hP hD hA hS hl htab hZ hend
  have hown : s.vm.findClass RL = some m.cls := hown
  have hKA : KA D cA s := hK.sub [0] rfl
  have hl : lv_has ls 6 [(0, .ref (a 16)), (1, .int z0), (2, .int z1), (3, .int z2), (4, .ref ob)] := hl
  rcases kWSW_r z0 z1 z2 with hk | hk
  · obtain ⟨h1, h2, h3⟩ := kWSW_0 z0 z1 z2 hk
    refine lv_aload hx hb dL_hasEqual_0 (lv_at hl 4 rfl) ?_
    refine lv_iconst (v := 0) hx hb dL_hasEqual_2 (by decide) ?_
    refine lv_aload_n hx hb dL_hasEqual_3 rfl (lv_at hl 0 rfl) ?_
    refine lv_iload_n hx hb dL_hasEqual_4 rfl (lv_at hl 1 rfl) ?_
    refine lv_iload_n hx hb dL_hasEqual_5 rfl (lv_at hl 2 rfl) ?_
    refine lv_iload_n hx hb dL_hasEqual_6 rfl (lv_at hl 3 rfl) ?_
    refine Rd.callV (rest := [.int 0, .ref ob]) (q0 := 0) (ci := 0) ⟨hx, hb, hml, hown, hts⟩ (c_X0_hasEqual l D cA a F g N hW z0 z1 z2 h1 h2 h3) (cwV 3 hts gL_hasEqual_X0_hasEqual rfl rfl rfl (by decide +kernel) ⟨Nat.le_of_ble_eq_true rfl, Nat.le_of_ble_eq_true rfl⟩) hKA (hP.sub [0, 1, 2, 3, 4, 5, 6, 7, 8, 9, 10, 11, 12, 13] rfl : va_P D vwCl (wX a cA F g) s.heap) rfl rfl rfl rfl rfl hl.1 (Nat.le_of_ble_eq_true rfl) dL_hasEqual_7 ⟨Nat.zero_le _, Nat.zero_le _⟩ ?_
    refine lv_if_eq (tgt := 17) hx hb dL_hasEqual_10 (by decide) (fun c_10 => ?_) (fun c_10 => ?_)
    · skip
      have hq : ¬ F 5 0 ≤ sEqV F N z0 z1 z2.toNatClampNeg := fun h => absurd c_10 (by rw [if_pos h]; decide)
      refine lv_lconst (v := 0) hx hb dL_hasEqual_17 (by decide) ?_
      refine va_last hx hb hK hP hD hS 14 1 rfl rfl (vp_in_nI (n := 0) (N := 1) (by decide) (by decide)) dL_hasEqual_18 (fun H locs hP hD hS => ?_)
      have hP : va_P D vwCl (wL a cA F g ob cL (vp_updL fo 0 (0))) H := hP
      have hD : va_D A (wL a cA F g ob cL (vp_updL fo 0 (0))) := hD
      refine lv_goto (tgt := 26) hx hb dL_hasEqual_19 (by decide) ?_
      refine lv_iconst (v := 0) hx hb dL_hasEqual_26 (by decide) ?_
      refine W.widen (k := 1) (n := 6) (Nat.zero_le _) (Nat.zero_le _) ?_
      exact hend 27 ls _ (F, g, (vp_updL fo 0 (0))) _ _ dL_hasEqual_27 hP hD hS ⟨hk.symm, fun _ => ⟨rfl, by show (0 : Int64) = _; rw [if_neg hq]; rfl⟩, fun h => absurd hk h⟩
    · skip
      have hq : F 5 0 ≤ sEqV F N z0 z1 z2.toNatClampNeg := Classical.byContradiction (fun h => c_10 (if_neg h))
      refine lv_lconst (v := 1) hx hb dL_hasEqual_13 (by decide) ?_
      refine lv_goto (tgt := 18) hx hb dL_hasEqual_14 (by decide) ?_
      refine va_last hx hb hK hP hD hS 14 1 rfl rfl (vp_in_nI (n := 0) (N := 1) (by decide) (by decide)) dL_hasEqual_18 (fun H locs hP hD hS => ?_)
      have hP : va_P D vwCl (wL a cA F g ob cL (vp_updL fo 0 (1))) H := hP
      have hD : va_D A (wL a cA F g ob cL (vp_updL fo 0 (1))) := hD
      refine lv_goto (tgt := 26) hx hb dL_hasEqual_19 (by decide) ?_
      refine lv_iconst (v := 0) hx hb dL_hasEqual_26 (by decide) ?_
      refine W.widen (k := 1) (n := 6) (Nat.zero_le _) (Nat.zero_le _) ?_
      exact hend 27 ls _ (F, g, (vp_updL fo 0 (1))) _ _ dL_hasEqual_27 hP hD hS ⟨hk.symm, fun _ => ⟨rfl, by show (1 : Int64) = _; rw [if_pos hq]; rfl⟩, fun h => absurd hk h⟩
  · have hb9 : Bx l D cA (wX a cA F g) yX0_hasEqual wsX0_hasEqual rbX0_hasEqual [.ref (a 16), .int z0, .int z1, .int z2] eI := by have h9 := b_X0_hasEqual l D cA hl9 a F g N hW z0 z1 z2 (by rw [hk]; decide); rw [hk] at h9; exact h9
    refine lv_aload hx hb dL_hasEqual_0 (lv_at hl 4 rfl) ?_
    refine lv_iconst (v := 0) hx hb dL_hasEqual_2 (by decide) ?_
    refine lv_aload_n hx hb dL_hasEqual_3 rfl (lv_at hl 0 rfl) ?_
    refine lv_iload_n hx hb dL_hasEqual_4 rfl (lv_at hl 1 rfl) ?_
    refine lv_iload_n hx hb dL_hasEqual_5 rfl (lv_at hl 2 rfl) ?_
    refine lv_iload_n hx hb dL_hasEqual_6 rfl (lv_at hl 3 rfl) ?_
    refine Bx.catch (E := eI) (name := "java/lang/IndexOutOfBoundsException") (own := RL) (w := (wL a cA F g ob cL fo)) (vx_runV (rest := [.int 0, .ref ob]) ⟨hx, hb, hml, hown, hts⟩ (hb9 s.heap.size) (cwV 3 hts gL_hasEqual_X0_hasEqual rfl rfl rfl (by decide +kernel) ⟨Nat.le_of_ble_eq_true rfl, Nat.le_of_ble_eq_true rfl⟩) ⟨(PreBx (As := [.ref (a 16), .int z0, .int z1, .int z2]) rfl hKA (hP.sub [0, 1, 2, 3, 4, 5, 6, 7, 8, 9, 10, 11, 12, 13] rfl : va_P D vwCl (wX a cA F g) s.heap) hZ.1).1, va_recv hKA (hP.sub [0, 1, 2, 3, 4, 5, 6, 7, 8, 9, 10, 11, 12, 13] rfl : va_P D vwCl (wX a cA F g) s.heap) (ci := 0) (q0 := 0) rfl rfl, (PreBx (As := [.ref (a 16), .int z0, .int z1, .int z2]) rfl hKA (hP.sub [0, 1, 2, 3, 4, 5, 6, 7, 8, 9, 10, 11, 12, 13] rfl : va_P D vwCl (wX a cA F g) s.heap) hZ.1).2⟩ rfl rfl hl.1 rfl (lv_room (Nat.le_of_ble_eq_true rfl)) dL_hasEqual_7 ⟨Nat.le_of_ble_eq_true rfl, Nat.le_of_ble_eq_true rfl⟩) (fun _ _ _ h => h) hown [] ⟨0, 19, 22, 13⟩ [] (htab.trans rfl) (fun z hz => nomatch hz) (by decide) (by decide) (hts (.classLink RL 13 "java/lang/IndexOutOfBoundsException") (by decide +kernel)) (va_Nw.use rfl hZ.1.2.2.2.2.2.1) hP hA (fun q9 H locs hP hS => ?_)
    refine lv_astore (lv' := [(5, .ref q9), (0, .ref (a 16)), (1, .int z0), (2, .int z1), (3, .int z2), (4, .ref ob)]) hx hb dL_hasEqual_22 hl (by decide) rfl (fun ls hl => ?_)
    refine lv_iconst (v := 1) hx hb dL_hasEqual_24 (by decide) ?_
    exact hend 25 ls _ (F, g, fo) _ _ dL_hasEqual_25 hP hD hS ⟨hk.symm, fun h => absurd (hk.symm.trans h) (by decide), fun _ => rfl⟩

abbrev rmL_paid : Room := { frames := 8, cells := 1, slots := 6, locals := 133 }
set_option maxHeartbeats 4000000 in
set_option maxRecDepth 100000 in
theorem c_L_paid (l : Launch) (hl9 : l.stackTraces = false) (D : va_G) (cA cL : ClassId) (a : Nat → Nat) (F : Nat → Nat → Int32) (g : Nat → Int32) (ob : Nat) (fo : Nat → Int64) (N : Nat) (hW : wf F N) (z0 z1 : Int32) : Lw l D cA cL (S := (Nat → Nat → Int32) × (Nat → Int32) × (Nat → Int64)) (wL a cA F g ob cL fo) (fun u => wL a cA u.1 u.2.1 ob cL u.2.2) yL_paid wsL_paid rmL_paid [.ref (a 16), .int z0, .int z1, .ref ob] (fun r u => r = kWW z0 z1 ∧ (kWW z0 z1 = 0 → u.1 = F ∧ u.2.2 0 = (F 12 (z0.toNatClampNeg * 20 + z1.toNatClampNeg) : Int32).toInt64) ∧ (kWW z0 z1 ≠ 0 → u.1 = F)) := by
  refine Lw.of (cc := cL_paid) (maxL := 5) (by decide) rfl (Nat.le_of_ble_eq_true rfl) ?_
  intro p e s m args below meth c ls A Q hx hb hts hown hml hK hP hD hA hS hl htab hZ hend
  have hown : s.vm.findClass RL = some m.cls := hown
  have hKA : KA D cA s := hK.sub [0] rfl
  have hl : lv_has ls 5 [(0, .ref (a 16)), (1, .int z0), (2, .int z1), (3, .ref ob)] := hl
  rcases kWW_r z0 z1 with hk | hk
  · obtain ⟨h1, h2⟩ := kWW_0 z0 z1 hk
    refine lv_aload_n hx hb dL_paid_0 rfl (lv_at hl 3 rfl) ?_
    refine lv_iconst (v := 0) hx hb dL_paid_1 (by decide) ?_
    refine lv_aload_n hx hb dL_paid_2 rfl (lv_at hl 0 rfl) ?_
    refine lv_iload_n hx hb dL_paid_3 rfl (lv_at hl 1 rfl) ?_
    refine lv_iload_n hx hb dL_paid_4 rfl (lv_at hl 2 rfl) ?_
    refine Rd.callV (rest := [.int 0, .ref ob]) (q0 := 0) (ci := 0) ⟨hx, hb, hml, hown, hts⟩ (c_X0_paid l D cA a F g N hW z0 z1 h1 h2) (cwV 2 hts gL_paid_X0_paid rfl rfl rfl (by decide +kernel) ⟨Nat.le_of_ble_eq_true rfl, Nat.le_of_ble_eq_true rfl⟩) hKA (hP.sub [0, 1, 2, 3, 4, 5, 6, 7, 8, 9, 10, 11, 12, 13] rfl : va_P D vwCl (wX a cA F g) s.heap) rfl rfl rfl rfl rfl hl.1 (Nat.le_of_ble_eq_true rfl) dL_paid_5 ⟨Nat.zero_le _, Nat.zero_le _⟩ ?_
    refine lv_i2l (v := ((F 12 (z0.toNatClampNeg * 20 + z1.toNatClampNeg)) : Int32).toInt64) hx hb dL_paid_8 rfl ?_
    refine va_last hx hb hK hP hD hS 14 1 rfl rfl (vp_in_nI (n := 0) (N := 1) (by decide) (by decide)) dL_paid_9 (fun H locs hP hD hS => ?_)
    have hP : va_P D vwCl (wL a cA F g ob cL (vp_updL fo 0 (((F 12 (z0.toNatClampNeg * 20 + z1.toNatClampNeg)) : Int32).toInt64))) H := hP
    have hD : va_D A (wL a cA F g ob cL (vp_updL fo 0 (((F 12 (z0.toNatClampNeg * 20 + z1.toNatClampNeg)) : Int32).toInt64))) := hD
    refine lv_goto (tgt := 17) hx hb dL_paid_10 (by decide) ?_
    refine lv_iconst (v := 0) hx hb dL_paid_17 (by decide) ?_
    refine W.widen (k := 1) (n := 6) (Nat.zero_le _) (Nat.zero_le _) ?_
    exact hend 18 ls _ (F, g, (vp_updL fo 0 (((F 12 (z0.toNatClampNeg * 20 + z1.toNatClampNeg)) : Int32).toInt64))) _ _ dL_paid_18 hP hD hS ⟨hk.symm, fun _ => ⟨rfl, rfl⟩, fun h => absurd hk h⟩
  · have hb9 : Bx l D cA (wX a cA F g) yX0_paid wsX0_paid rbX0_paid [.ref (a 16), .int z0, .int z1] eI := by have h9 := b_X0_paid l D cA hl9 a F g N hW z0 z1 (by rw [hk]; decide); rw [hk] at h9; exact h9
    refine lv_aload_n hx hb dL_paid_0 rfl (lv_at hl 3 rfl) ?_
    refine lv_iconst (v := 0) hx hb dL_paid_1 (by decide) ?_
    refine lv_aload_n hx hb dL_paid_2 rfl (lv_at hl 0 rfl) ?_
    refine lv_iload_n hx hb dL_paid_3 rfl (lv_at hl 1 rfl) ?_
    refine lv_iload_n hx hb dL_paid_4 rfl (lv_at hl 2 rfl) ?_
    refine Bx.catch (E := eI) (name := "java/lang/IndexOutOfBoundsException") (own := RL) (w := (wL a cA F g ob cL fo)) (vx_runV (rest := [.int 0, .ref ob]) ⟨hx, hb, hml, hown, hts⟩ (hb9 s.heap.size) (cwV 2 hts gL_paid_X0_paid rfl rfl rfl (by decide +kernel) ⟨Nat.le_of_ble_eq_true rfl, Nat.le_of_ble_eq_true rfl⟩) ⟨(PreBx (As := [.ref (a 16), .int z0, .int z1]) rfl hKA (hP.sub [0, 1, 2, 3, 4, 5, 6, 7, 8, 9, 10, 11, 12, 13] rfl : va_P D vwCl (wX a cA F g) s.heap) hZ.1).1, va_recv hKA (hP.sub [0, 1, 2, 3, 4, 5, 6, 7, 8, 9, 10, 11, 12, 13] rfl : va_P D vwCl (wX a cA F g) s.heap) (ci := 0) (q0 := 0) rfl rfl, (PreBx (As := [.ref (a 16), .int z0, .int z1]) rfl hKA (hP.sub [0, 1, 2, 3, 4, 5, 6, 7, 8, 9, 10, 11, 12, 13] rfl : va_P D vwCl (wX a cA F g) s.heap) hZ.1).2⟩ rfl rfl hl.1 rfl (lv_room (Nat.le_of_ble_eq_true rfl)) dL_paid_5 ⟨Nat.le_of_ble_eq_true rfl, Nat.le_of_ble_eq_true rfl⟩) (fun _ _ _ h => h) hown [] ⟨0, 10, 13, 13⟩ [] (htab.trans rfl) (fun z hz => nomatch hz) (by decide) (by decide) (hts (.classLink RL 13 "java/lang/IndexOutOfBoundsException") (by decide +kernel)) (va_Nw.use rfl hZ.1.2.2.2.2.2.1) hP hA (fun q9 H locs hP hS => ?_)
    refine lv_astore (lv' := [(4, .ref q9), (0, .ref (a 16)), (1, .int z0), (2, .int z1), (3, .ref ob)]) hx hb dL_paid_13 hl (by decide) rfl (fun ls hl => ?_)
    refine lv_iconst (v := 1) hx hb dL_paid_15 (by decide) ?_
    exact hend 16 ls _ (F, g, fo) _ _ dL_paid_16 hP hD hS ⟨hk.symm, fun h => absurd (hk.symm.trans h) (by decide), fun _ => rfl⟩

abbrev rmL_billed : Room := { frames := 8, cells := 1, slots := 6, locals := 133 }
set_option maxHeartbeats 4000000 in
set_option maxRecDepth 100000 in
theorem c_L_billed (l : Launch) (hl9 : l.stackTraces = false) (D : va_G) (cA cL : ClassId) (a : Nat → Nat) (F : Nat → Nat → Int32) (g : Nat → Int32) (ob : Nat) (fo : Nat → Int64) (N : Nat) (hW : wf F N) (z0 z1 : Int32) : Lw l D cA cL (S := (Nat → Nat → Int32) × (Nat → Int32) × (Nat → Int64)) (wL a cA F g ob cL fo) (fun u => wL a cA u.1 u.2.1 ob cL u.2.2) yL_billed wsL_billed rmL_billed [.ref (a 16), .int z0, .int z1, .ref ob] (fun r u => r = kSW z0 z1 ∧ (kSW z0 z1 = 0 → u.1 = F ∧ u.2.2 0 = (F 13 (z0.toNatClampNeg * 20 + z1.toNatClampNeg) : Int32).toInt64) ∧ (kSW z0 z1 ≠ 0 → u.1 = F)) := by
  refine Lw.of (cc := cL_billed) (maxL := 5) (by decide) rfl (Nat.le_of_ble_eq_true rfl) ?_
  intro p e s m args below meth c ls A Q hx hb hts hown hml hK hP hD hA hS hl htab hZ hend
  have hown : s.vm.findClass RL = some m.cls := hown
  have hKA : KA D cA s := hK.sub [0] rfl
  have hl : lv_has ls 5 [(0, .ref (a 16)), (1, .int z0), (2, .int z1), (3, .ref ob)] := hl
  rcases kSW_r z0 z1 with hk | hk
  · obtain ⟨h1, h2⟩ := kSW_0 z0 z1 hk
    refine lv_aload_n hx hb dL_billed_0 rfl (lv_at hl 3 rfl) ?_
    refine lv_iconst (v := 0) hx hb dL_billed_1 (by decide) ?_
    refine lv_aload_n hx hb dL_billed_2 rfl (lv_at hl 0 rfl) ?_
    refine lv_iload_n hx hb dL_billed_3 rfl (lv_at hl 1 rfl) ?_
    refine lv_iload_n hx hb dL_billed_4 rfl (lv_at hl 2 rfl) ?_
    refine Rd.callV (rest := [.int 0, .ref ob]) (q0 := 0) (ci := 0) ⟨hx, hb, hml, hown, hts⟩ (c_X0_billed l D cA a F g N hW z0 z1 h1 h2) (cwV 2 hts gL_billed_X0_billed rfl rfl rfl (by decide +kernel) ⟨Nat.le_of_ble_eq_true rfl, Nat.le_of_ble_eq_true rfl⟩) hKA (hP.sub [0, 1, 2, 3, 4, 5, 6, 7, 8, 9, 10, 11, 12, 13] rfl : va_P D vwCl (wX a cA F g) s.heap) rfl rfl rfl rfl rfl hl.1 (Nat.le_of_ble_eq_true rfl) dL_billed_5 ⟨Nat.zero_le _, Nat.zero_le _⟩ ?_
    refine lv_i2l (v := ((F 13 (z0.toNatClampNeg * 20 + z1.toNatClampNeg)) : Int32).toInt64) hx hb dL_billed_8 rfl ?_
    refine va_last hx hb hK hP hD hS 14 1 rfl rfl (vp_in_nI (n := 0) (N := 1) (by decide) (by decide)) dL_billed_9 (fun H locs hP hD hS => ?_)
    have hP : va_P D vwCl (wL a cA F g ob cL (vp_updL fo 0 (((F 13 (z0.toNatClampNeg * 20 + z1.toNatClampNeg)) : Int32).toInt64))) H := hP
    have hD : va_D A (wL a cA F g ob cL (vp_updL fo 0 (((F 13 (z0.toNatClampNeg * 20 + z1.toNatClampNeg)) : Int32).toInt64))) := hD
    refine lv_goto (tgt := 17) hx hb dL_billed_10 (by decide) ?_
    refine lv_iconst (v := 0) hx hb dL_billed_17 (by decide) ?_
    refine W.widen (k := 1) (n := 6) (Nat.zero_le _) (Nat.zero_le _) ?_
    exact hend 18 ls _ (F, g, (vp_updL fo 0 (((F 13 (z0.toNatClampNeg * 20 + z1.toNatClampNeg)) : Int32).toInt64))) _ _ dL_billed_18 hP hD hS ⟨hk.symm, fun _ => ⟨rfl, rfl⟩, fun h => absurd hk h⟩
  · have hb9 : Bx l D cA (wX a cA F g) yX0_billed wsX0_billed rbX0_billed [.ref (a 16), .int z0, .int z1] eI := by have h9 := b_X0_billed l D cA hl9 a F g N hW z0 z1 (by rw [hk]; decide); rw [hk] at h9; exact h9
    refine lv_aload_n hx hb dL_billed_0 rfl (lv_at hl 3 rfl) ?_
    refine lv_iconst (v := 0) hx hb dL_billed_1 (by decide) ?_
    refine lv_aload_n hx hb dL_billed_2 rfl (lv_at hl 0 rfl) ?_
    refine lv_iload_n hx hb dL_billed_3 rfl (lv_at hl 1 rfl) ?_
    refine lv_iload_n hx hb dL_billed_4 rfl (lv_at hl 2 rfl) ?_
    refine Bx.catch (E := eI) (name := "java/lang/IndexOutOfBoundsException") (own := RL) (w := (wL a cA F g ob cL fo)) (vx_runV (rest := [.int 0, .ref ob]) ⟨hx, hb, hml, hown, hts⟩ (hb9 s.heap.size) (cwV 2 hts gL_billed_X0_billed rfl rfl rfl (by decide +kernel) ⟨Nat.le_of_ble_eq_true rfl, Nat.le_of_ble_eq_true rfl⟩) ⟨(PreBx (As := [.ref (a 16), .int z0, .int z1]) rfl hKA (hP.sub [0, 1, 2, 3, 4, 5, 6, 7, 8, 9, 10, 11, 12, 13] rfl : va_P D vwCl (wX a cA F g) s.heap) hZ.1).1, va_recv hKA (hP.sub [0, 1, 2, 3, 4, 5, 6, 7, 8, 9, 10, 11, 12, 13] rfl : va_P D vwCl (wX a cA F g) s.heap) (ci := 0) (q0 := 0) rfl rfl, (PreBx (As := [.ref (a 16), .int z0, .int z1]) rfl hKA (hP.sub [0, 1, 2, 3, 4, 5, 6, 7, 8, 9, 10, 11, 12, 13] rfl : va_P D vwCl (wX a cA F g) s.heap) hZ.1).2⟩ rfl rfl hl.1 rfl (lv_room (Nat.le_of_ble_eq_true rfl)) dL_billed_5 ⟨Nat.le_of_ble_eq_true rfl, Nat.le_of_ble_eq_true rfl⟩) (fun _ _ _ h => h) hown [] ⟨0, 10, 13, 13⟩ [] (htab.trans rfl) (fun z hz => nomatch hz) (by decide) (by decide) (hts (.classLink RL 13 "java/lang/IndexOutOfBoundsException") (by decide +kernel)) (va_Nw.use rfl hZ.1.2.2.2.2.2.1) hP hA (fun q9 H locs hP hS => ?_)
    refine lv_astore (lv' := [(4, .ref q9), (0, .ref (a 16)), (1, .int z0), (2, .int z1), (3, .ref ob)]) hx hb dL_billed_13 hl (by decide) rfl (fun ls hl => ?_)
    refine lv_iconst (v := 1) hx hb dL_billed_15 (by decide) ?_
    exact hend 16 ls _ (F, g, fo) _ _ dL_billed_16 hP hD hS ⟨hk.symm, fun h => absurd (hk.symm.trans h) (by decide), fun _ => rfl⟩

abbrev rmL_holiday : Room := { frames := 8, cells := 1, slots := 6, locals := 132 }
set_option maxHeartbeats 4000000 in
set_option maxRecDepth 100000 in
theorem c_L_holiday (l : Launch) (hl9 : l.stackTraces = false) (D : va_G) (cA cL : ClassId) (a : Nat → Nat) (F : Nat → Nat → Int32) (g : Nat → Int32) (ob : Nat) (fo : Nat → Int64) (N : Nat) (hW : wf F N) (z0 : Int32) : Lw l D cA cL (S := (Nat → Nat → Int32) × (Nat → Int32) × (Nat → Int64)) (wL a cA F g ob cL fo) (fun u => wL a cA u.1 u.2.1 ob cL u.2.2) yL_holiday wsL_holiday rmL_holiday [.ref (a 16), .int z0, .ref ob] (fun r u => r = kW z0 ∧ (kW z0 = 0 → u.1 = F ∧ u.2.2 0 = (7 * ps (tHr F z0) N - F 14 z0.toNatClampNeg : Int32).toInt64) ∧ (kW z0 ≠ 0 → u.1 = F)) := by
  refine Lw.of (cc := cL_holiday) (maxL := 4) (by decide) rfl (Nat.le_of_ble_eq_true rfl) ?_
  intro p e s m args below meth c ls A Q hx hb hts hown hml hK hP hD hA hS hl htab hZ hend
  have hown : s.vm.findClass RL = some m.cls := hown
  have hKA : KA D cA s := hK.sub [0] rfl
  have hl : lv_has ls 4 [(0, .ref (a 16)), (1, .int z0), (2, .ref ob)] := hl
  rcases kW_r z0 with hk | hk
  · have h1 := kW_0 z0 hk
    refine lv_aload_n hx hb dL_holiday_0 rfl (lv_at hl 2 rfl) ?_
    refine lv_iconst (v := 0) hx hb dL_holiday_1 (by decide) ?_
    refine lv_aload_n hx hb dL_holiday_2 rfl (lv_at hl 0 rfl) ?_
    refine lv_iload_n hx hb dL_holiday_3 rfl (lv_at hl 1 rfl) ?_
    refine Rd.callV (rest := [.int 0, .ref ob]) (q0 := 0) (ci := 0) ⟨hx, hb, hml, hown, hts⟩ (c_X0_holiday l D cA a F g N hW z0 h1) (cwV 1 hts gL_holiday_X0_holiday rfl rfl rfl (by decide +kernel) ⟨Nat.le_of_ble_eq_true rfl, Nat.le_of_ble_eq_true rfl⟩) hKA (hP.sub [0, 1, 2, 3, 4, 5, 6, 7, 8, 9, 10, 11, 12, 13] rfl : va_P D vwCl (wX a cA F g) s.heap) rfl rfl rfl rfl rfl hl.1 (Nat.le_of_ble_eq_true rfl) dL_holiday_4 ⟨Nat.zero_le _, Nat.zero_le _⟩ ?_
    refine lv_i2l (v := ((7 * ps (tHr F z0) N - F 14 z0.toNatClampNeg) : Int32).toInt64) hx hb dL_holiday_7 rfl ?_
    refine va_last hx hb hK hP hD hS 14 1 rfl rfl (vp_in_nI (n := 0) (N := 1) (by decide) (by decide)) dL_holiday_8 (fun H locs hP hD hS => ?_)
    have hP : va_P D vwCl (wL a cA F g ob cL (vp_updL fo 0 (((7 * ps (tHr F z0) N - F 14 z0.toNatClampNeg) : Int32).toInt64))) H := hP
    have hD : va_D A (wL a cA F g ob cL (vp_updL fo 0 (((7 * ps (tHr F z0) N - F 14 z0.toNatClampNeg) : Int32).toInt64))) := hD
    refine lv_goto (tgt := 15) hx hb dL_holiday_9 (by decide) ?_
    refine lv_iconst (v := 0) hx hb dL_holiday_15 (by decide) ?_
    refine W.widen (k := 1) (n := 6) (Nat.zero_le _) (Nat.zero_le _) ?_
    exact hend 16 ls _ (F, g, (vp_updL fo 0 (((7 * ps (tHr F z0) N - F 14 z0.toNatClampNeg) : Int32).toInt64))) _ _ dL_holiday_16 hP hD hS ⟨hk.symm, fun _ => ⟨rfl, rfl⟩, fun h => absurd hk h⟩
  · have hb9 : Bx l D cA (wX a cA F g) yX0_holiday wsX0_holiday rbX0_holiday [.ref (a 16), .int z0] eI := by have h9 := b_X0_holiday l D cA hl9 a F g N hW z0 (by rw [hk]; decide); rw [hk] at h9; exact h9
    refine lv_aload_n hx hb dL_holiday_0 rfl (lv_at hl 2 rfl) ?_
    refine lv_iconst (v := 0) hx hb dL_holiday_1 (by decide) ?_
    refine lv_aload_n hx hb dL_holiday_2 rfl (lv_at hl 0 rfl) ?_
    refine lv_iload_n hx hb dL_holiday_3 rfl (lv_at hl 1 rfl) ?_
    refine Bx.catch (E := eI) (name := "java/lang/IndexOutOfBoundsException") (own := RL) (w := (wL a cA F g ob cL fo)) (vx_runV (rest := [.int 0, .ref ob]) ⟨hx, hb, hml, hown, hts⟩ (hb9 s.heap.size) (cwV 1 hts gL_holiday_X0_holiday rfl rfl rfl (by decide +kernel) ⟨Nat.le_of_ble_eq_true rfl, Nat.le_of_ble_eq_true rfl⟩) ⟨(PreBx (As := [.ref (a 16), .int z0]) rfl hKA (hP.sub [0, 1, 2, 3, 4, 5, 6, 7, 8, 9, 10, 11, 12, 13] rfl : va_P D vwCl (wX a cA F g) s.heap) hZ.1).1, va_recv hKA (hP.sub [0, 1, 2, 3, 4, 5, 6, 7, 8, 9, 10, 11, 12, 13] rfl : va_P D vwCl (wX a cA F g) s.heap) (ci := 0) (q0 := 0) rfl rfl, (PreBx (As := [.ref (a 16), .int z0]) rfl hKA (hP.sub [0, 1, 2, 3, 4, 5, 6, 7, 8, 9, 10, 11, 12, 13] rfl : va_P D vwCl (wX a cA F g) s.heap) hZ.1).2⟩ rfl rfl hl.1 rfl (lv_room (Nat.le_of_ble_eq_true rfl)) dL_holiday_4 ⟨Nat.le_of_ble_eq_true rfl, Nat.le_of_ble_eq_true rfl⟩) (fun _ _ _ h => h) hown [] ⟨0, 9, 12, 13⟩ [] (htab.trans rfl) (fun z hz => nomatch hz) (by decide) (by decide) (hts (.classLink RL 13 "java/lang/IndexOutOfBoundsException") (by decide +kernel)) (va_Nw.use rfl hZ.1.2.2.2.2.2.1) hP hA (fun q9 H locs hP hS => ?_)
    refine lv_astore_n (lv' := [(3, .ref q9), (0, .ref (a 16)), (1, .int z0), (2, .ref ob)]) hx hb dL_holiday_12 rfl hl (by decide) rfl (fun ls hl => ?_)
    refine lv_iconst (v := 1) hx hb dL_holiday_13 (by decide) ?_
    exact hend 14 ls _ (F, g, fo) _ _ dL_holiday_14 hP hD hS ⟨hk.symm, fun h => absurd (hk.symm.trans h) (by decide), fun _ => rfl⟩

abbrev rmL_overtime : Room := { frames := 8, cells := 1, slots := 6, locals := 132 }
set_option maxHeartbeats 4000000 in
set_option maxRecDepth 100000 in
theorem c_L_overtime (l : Launch) (hl9 : l.stackTraces = false) (D : va_G) (cA cL : ClassId) (a : Nat → Nat) (F : Nat → Nat → Int32) (g : Nat → Int32) (ob : Nat) (fo : Nat → Int64) (N : Nat) (hW : wf F N) (z0 : Int32) : Lw l D cA cL (S := (Nat → Nat → Int32) × (Nat → Int32) × (Nat → Int64)) (wL a cA F g ob cL fo) (fun u => wL a cA u.1 u.2.1 ob cL u.2.2) yL_overtime wsL_overtime rmL_overtime [.ref (a 16), .int z0, .ref ob] (fun r u => r = kSh F z0 ∧ (kSh F z0 = 0 → u.1 = F ∧ u.2.2 0 = (sOv F N z0.toNatClampNeg : Int32).toInt64) ∧ (kSh F z0 ≠ 0 → u.1 = F)) := by
  refine Lw.of (cc := cL_overtime) (maxL := 4) (by decide) rfl (Nat.le_of_ble_eq_true rfl) ?_
  intro p e s m args below meth c ls A Q hx hb hts hown hml hK hP hD hA hS hl htab hZ hend
  have hown : s.vm.findClass RL = some m.cls := hown
  have hKA : KA D cA s := hK.sub [0] rfl
  have hl : lv_has ls 4 [(0, .ref (a 16)), (1, .int z0), (2, .ref ob)] := hl
  rcases kSh_r F z0 with hk | hk
  · have h1 := kSh_0 F z0 hk
    refine lv_aload_n hx hb dL_overtime_0 rfl (lv_at hl 2 rfl) ?_
    refine lv_iconst (v := 0) hx hb dL_overtime_1 (by decide) ?_
    refine lv_aload_n hx hb dL_overtime_2 rfl (lv_at hl 0 rfl) ?_
    refine lv_iload_n hx hb dL_overtime_3 rfl (lv_at hl 1 rfl) ?_
    refine Wi.callV (rest := [.int 0, .ref ob]) (q0 := 0) (ci := 0) (wr := wO ob cL fo) [0, 1, 2, 3, 4, 5, 6, 7, 8, 9, 10, 11, 12, 13] [14] ⟨hx, hb, hml, hown, hts⟩ (c_X0_overtime l D cA a F g N hW z0 h1) (cwV 1 hts gL_overtime_X0_overtime rfl rfl rfl (by decide +kernel) ⟨Nat.le_of_ble_eq_true rfl, Nat.le_of_ble_eq_true rfl⟩) hKA hP hD hS hA rfl rfl (by decide) (by decide) (by decide) rfl rfl rfl rfl rfl hl.1 (Nat.le_of_ble_eq_true rfl) dL_overtime_4 ⟨Nat.zero_le _, Nat.zero_le _⟩ (fun r9 u9 H locs hu9 hP hD hS => ?_)
    have hP : va_P D vwCl (wL a cA (F) u9 ob cL fo) H := hP.sub [1, 2, 3, 4, 5, 6, 7, 8, 9, 10, 11, 12, 13, 14, 0] rfl
    have hD : va_D A (wL a cA (F) u9 ob cL fo) := hD.sub [1, 2, 3, 4, 5, 6, 7, 8, 9, 10, 11, 12, 13, 14, 0] (by decide) rfl
    have hu9 : r9 = sOv F N z0.toNatClampNeg := hu9
    refine lv_i2l (v := (r9 : Int32).toInt64) hx hb dL_overtime_7 rfl ?_
    refine va_last hx hb hK hP hD hS 14 1 rfl rfl (vp_in_nI (n := 0) (N := 1) (by decide) (by decide)) dL_overtime_8 (fun H locs hP hD hS => ?_)
    have hP : va_P D vwCl (wL a cA (F) u9 ob cL (vp_updL fo 0 ((r9 : Int32).toInt64))) H := hP
    have hD : va_D A (wL a cA (F) u9 ob cL (vp_updL fo 0 ((r9 : Int32).toInt64))) := hD
    refine lv_goto (tgt := 15) hx hb dL_overtime_9 (by decide) ?_
    refine lv_iconst (v := 0) hx hb dL_overtime_15 (by decide) ?_
    refine W.widen (k := 1) (n := 6) (Nat.zero_le _) (Nat.zero_le _) ?_
    exact hend 16 ls _ ((F), u9, (vp_updL fo 0 ((r9 : Int32).toInt64))) _ _ dL_overtime_16 hP hD hS ⟨hk.symm, fun _ => ⟨rfl, by show (r9 : Int32).toInt64 = _; rw [hu9]⟩, fun h => absurd hk h⟩
  · have hb9 : Bx l D cA (wX a cA F g) yX0_overtime wsX0_overtime rbX0_overtime [.ref (a 16), .int z0] eI := by have h9 := b_X0_overtime l D cA hl9 a F g N hW z0 (by rw [hk]; decide); rw [hk] at h9; exact h9
    refine lv_aload_n hx hb dL_overtime_0 rfl (lv_at hl 2 rfl) ?_
    refine lv_iconst (v := 0) hx hb dL_overtime_1 (by decide) ?_
    refine lv_aload_n hx hb dL_overtime_2 rfl (lv_at hl 0 rfl) ?_
    refine lv_iload_n hx hb dL_overtime_3 rfl (lv_at hl 1 rfl) ?_
    refine Bx.catch (E := eI) (name := "java/lang/IndexOutOfBoundsException") (own := RL) (w := (wL a cA F g ob cL fo)) (vx_runV (rest := [.int 0, .ref ob]) ⟨hx, hb, hml, hown, hts⟩ (hb9 s.heap.size) (cwV 1 hts gL_overtime_X0_overtime rfl rfl rfl (by decide +kernel) ⟨Nat.le_of_ble_eq_true rfl, Nat.le_of_ble_eq_true rfl⟩) ⟨(PreBx (As := [.ref (a 16), .int z0]) rfl hKA (hP.sub [0, 1, 2, 3, 4, 5, 6, 7, 8, 9, 10, 11, 12, 13] rfl : va_P D vwCl (wX a cA F g) s.heap) hZ.1).1, va_recv hKA (hP.sub [0, 1, 2, 3, 4, 5, 6, 7, 8, 9, 10, 11, 12, 13] rfl : va_P D vwCl (wX a cA F g) s.heap) (ci := 0) (q0 := 0) rfl rfl, (PreBx (As := [.ref (a 16), .int z0]) rfl hKA (hP.sub [0, 1, 2, 3, 4, 5, 6, 7, 8, 9, 10, 11, 12, 13] rfl : va_P D vwCl (wX a cA F g) s.heap) hZ.1).2⟩ rfl rfl hl.1 rfl (lv_room (Nat.le_of_ble_eq_true rfl)) dL_overtime_4 ⟨Nat.le_of_ble_eq_true rfl, Nat.le_of_ble_eq_true rfl⟩) (fun _ _ _ h => h) hown [] ⟨0, 9, 12, 13⟩ [] (htab.trans rfl) (fun z hz => nomatch hz) (by decide) (by decide) (hts (.classLink RL 13 "java/lang/IndexOutOfBoundsException") (by decide +kernel)) (va_Nw.use rfl hZ.1.2.2.2.2.2.1) hP hA (fun q9 H locs hP hS => ?_)
    refine lv_astore_n (lv' := [(3, .ref q9), (0, .ref (a 16)), (1, .int z0), (2, .ref ob)]) hx hb dL_overtime_12 rfl hl (by decide) rfl (fun ls hl => ?_)
    refine lv_iconst (v := 1) hx hb dL_overtime_13 (by decide) ?_
    exact hend 14 ls _ (F, g, fo) _ _ dL_overtime_14 hP hD hS ⟨hk.symm, fun h => absurd (hk.symm.trans h) (by decide), fun _ => rfl⟩

abbrev rmL_payOf : Room := { frames := 8, cells := 1, slots := 6, locals := 142 }
set_option maxHeartbeats 4000000 in
set_option maxRecDepth 100000 in
theorem c_L_payOf (l : Launch) (hl9 : l.stackTraces = false) (D : va_G) (cA cL : ClassId) (a : Nat → Nat) (F : Nat → Nat → Int32) (g : Nat → Int32) (ob : Nat) (fo : Nat → Int64) (N : Nat) (hW : wf F N) (z0 : Int32) : Lw l D cA cL (S := (Nat → Nat → Int32) × (Nat → Int32) × (Nat → Int64)) (wL a cA F g ob cL fo) (fun u => wL a cA u.1 u.2.1 ob cL u.2.2) yL_payOf wsL_payOf rmL_payOf [.ref (a 16), .int z0, .ref ob] (fun r u => r = kSh F z0 ∧ (kSh F z0 = 0 → u.1 = F ∧ u.2.2 0 = (sPy F N z0.toNatClampNeg : Int32).toInt64) ∧ (kSh F z0 ≠ 0 → u.1 = F)) := by
  refine Lw.of (cc := cL_payOf) (maxL := 4) (by decide) rfl (Nat.le_of_ble_eq_true rfl) ?_
  intro p e s m args below meth c ls A Q hx hb hts hown hml hK hP hD hA hS hl htab hZ hend
  have hown : s.vm.findClass RL = some m.cls := hown
  have hKA : KA D cA s := hK.sub [0] rfl
  have hl : lv_has ls 4 [(0, .ref (a 16)), (1, .int z0), (2, .ref ob)] := hl
  rcases kSh_r F z0 with hk | hk
  · have h1 := kSh_0 F z0 hk
    refine lv_aload_n hx hb dL_payOf_0 rfl (lv_at hl 2 rfl) ?_
    refine lv_iconst (v := 0) hx hb dL_payOf_1 (by decide) ?_
    refine lv_aload_n hx hb dL_payOf_2 rfl (lv_at hl 0 rfl) ?_
    refine lv_iload_n hx hb dL_payOf_3 rfl (lv_at hl 1 rfl) ?_
    refine Wi.callV (rest := [.int 0, .ref ob]) (q0 := 0) (ci := 0) (wr := wO ob cL fo) [0, 1, 2, 3, 4, 5, 6, 7, 8, 9, 10, 11, 12, 13] [14] ⟨hx, hb, hml, hown, hts⟩ (c_X0_payOf l D cA a F g N hW z0 h1) (cwV 1 hts gL_payOf_X0_payOf rfl rfl rfl (by decide +kernel) ⟨Nat.le_of_ble_eq_true rfl, Nat.le_of_ble_eq_true rfl⟩) hKA hP hD hS hA rfl rfl (by decide) (by decide) (by decide) rfl rfl rfl rfl rfl hl.1 (Nat.le_of_ble_eq_true rfl) dL_payOf_4 ⟨Nat.zero_le _, Nat.zero_le _⟩ (fun r9 u9 H locs hu9 hP hD hS => ?_)
    have hP : va_P D vwCl (wL a cA (F) u9 ob cL fo) H := hP.sub [1, 2, 3, 4, 5, 6, 7, 8, 9, 10, 11, 12, 13, 14, 0] rfl
    have hD : va_D A (wL a cA (F) u9 ob cL fo) := hD.sub [1, 2, 3, 4, 5, 6, 7, 8, 9, 10, 11, 12, 13, 14, 0] (by decide) rfl
    have hu9 : r9 = sPy F N z0.toNatClampNeg := hu9
    refine lv_i2l (v := (r9 : Int32).toInt64) hx hb dL_payOf_7 rfl ?_
    refine va_last hx hb hK hP hD hS 14 1 rfl rfl (vp_in_nI (n := 0) (N := 1) (by decide) (by decide)) dL_payOf_8 (fun H locs hP hD hS => ?_)
    have hP : va_P D vwCl (wL a cA (F) u9 ob cL (vp_updL fo 0 ((r9 : Int32).toInt64))) H := hP
    have hD : va_D A (wL a cA (F) u9 ob cL (vp_updL fo 0 ((r9 : Int32).toInt64))) := hD
    refine lv_goto (tgt := 15) hx hb dL_payOf_9 (by decide) ?_
    refine lv_iconst (v := 0) hx hb dL_payOf_15 (by decide) ?_
    refine W.widen (k := 1) (n := 6) (Nat.zero_le _) (Nat.zero_le _) ?_
    exact hend 16 ls _ ((F), u9, (vp_updL fo 0 ((r9 : Int32).toInt64))) _ _ dL_payOf_16 hP hD hS ⟨hk.symm, fun _ => ⟨rfl, by show (r9 : Int32).toInt64 = _; rw [hu9]⟩, fun h => absurd hk h⟩
  · have hb9 : Bx l D cA (wX a cA F g) yX0_payOf wsX0_payOf rbX0_payOf [.ref (a 16), .int z0] eI := by have h9 := b_X0_payOf l D cA hl9 a F g N hW z0 (by rw [hk]; decide); rw [hk] at h9; exact h9
    refine lv_aload_n hx hb dL_payOf_0 rfl (lv_at hl 2 rfl) ?_
    refine lv_iconst (v := 0) hx hb dL_payOf_1 (by decide) ?_
    refine lv_aload_n hx hb dL_payOf_2 rfl (lv_at hl 0 rfl) ?_
    refine lv_iload_n hx hb dL_payOf_3 rfl (lv_at hl 1 rfl) ?_
    refine Bx.catch (E := eI) (name := "java/lang/IndexOutOfBoundsException") (own := RL) (w := (wL a cA F g ob cL fo)) (vx_runV (rest := [.int 0, .ref ob]) ⟨hx, hb, hml, hown, hts⟩ (hb9 s.heap.size) (cwV 1 hts gL_payOf_X0_payOf rfl rfl rfl (by decide +kernel) ⟨Nat.le_of_ble_eq_true rfl, Nat.le_of_ble_eq_true rfl⟩) ⟨(PreBx (As := [.ref (a 16), .int z0]) rfl hKA (hP.sub [0, 1, 2, 3, 4, 5, 6, 7, 8, 9, 10, 11, 12, 13] rfl : va_P D vwCl (wX a cA F g) s.heap) hZ.1).1, va_recv hKA (hP.sub [0, 1, 2, 3, 4, 5, 6, 7, 8, 9, 10, 11, 12, 13] rfl : va_P D vwCl (wX a cA F g) s.heap) (ci := 0) (q0 := 0) rfl rfl, (PreBx (As := [.ref (a 16), .int z0]) rfl hKA (hP.sub [0, 1, 2, 3, 4, 5, 6, 7, 8, 9, 10, 11, 12, 13] rfl : va_P D vwCl (wX a cA F g) s.heap) hZ.1).2⟩ rfl rfl hl.1 rfl (lv_room (Nat.le_of_ble_eq_true rfl)) dL_payOf_4 ⟨Nat.le_of_ble_eq_true rfl, Nat.le_of_ble_eq_true rfl⟩) (fun _ _ _ h => h) hown [] ⟨0, 9, 12, 13⟩ [] (htab.trans rfl) (fun z hz => nomatch hz) (by decide) (by decide) (hts (.classLink RL 13 "java/lang/IndexOutOfBoundsException") (by decide +kernel)) (va_Nw.use rfl hZ.1.2.2.2.2.2.1) hP hA (fun q9 H locs hP hS => ?_)
    refine lv_astore_n (lv' := [(3, .ref q9), (0, .ref (a 16)), (1, .int z0), (2, .ref ob)]) hx hb dL_payOf_12 rfl hl (by decide) rfl (fun ls hl => ?_)
    refine lv_iconst (v := 1) hx hb dL_payOf_13 (by decide) ?_
    exact hend 14 ls _ (F, g, fo) _ _ dL_payOf_14 hP hD hS ⟨hk.symm, fun h => absurd (hk.symm.trans h) (by decide), fun _ => rfl⟩

abbrev rmL_chargeOf : Room := { frames := 8, cells := 1, slots := 6, locals := 143 }
set_option maxHeartbeats 4000000 in
set_option maxRecDepth 100000 in
theorem c_L_chargeOf (l : Launch) (hl9 : l.stackTraces = false) (D : va_G) (cA cL : ClassId) (a : Nat → Nat) (F : Nat → Nat → Int32) (g : Nat → Int32) (ob : Nat) (fo : Nat → Int64) (N : Nat) (hW : wf F N) (z0 : Int32) : Lw l D cA cL (S := (Nat → Nat → Int32) × (Nat → Int32) × (Nat → Int64)) (wL a cA F g ob cL fo) (fun u => wL a cA u.1 u.2.1 ob cL u.2.2) yL_chargeOf wsL_chargeOf rmL_chargeOf [.ref (a 16), .int z0, .ref ob] (fun r u => r = kSh F z0 ∧ (kSh F z0 = 0 → u.1 = F ∧ u.2.2 0 = (sCh F N z0.toNatClampNeg : Int32).toInt64) ∧ (kSh F z0 ≠ 0 → u.1 = F)) := by
  refine Lw.of (cc := cL_chargeOf) (maxL := 4) (by decide) rfl (Nat.le_of_ble_eq_true rfl) ?_
  intro p e s m args below meth c ls A Q hx hb hts hown hml hK hP hD hA hS hl htab hZ hend
  have hown : s.vm.findClass RL = some m.cls := hown
  have hKA : KA D cA s := hK.sub [0] rfl
  have hl : lv_has ls 4 [(0, .ref (a 16)), (1, .int z0), (2, .ref ob)] := hl
  rcases kSh_r F z0 with hk | hk
  · have h1 := kSh_0 F z0 hk
    refine lv_aload_n hx hb dL_chargeOf_0 rfl (lv_at hl 2 rfl) ?_
    refine lv_iconst (v := 0) hx hb dL_chargeOf_1 (by decide) ?_
    refine lv_aload_n hx hb dL_chargeOf_2 rfl (lv_at hl 0 rfl) ?_
    refine lv_iload_n hx hb dL_chargeOf_3 rfl (lv_at hl 1 rfl) ?_
    refine Wi.callV (rest := [.int 0, .ref ob]) (q0 := 0) (ci := 0) (wr := wO ob cL fo) [0, 1, 2, 3, 4, 5, 6, 7, 8, 9, 10, 11, 12, 13] [14] ⟨hx, hb, hml, hown, hts⟩ (c_X0_chargeOf l D cA a F g N hW z0 h1) (cwV 1 hts gL_chargeOf_X0_chargeOf rfl rfl rfl (by decide +kernel) ⟨Nat.le_of_ble_eq_true rfl, Nat.le_of_ble_eq_true rfl⟩) hKA hP hD hS hA rfl rfl (by decide) (by decide) (by decide) rfl rfl rfl rfl rfl hl.1 (Nat.le_of_ble_eq_true rfl) dL_chargeOf_4 ⟨Nat.zero_le _, Nat.zero_le _⟩ (fun r9 u9 H locs hu9 hP hD hS => ?_)
    have hP : va_P D vwCl (wL a cA (F) u9 ob cL fo) H := hP.sub [1, 2, 3, 4, 5, 6, 7, 8, 9, 10, 11, 12, 13, 14, 0] rfl
    have hD : va_D A (wL a cA (F) u9 ob cL fo) := hD.sub [1, 2, 3, 4, 5, 6, 7, 8, 9, 10, 11, 12, 13, 14, 0] (by decide) rfl
    have hu9 : r9 = sCh F N z0.toNatClampNeg := hu9
    refine lv_i2l (v := (r9 : Int32).toInt64) hx hb dL_chargeOf_7 rfl ?_
    refine va_last hx hb hK hP hD hS 14 1 rfl rfl (vp_in_nI (n := 0) (N := 1) (by decide) (by decide)) dL_chargeOf_8 (fun H locs hP hD hS => ?_)
    have hP : va_P D vwCl (wL a cA (F) u9 ob cL (vp_updL fo 0 ((r9 : Int32).toInt64))) H := hP
    have hD : va_D A (wL a cA (F) u9 ob cL (vp_updL fo 0 ((r9 : Int32).toInt64))) := hD
    refine lv_goto (tgt := 15) hx hb dL_chargeOf_9 (by decide) ?_
    refine lv_iconst (v := 0) hx hb dL_chargeOf_15 (by decide) ?_
    refine W.widen (k := 1) (n := 6) (Nat.zero_le _) (Nat.zero_le _) ?_
    exact hend 16 ls _ ((F), u9, (vp_updL fo 0 ((r9 : Int32).toInt64))) _ _ dL_chargeOf_16 hP hD hS ⟨hk.symm, fun _ => ⟨rfl, by show (r9 : Int32).toInt64 = _; rw [hu9]⟩, fun h => absurd hk h⟩
  · have hb9 : Bx l D cA (wX a cA F g) yX0_chargeOf wsX0_chargeOf rbX0_chargeOf [.ref (a 16), .int z0] eI := by have h9 := b_X0_chargeOf l D cA hl9 a F g N hW z0 (by rw [hk]; decide); rw [hk] at h9; exact h9
    refine lv_aload_n hx hb dL_chargeOf_0 rfl (lv_at hl 2 rfl) ?_
    refine lv_iconst (v := 0) hx hb dL_chargeOf_1 (by decide) ?_
    refine lv_aload_n hx hb dL_chargeOf_2 rfl (lv_at hl 0 rfl) ?_
    refine lv_iload_n hx hb dL_chargeOf_3 rfl (lv_at hl 1 rfl) ?_
    refine Bx.catch (E := eI) (name := "java/lang/IndexOutOfBoundsException") (own := RL) (w := (wL a cA F g ob cL fo)) (vx_runV (rest := [.int 0, .ref ob]) ⟨hx, hb, hml, hown, hts⟩ (hb9 s.heap.size) (cwV 1 hts gL_chargeOf_X0_chargeOf rfl rfl rfl (by decide +kernel) ⟨Nat.le_of_ble_eq_true rfl, Nat.le_of_ble_eq_true rfl⟩) ⟨(PreBx (As := [.ref (a 16), .int z0]) rfl hKA (hP.sub [0, 1, 2, 3, 4, 5, 6, 7, 8, 9, 10, 11, 12, 13] rfl : va_P D vwCl (wX a cA F g) s.heap) hZ.1).1, va_recv hKA (hP.sub [0, 1, 2, 3, 4, 5, 6, 7, 8, 9, 10, 11, 12, 13] rfl : va_P D vwCl (wX a cA F g) s.heap) (ci := 0) (q0 := 0) rfl rfl, (PreBx (As := [.ref (a 16), .int z0]) rfl hKA (hP.sub [0, 1, 2, 3, 4, 5, 6, 7, 8, 9, 10, 11, 12, 13] rfl : va_P D vwCl (wX a cA F g) s.heap) hZ.1).2⟩ rfl rfl hl.1 rfl (lv_room (Nat.le_of_ble_eq_true rfl)) dL_chargeOf_4 ⟨Nat.le_of_ble_eq_true rfl, Nat.le_of_ble_eq_true rfl⟩) (fun _ _ _ h => h) hown [] ⟨0, 9, 12, 13⟩ [] (htab.trans rfl) (fun z hz => nomatch hz) (by decide) (by decide) (hts (.classLink RL 13 "java/lang/IndexOutOfBoundsException") (by decide +kernel)) (va_Nw.use rfl hZ.1.2.2.2.2.2.1) hP hA (fun q9 H locs hP hS => ?_)
    refine lv_astore_n (lv' := [(3, .ref q9), (0, .ref (a 16)), (1, .int z0), (2, .ref ob)]) hx hb dL_chargeOf_12 rfl hl (by decide) rfl (fun ls hl => ?_)
    refine lv_iconst (v := 1) hx hb dL_chargeOf_13 (by decide) ?_
    exact hend 14 ls _ (F, g, fo) _ _ dL_chargeOf_14 hP hD hS ⟨hk.symm, fun h => absurd (hk.symm.trans h) (by decide), fun _ => rfl⟩

abbrev rmL_pay : Room := { frames := 8, cells := 1, slots := 6, locals := 167 }
set_option maxHeartbeats 4000000 in
set_option maxRecDepth 100000 in
theorem c_L_pay (l : Launch) (hl9 : l.stackTraces = false) (D : va_G) (cA cL : ClassId) (a : Nat → Nat) (F : Nat → Nat → Int32) (g : Nat → Int32) (ob : Nat) (fo : Nat → Int64) (N : Nat) (hW : wf F N) (z0 z1 : Int32) : Lw l D cA cL (S := (Nat → Nat → Int32) × (Nat → Int32) × (Nat → Int64)) (wL a cA F g ob cL fo) (fun u => wL a cA u.1 u.2.1 ob cL u.2.2) yL_pay wsL_pay rmL_pay [.ref (a 16), .int z0, .int z1, .ref ob] (fun r u => r = kWW z0 z1 ∧ (kWW z0 z1 = 0 → u.1 = F ∧ u.2.2 0 = (ps (tPw F N z0 z1) N : Int32).toInt64) ∧ (kWW z0 z1 ≠ 0 → u.1 = F)) := by
  refine Lw.of (cc := cL_pay) (maxL := 5) (by decide) rfl (Nat.le_of_ble_eq_true rfl) ?_
  intro p e s m args below meth c ls A Q hx hb hts hown hml hK hP hD hA hS hl htab hZ hend
  have hown : s.vm.findClass RL = some m.cls := hown
  have hKA : KA D cA s := hK.sub [0] rfl
  have hl : lv_has ls 5 [(0, .ref (a 16)), (1, .int z0), (2, .int z1), (3, .ref ob)] := hl
  rcases kWW_r z0 z1 with hk | hk
  · obtain ⟨h1, h2⟩ := kWW_0 z0 z1 hk
    refine lv_aload_n hx hb dL_pay_0 rfl (lv_at hl 3 rfl) ?_
    refine lv_iconst (v := 0) hx hb dL_pay_1 (by decide) ?_
    refine lv_aload_n hx hb dL_pay_2 rfl (lv_at hl 0 rfl) ?_
    refine lv_iload_n hx hb dL_pay_3 rfl (lv_at hl 1 rfl) ?_
    refine lv_iload_n hx hb dL_pay_4 rfl (lv_at hl 2 rfl) ?_
    refine Wi.callV (rest := [.int 0, .ref ob]) (q0 := 0) (ci := 0) (wr := wO ob cL fo) [0, 1, 2, 3, 4, 5, 6, 7, 8, 9, 10, 11, 12, 13] [14] ⟨hx, hb, hml, hown, hts⟩ (c_X0_pay l D cA a F g N hW z0 z1 h1 h2) (cwV 2 hts gL_pay_X0_pay rfl rfl rfl (by decide +kernel) ⟨Nat.le_of_ble_eq_true rfl, Nat.le_of_ble_eq_true rfl⟩) hKA hP hD hS hA rfl rfl (by decide) (by decide) (by decide) rfl rfl rfl rfl rfl hl.1 (Nat.le_of_ble_eq_true rfl) dL_pay_5 ⟨Nat.zero_le _, Nat.zero_le _⟩ (fun r9 u9 H locs hu9 hP hD hS => ?_)
    have hP : va_P D vwCl (wL a cA (F) u9 ob cL fo) H := hP.sub [1, 2, 3, 4, 5, 6, 7, 8, 9, 10, 11, 12, 13, 14, 0] rfl
    have hD : va_D A (wL a cA (F) u9 ob cL fo) := hD.sub [1, 2, 3, 4, 5, 6, 7, 8, 9, 10, 11, 12, 13, 14, 0] (by decide) rfl
    have hu9 : r9 = ps (tPw F N z0 z1) N := hu9
    refine lv_i2l (v := (r9 : Int32).toInt64) hx hb dL_pay_8 rfl ?_
    refine va_last hx hb hK hP hD hS 14 1 rfl rfl (vp_in_nI (n := 0) (N := 1) (by decide) (by decide)) dL_pay_9 (fun H locs hP hD hS => ?_)
    have hP : va_P D vwCl (wL a cA (F) u9 ob cL (vp_updL fo 0 ((r9 : Int32).toInt64))) H := hP
    have hD : va_D A (wL a cA (F) u9 ob cL (vp_updL fo 0 ((r9 : Int32).toInt64))) := hD
    refine lv_goto (tgt := 17) hx hb dL_pay_10 (by decide) ?_
    refine lv_iconst (v := 0) hx hb dL_pay_17 (by decide) ?_
    refine W.widen (k := 1) (n := 6) (Nat.zero_le _) (Nat.zero_le _) ?_
    exact hend 18 ls _ ((F), u9, (vp_updL fo 0 ((r9 : Int32).toInt64))) _ _ dL_pay_18 hP hD hS ⟨hk.symm, fun _ => ⟨rfl, by show (r9 : Int32).toInt64 = _; rw [hu9]⟩, fun h => absurd hk h⟩
  · have hb9 : Bx l D cA (wX a cA F g) yX0_pay wsX0_pay rbX0_pay [.ref (a 16), .int z0, .int z1] eI := by have h9 := b_X0_pay l D cA hl9 a F g N hW z0 z1 (by rw [hk]; decide); rw [hk] at h9; exact h9
    refine lv_aload_n hx hb dL_pay_0 rfl (lv_at hl 3 rfl) ?_
    refine lv_iconst (v := 0) hx hb dL_pay_1 (by decide) ?_
    refine lv_aload_n hx hb dL_pay_2 rfl (lv_at hl 0 rfl) ?_
    refine lv_iload_n hx hb dL_pay_3 rfl (lv_at hl 1 rfl) ?_
    refine lv_iload_n hx hb dL_pay_4 rfl (lv_at hl 2 rfl) ?_
    refine Bx.catch (E := eI) (name := "java/lang/IndexOutOfBoundsException") (own := RL) (w := (wL a cA F g ob cL fo)) (vx_runV (rest := [.int 0, .ref ob]) ⟨hx, hb, hml, hown, hts⟩ (hb9 s.heap.size) (cwV 2 hts gL_pay_X0_pay rfl rfl rfl (by decide +kernel) ⟨Nat.le_of_ble_eq_true rfl, Nat.le_of_ble_eq_true rfl⟩) ⟨(PreBx (As := [.ref (a 16), .int z0, .int z1]) rfl hKA (hP.sub [0, 1, 2, 3, 4, 5, 6, 7, 8, 9, 10, 11, 12, 13] rfl : va_P D vwCl (wX a cA F g) s.heap) hZ.1).1, va_recv hKA (hP.sub [0, 1, 2, 3, 4, 5, 6, 7, 8, 9, 10, 11, 12, 13] rfl : va_P D vwCl (wX a cA F g) s.heap) (ci := 0) (q0 := 0) rfl rfl, (PreBx (As := [.ref (a 16), .int z0, .int z1]) rfl hKA (hP.sub [0, 1, 2, 3, 4, 5, 6, 7, 8, 9, 10, 11, 12, 13] rfl : va_P D vwCl (wX a cA F g) s.heap) hZ.1).2⟩ rfl rfl hl.1 rfl (lv_room (Nat.le_of_ble_eq_true rfl)) dL_pay_5 ⟨Nat.le_of_ble_eq_true rfl, Nat.le_of_ble_eq_true rfl⟩) (fun _ _ _ h => h) hown [] ⟨0, 10, 13, 13⟩ [] (htab.trans rfl) (fun z hz => nomatch hz) (by decide) (by decide) (hts (.classLink RL 13 "java/lang/IndexOutOfBoundsException") (by decide +kernel)) (va_Nw.use rfl hZ.1.2.2.2.2.2.1) hP hA (fun q9 H locs hP hS => ?_)
    refine lv_astore (lv' := [(4, .ref q9), (0, .ref (a 16)), (1, .int z0), (2, .int z1), (3, .ref ob)]) hx hb dL_pay_13 hl (by decide) rfl (fun ls hl => ?_)
    refine lv_iconst (v := 1) hx hb dL_pay_15 (by decide) ?_
    exact hend 16 ls _ (F, g, fo) _ _ dL_pay_16 hP hD hS ⟨hk.symm, fun h => absurd (hk.symm.trans h) (by decide), fun _ => rfl⟩

abbrev rmL_owing : Room := { frames := 8, cells := 1, slots := 6, locals := 167 }
set_option maxHeartbeats 4000000 in
set_option maxRecDepth 100000 in
theorem c_L_owing (l : Launch) (hl9 : l.stackTraces = false) (D : va_G) (cA cL : ClassId) (a : Nat → Nat) (F : Nat → Nat → Int32) (g : Nat → Int32) (ob : Nat) (fo : Nat → Int64) (N : Nat) (hW : wf F N) (z0 z1 : Int32) : Lw l D cA cL (S := (Nat → Nat → Int32) × (Nat → Int32) × (Nat → Int64)) (wL a cA F g ob cL fo) (fun u => wL a cA u.1 u.2.1 ob cL u.2.2) yL_owing wsL_owing rmL_owing [.ref (a 16), .int z0, .int z1, .ref ob] (fun r u => r = kWW z0 z1 ∧ (kWW z0 z1 = 0 → u.1 = F ∧ u.2.2 0 = (ps (tPw F N z0 z1) N - F 12 (z0.toNatClampNeg * 20 + z1.toNatClampNeg) : Int32).toInt64) ∧ (kWW z0 z1 ≠ 0 → u.1 = F)) := by
  refine Lw.of (cc := cL_owing) (maxL := 5) (by decide) rfl (Nat.le_of_ble_eq_true rfl) ?_
  intro p e s m args below meth c ls A Q hx hb hts hown hml hK hP hD hA hS hl htab hZ hend
  have hown : s.vm.findClass RL = some m.cls := hown
  have hKA : KA D cA s := hK.sub [0] rfl
  have hl : lv_has ls 5 [(0, .ref (a 16)), (1, .int z0), (2, .int z1), (3, .ref ob)] := hl
  rcases kWW_r z0 z1 with hk | hk
  · obtain ⟨h1, h2⟩ := kWW_0 z0 z1 hk
    refine lv_aload_n hx hb dL_owing_0 rfl (lv_at hl 3 rfl) ?_
    refine lv_iconst (v := 0) hx hb dL_owing_1 (by decide) ?_
    refine lv_aload_n hx hb dL_owing_2 rfl (lv_at hl 0 rfl) ?_
    refine lv_iload_n hx hb dL_owing_3 rfl (lv_at hl 1 rfl) ?_
    refine lv_iload_n hx hb dL_owing_4 rfl (lv_at hl 2 rfl) ?_
    refine Wi.callV (rest := [.int 0, .ref ob]) (q0 := 0) (ci := 0) (wr := wO ob cL fo) [0, 1, 2, 3, 4, 5, 6, 7, 8, 9, 10, 11, 12, 13] [14] ⟨hx, hb, hml, hown, hts⟩ (c_X0_owing l D cA a F g N hW z0 z1 h1 h2) (cwV 2 hts gL_owing_X0_owing rfl rfl rfl (by decide +kernel) ⟨Nat.le_of_ble_eq_true rfl, Nat.le_of_ble_eq_true rfl⟩) hKA hP hD hS hA rfl rfl (by decide) (by decide) (by decide) rfl rfl rfl rfl rfl hl.1 (Nat.le_of_ble_eq_true rfl) dL_owing_5 ⟨Nat.zero_le _, Nat.zero_le _⟩ (fun r9 u9 H locs hu9 hP hD hS => ?_)
    have hP : va_P D vwCl (wL a cA (F) u9 ob cL fo) H := hP.sub [1, 2, 3, 4, 5, 6, 7, 8, 9, 10, 11, 12, 13, 14, 0] rfl
    have hD : va_D A (wL a cA (F) u9 ob cL fo) := hD.sub [1, 2, 3, 4, 5, 6, 7, 8, 9, 10, 11, 12, 13, 14, 0] (by decide) rfl
    have hu9 : r9 = ps (tPw F N z0 z1) N - F 12 (z0.toNatClampNeg * 20 + z1.toNatClampNeg) := hu9
    refine lv_i2l (v := (r9 : Int32).toInt64) hx hb dL_owing_8 rfl ?_
    refine va_last hx hb hK hP hD hS 14 1 rfl rfl (vp_in_nI (n := 0) (N := 1) (by decide) (by decide)) dL_owing_9 (fun H locs hP hD hS => ?_)
    have hP : va_P D vwCl (wL a cA (F) u9 ob cL (vp_updL fo 0 ((r9 : Int32).toInt64))) H := hP
    have hD : va_D A (wL a cA (F) u9 ob cL (vp_updL fo 0 ((r9 : Int32).toInt64))) := hD
    refine lv_goto (tgt := 17) hx hb dL_owing_10 (by decide) ?_
    refine lv_iconst (v := 0) hx hb dL_owing_17 (by decide) ?_
    refine W.widen (k := 1) (n := 6) (Nat.zero_le _) (Nat.zero_le _) ?_
    exact hend 18 ls _ ((F), u9, (vp_updL fo 0 ((r9 : Int32).toInt64))) _ _ dL_owing_18 hP hD hS ⟨hk.symm, fun _ => ⟨rfl, by show (r9 : Int32).toInt64 = _; rw [hu9]⟩, fun h => absurd hk h⟩
  · have hb9 : Bx l D cA (wX a cA F g) yX0_owing wsX0_owing rbX0_owing [.ref (a 16), .int z0, .int z1] eI := by have h9 := b_X0_owing l D cA hl9 a F g N hW z0 z1 (by rw [hk]; decide); rw [hk] at h9; exact h9
    refine lv_aload_n hx hb dL_owing_0 rfl (lv_at hl 3 rfl) ?_
    refine lv_iconst (v := 0) hx hb dL_owing_1 (by decide) ?_
    refine lv_aload_n hx hb dL_owing_2 rfl (lv_at hl 0 rfl) ?_
    refine lv_iload_n hx hb dL_owing_3 rfl (lv_at hl 1 rfl) ?_
    refine lv_iload_n hx hb dL_owing_4 rfl (lv_at hl 2 rfl) ?_
    refine Bx.catch (E := eI) (name := "java/lang/IndexOutOfBoundsException") (own := RL) (w := (wL a cA F g ob cL fo)) (vx_runV (rest := [.int 0, .ref ob]) ⟨hx, hb, hml, hown, hts⟩ (hb9 s.heap.size) (cwV 2 hts gL_owing_X0_owing rfl rfl rfl (by decide +kernel) ⟨Nat.le_of_ble_eq_true rfl, Nat.le_of_ble_eq_true rfl⟩) ⟨(PreBx (As := [.ref (a 16), .int z0, .int z1]) rfl hKA (hP.sub [0, 1, 2, 3, 4, 5, 6, 7, 8, 9, 10, 11, 12, 13] rfl : va_P D vwCl (wX a cA F g) s.heap) hZ.1).1, va_recv hKA (hP.sub [0, 1, 2, 3, 4, 5, 6, 7, 8, 9, 10, 11, 12, 13] rfl : va_P D vwCl (wX a cA F g) s.heap) (ci := 0) (q0 := 0) rfl rfl, (PreBx (As := [.ref (a 16), .int z0, .int z1]) rfl hKA (hP.sub [0, 1, 2, 3, 4, 5, 6, 7, 8, 9, 10, 11, 12, 13] rfl : va_P D vwCl (wX a cA F g) s.heap) hZ.1).2⟩ rfl rfl hl.1 rfl (lv_room (Nat.le_of_ble_eq_true rfl)) dL_owing_5 ⟨Nat.le_of_ble_eq_true rfl, Nat.le_of_ble_eq_true rfl⟩) (fun _ _ _ h => h) hown [] ⟨0, 10, 13, 13⟩ [] (htab.trans rfl) (fun z hz => nomatch hz) (by decide) (by decide) (hts (.classLink RL 13 "java/lang/IndexOutOfBoundsException") (by decide +kernel)) (va_Nw.use rfl hZ.1.2.2.2.2.2.1) hP hA (fun q9 H locs hP hS => ?_)
    refine lv_astore (lv' := [(4, .ref q9), (0, .ref (a 16)), (1, .int z0), (2, .int z1), (3, .ref ob)]) hx hb dL_owing_13 hl (by decide) rfl (fun ls hl => ?_)
    refine lv_iconst (v := 1) hx hb dL_owing_15 (by decide) ?_
    exact hend 16 ls _ (F, g, fo) _ _ dL_owing_16 hP hD hS ⟨hk.symm, fun h => absurd (hk.symm.trans h) (by decide), fun _ => rfl⟩

abbrev rmL_toBill : Room := { frames := 8, cells := 1, slots := 6, locals := 168 }
set_option maxHeartbeats 4000000 in
set_option maxRecDepth 100000 in
theorem c_L_toBill (l : Launch) (hl9 : l.stackTraces = false) (D : va_G) (cA cL : ClassId) (a : Nat → Nat) (F : Nat → Nat → Int32) (g : Nat → Int32) (ob : Nat) (fo : Nat → Int64) (N : Nat) (hW : wf F N) (z0 z1 : Int32) : Lw l D cA cL (S := (Nat → Nat → Int32) × (Nat → Int32) × (Nat → Int64)) (wL a cA F g ob cL fo) (fun u => wL a cA u.1 u.2.1 ob cL u.2.2) yL_toBill wsL_toBill rmL_toBill [.ref (a 16), .int z0, .int z1, .ref ob] (fun r u => r = kSW z0 z1 ∧ (kSW z0 z1 = 0 → u.1 = F ∧ u.2.2 0 = (ps (tCt F N z0 z1) N - F 13 (z0.toNatClampNeg * 20 + z1.toNatClampNeg) : Int32).toInt64) ∧ (kSW z0 z1 ≠ 0 → u.1 = F)) := by
  refine Lw.of (cc := cL_toBill) (maxL := 5) (by decide) rfl (Nat.le_of_ble_eq_true rfl) ?_
  intro p e s m args below meth c ls A Q hx hb hts hown hml hK hP hD hA hS hl htab hZ hend
  have hown : s.vm.findClass RL = some m.cls := hown
  have hKA : KA D cA s := hK.sub [0] rfl
  have hl : lv_has ls 5 [(0, .ref (a 16)), (1, .int z0), (2, .int z1), (3, .ref ob)] := hl
  rcases kSW_r z0 z1 with hk | hk
  · obtain ⟨h1, h2⟩ := kSW_0 z0 z1 hk
    refine lv_aload_n hx hb dL_toBill_0 rfl (lv_at hl 3 rfl) ?_
    refine lv_iconst (v := 0) hx hb dL_toBill_1 (by decide) ?_
    refine lv_aload_n hx hb dL_toBill_2 rfl (lv_at hl 0 rfl) ?_
    refine lv_iload_n hx hb dL_toBill_3 rfl (lv_at hl 1 rfl) ?_
    refine lv_iload_n hx hb dL_toBill_4 rfl (lv_at hl 2 rfl) ?_
    refine Wi.callV (rest := [.int 0, .ref ob]) (q0 := 0) (ci := 0) (wr := wO ob cL fo) [0, 1, 2, 3, 4, 5, 6, 7, 8, 9, 10, 11, 12, 13] [14] ⟨hx, hb, hml, hown, hts⟩ (c_X0_toBill l D cA a F g N hW z0 z1 h1 h2) (cwV 2 hts gL_toBill_X0_toBill rfl rfl rfl (by decide +kernel) ⟨Nat.le_of_ble_eq_true rfl, Nat.le_of_ble_eq_true rfl⟩) hKA hP hD hS hA rfl rfl (by decide) (by decide) (by decide) rfl rfl rfl rfl rfl hl.1 (Nat.le_of_ble_eq_true rfl) dL_toBill_5 ⟨Nat.zero_le _, Nat.zero_le _⟩ (fun r9 u9 H locs hu9 hP hD hS => ?_)
    have hP : va_P D vwCl (wL a cA (F) u9 ob cL fo) H := hP.sub [1, 2, 3, 4, 5, 6, 7, 8, 9, 10, 11, 12, 13, 14, 0] rfl
    have hD : va_D A (wL a cA (F) u9 ob cL fo) := hD.sub [1, 2, 3, 4, 5, 6, 7, 8, 9, 10, 11, 12, 13, 14, 0] (by decide) rfl
    have hu9 : r9 = ps (tCt F N z0 z1) N - F 13 (z0.toNatClampNeg * 20 + z1.toNatClampNeg) := hu9
    refine lv_i2l (v := (r9 : Int32).toInt64) hx hb dL_toBill_8 rfl ?_
    refine va_last hx hb hK hP hD hS 14 1 rfl rfl (vp_in_nI (n := 0) (N := 1) (by decide) (by decide)) dL_toBill_9 (fun H locs hP hD hS => ?_)
    have hP : va_P D vwCl (wL a cA (F) u9 ob cL (vp_updL fo 0 ((r9 : Int32).toInt64))) H := hP
    have hD : va_D A (wL a cA (F) u9 ob cL (vp_updL fo 0 ((r9 : Int32).toInt64))) := hD
    refine lv_goto (tgt := 17) hx hb dL_toBill_10 (by decide) ?_
    refine lv_iconst (v := 0) hx hb dL_toBill_17 (by decide) ?_
    refine W.widen (k := 1) (n := 6) (Nat.zero_le _) (Nat.zero_le _) ?_
    exact hend 18 ls _ ((F), u9, (vp_updL fo 0 ((r9 : Int32).toInt64))) _ _ dL_toBill_18 hP hD hS ⟨hk.symm, fun _ => ⟨rfl, by show (r9 : Int32).toInt64 = _; rw [hu9]⟩, fun h => absurd hk h⟩
  · have hb9 : Bx l D cA (wX a cA F g) yX0_toBill wsX0_toBill rbX0_toBill [.ref (a 16), .int z0, .int z1] eI := by have h9 := b_X0_toBill l D cA hl9 a F g N hW z0 z1 (by rw [hk]; decide); rw [hk] at h9; exact h9
    refine lv_aload_n hx hb dL_toBill_0 rfl (lv_at hl 3 rfl) ?_
    refine lv_iconst (v := 0) hx hb dL_toBill_1 (by decide) ?_
    refine lv_aload_n hx hb dL_toBill_2 rfl (lv_at hl 0 rfl) ?_
    refine lv_iload_n hx hb dL_toBill_3 rfl (lv_at hl 1 rfl) ?_
    refine lv_iload_n hx hb dL_toBill_4 rfl (lv_at hl 2 rfl) ?_
    refine Bx.catch (E := eI) (name := "java/lang/IndexOutOfBoundsException") (own := RL) (w := (wL a cA F g ob cL fo)) (vx_runV (rest := [.int 0, .ref ob]) ⟨hx, hb, hml, hown, hts⟩ (hb9 s.heap.size) (cwV 2 hts gL_toBill_X0_toBill rfl rfl rfl (by decide +kernel) ⟨Nat.le_of_ble_eq_true rfl, Nat.le_of_ble_eq_true rfl⟩) ⟨(PreBx (As := [.ref (a 16), .int z0, .int z1]) rfl hKA (hP.sub [0, 1, 2, 3, 4, 5, 6, 7, 8, 9, 10, 11, 12, 13] rfl : va_P D vwCl (wX a cA F g) s.heap) hZ.1).1, va_recv hKA (hP.sub [0, 1, 2, 3, 4, 5, 6, 7, 8, 9, 10, 11, 12, 13] rfl : va_P D vwCl (wX a cA F g) s.heap) (ci := 0) (q0 := 0) rfl rfl, (PreBx (As := [.ref (a 16), .int z0, .int z1]) rfl hKA (hP.sub [0, 1, 2, 3, 4, 5, 6, 7, 8, 9, 10, 11, 12, 13] rfl : va_P D vwCl (wX a cA F g) s.heap) hZ.1).2⟩ rfl rfl hl.1 rfl (lv_room (Nat.le_of_ble_eq_true rfl)) dL_toBill_5 ⟨Nat.le_of_ble_eq_true rfl, Nat.le_of_ble_eq_true rfl⟩) (fun _ _ _ h => h) hown [] ⟨0, 10, 13, 13⟩ [] (htab.trans rfl) (fun z hz => nomatch hz) (by decide) (by decide) (hts (.classLink RL 13 "java/lang/IndexOutOfBoundsException") (by decide +kernel)) (va_Nw.use rfl hZ.1.2.2.2.2.2.1) hP hA (fun q9 H locs hP hS => ?_)
    refine lv_astore (lv' := [(4, .ref q9), (0, .ref (a 16)), (1, .int z0), (2, .int z1), (3, .ref ob)]) hx hb dL_toBill_13 hl (by decide) rfl (fun ls hl => ?_)
    refine lv_iconst (v := 1) hx hb dL_toBill_15 (by decide) ?_
    exact hend 16 ls _ (F, g, fo) _ _ dL_toBill_16 hP hD hS ⟨hk.symm, fun h => absurd (hk.symm.trans h) (by decide), fun _ => rfl⟩

abbrev rmL_run : Room := { frames := 8, cells := 1, slots := 6, locals := 171 }
set_option maxHeartbeats 4000000 in
set_option maxRecDepth 100000 in
theorem c_L_run (l : Launch) (hl9 : l.stackTraces = false) (D : va_G) (cA cL : ClassId) (a : Nat → Nat) (F : Nat → Nat → Int32) (g : Nat → Int32) (ob : Nat) (fo : Nat → Int64) (N : Nat) (hW : wf F N) (z0 : Int32) : Lw l D cA cL (S := (Nat → Nat → Int32) × (Nat → Int32) × (Nat → Int64)) (wL a cA F g ob cL fo) (fun u => wL a cA u.1 u.2.1 ob cL u.2.2) yL_run wsL_run rmL_run [.ref (a 16), .int z0, .ref ob] (fun r u => r = kWk z0 ∧ (kWk z0 = 0 → u.1 = runB F N z0.toNatClampNeg 4 ∧ u.2.2 0 = (sRun F N z0.toNatClampNeg : Int32).toInt64) ∧ (kWk z0 ≠ 0 → u.1 = F)) := by
  refine Lw.of (cc := cL_run) (maxL := 4) (by decide) rfl (Nat.le_of_ble_eq_true rfl) ?_
  intro p e s m args below meth c ls A Q hx hb hts hown hml hK hP hD hA hS hl htab hZ hend
  have hown : s.vm.findClass RL = some m.cls := hown
  have hKA : KA D cA s := hK.sub [0] rfl
  have hl : lv_has ls 4 [(0, .ref (a 16)), (1, .int z0), (2, .ref ob)] := hl
  rcases kWk_r z0 with hk | hk
  · have h1 := kWk_0 z0 hk
    refine lv_aload_n hx hb dL_run_0 rfl (lv_at hl 2 rfl) ?_
    refine lv_iconst (v := 0) hx hb dL_run_1 (by decide) ?_
    refine lv_aload_n hx hb dL_run_2 rfl (lv_at hl 0 rfl) ?_
    refine lv_iload_n hx hb dL_run_3 rfl (lv_at hl 1 rfl) ?_
    refine Wi.callV (rest := [.int 0, .ref ob]) (q0 := 0) (ci := 0) (wr := wO ob cL fo) [0, 1, 2, 3, 4, 5, 6, 7, 8, 9, 10, 11, 12, 13] [14] ⟨hx, hb, hml, hown, hts⟩ (c_X0_run l D cA a F g N hW z0 h1) (cwV 1 hts gL_run_X0_run rfl rfl rfl (by decide +kernel) ⟨Nat.le_of_ble_eq_true rfl, Nat.le_of_ble_eq_true rfl⟩) hKA hP hD hS hA rfl rfl (by decide) (by decide) (by decide) rfl rfl rfl rfl rfl hl.1 (Nat.le_of_ble_eq_true rfl) dL_run_4 ⟨Nat.zero_le _, Nat.zero_le _⟩ (fun r9 u9 H locs hu9 hP hD hS => ?_)
    have hP : va_P D vwCl (wL a cA (runB F N z0.toNatClampNeg 4) u9 ob cL fo) H := hP.sub [1, 2, 3, 4, 5, 6, 7, 8, 9, 10, 11, 12, 13, 14, 0] rfl
    have hD : va_D A (wL a cA (runB F N z0.toNatClampNeg 4) u9 ob cL fo) := hD.sub [1, 2, 3, 4, 5, 6, 7, 8, 9, 10, 11, 12, 13, 14, 0] (by decide) rfl
    have hu9 : r9 = sRun F N z0.toNatClampNeg := hu9
    refine lv_i2l (v := (r9 : Int32).toInt64) hx hb dL_run_7 rfl ?_
    refine va_last hx hb hK hP hD hS 14 1 rfl rfl (vp_in_nI (n := 0) (N := 1) (by decide) (by decide)) dL_run_8 (fun H locs hP hD hS => ?_)
    have hP : va_P D vwCl (wL a cA (runB F N z0.toNatClampNeg 4) u9 ob cL (vp_updL fo 0 ((r9 : Int32).toInt64))) H := hP
    have hD : va_D A (wL a cA (runB F N z0.toNatClampNeg 4) u9 ob cL (vp_updL fo 0 ((r9 : Int32).toInt64))) := hD
    refine lv_goto (tgt := 15) hx hb dL_run_9 (by decide) ?_
    refine lv_iconst (v := 0) hx hb dL_run_15 (by decide) ?_
    refine W.widen (k := 1) (n := 6) (Nat.zero_le _) (Nat.zero_le _) ?_
    exact hend 16 ls _ ((runB F N z0.toNatClampNeg 4), u9, (vp_updL fo 0 ((r9 : Int32).toInt64))) _ _ dL_run_16 hP hD hS ⟨hk.symm, fun _ => ⟨rfl, by show (r9 : Int32).toInt64 = _; rw [hu9]⟩, fun h => absurd hk h⟩
  · have hb9 : Bx l D cA (wX a cA F g) yX0_run wsX0_run rbX0_run [.ref (a 16), .int z0] eI := by have h9 := b_X0_run l D cA hl9 a F g N hW z0 (by rw [hk]; decide); rw [hk] at h9; exact h9
    refine lv_aload_n hx hb dL_run_0 rfl (lv_at hl 2 rfl) ?_
    refine lv_iconst (v := 0) hx hb dL_run_1 (by decide) ?_
    refine lv_aload_n hx hb dL_run_2 rfl (lv_at hl 0 rfl) ?_
    refine lv_iload_n hx hb dL_run_3 rfl (lv_at hl 1 rfl) ?_
    refine Bx.catch (E := eI) (name := "java/lang/IndexOutOfBoundsException") (own := RL) (w := (wL a cA F g ob cL fo)) (vx_runV (rest := [.int 0, .ref ob]) ⟨hx, hb, hml, hown, hts⟩ (hb9 s.heap.size) (cwV 1 hts gL_run_X0_run rfl rfl rfl (by decide +kernel) ⟨Nat.le_of_ble_eq_true rfl, Nat.le_of_ble_eq_true rfl⟩) ⟨(PreBx (As := [.ref (a 16), .int z0]) rfl hKA (hP.sub [0, 1, 2, 3, 4, 5, 6, 7, 8, 9, 10, 11, 12, 13] rfl : va_P D vwCl (wX a cA F g) s.heap) hZ.1).1, va_recv hKA (hP.sub [0, 1, 2, 3, 4, 5, 6, 7, 8, 9, 10, 11, 12, 13] rfl : va_P D vwCl (wX a cA F g) s.heap) (ci := 0) (q0 := 0) rfl rfl, (PreBx (As := [.ref (a 16), .int z0]) rfl hKA (hP.sub [0, 1, 2, 3, 4, 5, 6, 7, 8, 9, 10, 11, 12, 13] rfl : va_P D vwCl (wX a cA F g) s.heap) hZ.1).2⟩ rfl rfl hl.1 rfl (lv_room (Nat.le_of_ble_eq_true rfl)) dL_run_4 ⟨Nat.le_of_ble_eq_true rfl, Nat.le_of_ble_eq_true rfl⟩) (fun _ _ _ h => h) hown [] ⟨0, 9, 12, 13⟩ [] (htab.trans rfl) (fun z hz => nomatch hz) (by decide) (by decide) (hts (.classLink RL 13 "java/lang/IndexOutOfBoundsException") (by decide +kernel)) (va_Nw.use rfl hZ.1.2.2.2.2.2.1) hP hA (fun q9 H locs hP hS => ?_)
    refine lv_astore_n (lv' := [(3, .ref q9), (0, .ref (a 16)), (1, .int z0), (2, .ref ob)]) hx hb dL_run_12 rfl hl (by decide) rfl (fun ls hl => ?_)
    refine lv_iconst (v := 1) hx hb dL_run_13 (by decide) ?_
    exact hend 14 ls _ (F, g, fo) _ _ dL_run_14 hP hD hS ⟨hk.symm, fun h => absurd (hk.symm.trans h) (by decide), fun _ => rfl⟩


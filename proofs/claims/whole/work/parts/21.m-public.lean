/-! the public methods of the reference, by program (wip/whole/gen) -/
abbrev rmX1_goes : Room := { frames := 0, cells := 0, slots := 0, locals := 0 }
abbrev rmX1_setRates : Room := { frames := 2, cells := 0, slots := 0, locals := 42 }
abbrev rmX1_setMargins : Room := { frames := 2, cells := 0, slots := 0, locals := 42 }
abbrev rmX1_setEqual : Room := { frames := 1, cells := 0, slots := 0, locals := 22 }
abbrev rmX1_shift : Room := { frames := 2, cells := 0, slots := 0, locals := 42 }
abbrev rmX1_correct : Room := { frames := 2, cells := 0, slots := 0, locals := 43 }
abbrev rmX1_takeHoliday : Room := { frames := 2, cells := 0, slots := 0, locals := 44 }
abbrev rmX1_holiday : Room := { frames := 2, cells := 0, slots := 0, locals := 44 }
abbrev rmX1_shifts : Room := { frames := 0, cells := 0, slots := 0, locals := 0 }
abbrev rmX1_hours : Room := { frames := 2, cells := 0, slots := 0, locals := 42 }
abbrev rmX1_overtime : Room := { frames := 2, cells := 0, slots := 0, locals := 43 }
abbrev rmX1_payOf : Room := { frames := 3, cells := 0, slots := 0, locals := 76 }
abbrev rmX1_chargeOf : Room := { frames := 4, cells := 0, slots := 0, locals := 100 }
abbrev rmX1_hasEqual : Room := { frames := 2, cells := 0, slots := 0, locals := 52 }
abbrev rmX1_pay : Room := { frames := 4, cells := 0, slots := 0, locals := 100 }
abbrev rmX1_payByHours : Room := { frames := 4, cells := 0, slots := 0, locals := 100 }
abbrev rmX1_paid : Room := { frames := 2, cells := 0, slots := 0, locals := 42 }
abbrev rmX1_billed : Room := { frames := 2, cells := 0, slots := 0, locals := 42 }
abbrev rmX1_owing : Room := { frames := 4, cells := 0, slots := 0, locals := 100 }
abbrev rmX1_toBill : Room := { frames := 5, cells := 0, slots := 0, locals := 124 }
abbrev rmX1_run : Room := { frames := 5, cells := 0, slots := 0, locals := 124 }
set_option maxHeartbeats 4000000 in
set_option maxRecDepth 100000 in
theorem c_X1_goes (l : Launch) (D : va_G) (cA : ClassId) (a : Nat → Nat) (F : Nat → Nat → Int32) (th : Int32) (k v : Int32) (hv : (if k = 0 then 1 else 0) = v) : Wi l D cA (S := Unit) (wM a cA F th) (fun _ => wM a cA F k) yX1_goes wsX1_goes rmX1_goes [.ref (a 16), .int k] (fun r _ => r = v) := by
  refine Wi.ofz (cc := cX1_goes) (maxL := 2) (by decide) rfl (Nat.le_of_ble_eq_true rfl) ?_
  intro p e s m args below meth c ls A Q hx hb hts hown hml hK hP hD hA hS hl hend
  have hown : s.vm.findClass RX1 = some m.cls := hown
  have hi : ∀ w ∈ wsX10, w ∈ wsX1_goes := by decide +kernel
  have hl : lv_has ls 2 [(0, .ref (a 16)), (1, .int k)] := hl
  refine lv_aload_n hx hb dX1_goes_0 rfl (lv_at hl 0 rfl) ?_
  refine lv_iload_n hx hb dX1_goes_1 rfl (lv_at hl 1 rfl) ?_
  refine va_put (D := D) (ci := 1) (v := .int k) (ty := .int) (C := RX1) (T := TX1) (N := 16) hx hb hts hi tyX1 tyX1_ok nmX1 hown hK hP hD hS 0 rfl rfl 15 (by decide) (hts (.fieldLink RX1 53 "AssignmentHouseModel" "thrown" "I") (by decide +kernel)) (fun _ h9 => h9) rfl (by decide +kernel) rfl rfl (Nat.le_of_ble_eq_true rfl) dX1_goes_2 (fun H locs hP hD hS => ?_)
  have hP : va_P D vwCl (wM a cA F k) H := hP
  have hD : va_D A (wM a cA F k) := hD
  refine lv_iload_n hx hb dX1_goes_5 rfl (lv_at hl 1 rfl) ?_
  refine lv_if_ne (tgt := 13) hx hb dX1_goes_6 (by decide) (fun c_6 => ?_) (fun c_6 => ?_)
  · skip
    refine lv_iconst (v := 0) hx hb dX1_goes_13 (by decide) ?_
    exact hend 14 ls _ () _ _ dX1_goes_14 hP hD hS (by rw [← hv, if_neg c_6]) (Or.inl rfl)
  · skip
    refine lv_iconst (v := 1) hx hb dX1_goes_9 (by decide) ?_
    refine lv_goto (tgt := 14) hx hb dX1_goes_10 (by decide) ?_
    exact hend 14 ls _ () _ _ dX1_goes_14 hP hD hS (by rw [← hv, if_pos c_6]) (Or.inr rfl)

set_option maxHeartbeats 4000000 in
set_option maxRecDepth 100000 in
theorem c_X1_setRates (l : Launch) (D : va_G) (cA : ClassId) (a : Nat → Nat) (F : Nat → Nat → Int32) (th : Int32) (N : Nat) (hW : wf F N) (z0 z1 z2 : Int32) : Wv l D cA (S := (Nat → Nat → Int32) × Int32) (wM a cA F th) (fun u => wM a cA u.1 u.2) yX1_setRates wsX1_setRates rmX1_setRates [.ref (a 16), .int z0, .int z1, .int z2] (fun u => u.2 = kRates z0 z1 z2 ∧ (kRates z0 z1 z2 = 0 → u.1 = fUp (fUp F 0 z0.toNatClampNeg z1) 1 z0.toNatClampNeg z2) ∧ (kRates z0 z1 z2 ≠ 0 → u.1 = F)) := by
  refine Wv.of (cc := cX1_setRates) (maxL := 5) (by decide) rfl (Nat.le_of_ble_eq_true rfl) ?_
  intro p e s m args below meth c ls A Q hx hb hts hown hml hK hP hD hA hS hl hend
  have hown : s.vm.findClass RX1 = some m.cls := hown
  have hi : ∀ w ∈ wsX10, w ∈ wsX1_setRates := by decide +kernel
  have hl : lv_has ls 5 [(0, .ref (a 16)), (1, .int z0), (2, .int z1), (3, .int z2)] := hl
  have hN : N ≤ 80 := hW.n
  have hc : F 7 0 = nI N := hW.c
  refine lv_iload_n hx hb dX1_setRates_0 rfl (lv_at hl 2 rfl) ?_
  refine lv_iconst (v := 1) hx hb dX1_setRates_1 (by decide) ?_
  refine lv_sipush (v := 10000) hx hb dX1_setRates_2 (by decide) ?_
  refine Rd.callS (rest := []) ⟨hx, hb, hml, hown, hts⟩ (c_X1_isIn l D cA z1 1 10000) (va_cwS 3 hts gX1_setRates_X1_isIn rfl rfl rfl (by decide +kernel) ⟨Nat.le_of_ble_eq_true rfl, Nat.le_of_ble_eq_true rfl⟩) hK noP rfl rfl hl.1 (Nat.le_of_ble_eq_true rfl) dX1_setRates_5 ⟨Nat.zero_le _, Nat.zero_le _⟩ ?_
  refine lv_if_eq (tgt := 26) hx hb dX1_setRates_8 (by decide) (fun c_8 => ?_) (fun c_8 => ?_)
  · skip
    have h2 : ¬ cR z1 1 10000 := fun h => absurd c_8 (by rw [if_pos h]; decide)
    refine lv_iconst (v := 0) hx hb dX1_setRates_26 (by decide) ?_
    refine lv_istore (lv' := [(4, .int 0), (0, .ref (a 16)), (1, .int z0), (2, .int z1), (3, .int z2)]) hx hb dX1_setRates_27 hl (by decide) rfl (fun ls hl => ?_)
    refine lv_aload_n hx hb dX1_setRates_29 rfl (lv_at hl 1 rfl) ?_
    refine lv_iload_n hx hb dX1_setRates_30 rfl (lv_at hl 2 rfl) ?_
    refine Rd.callS (rest := [.ref (a 16)]) ⟨hx, hb, hml, hown, hts⟩ (c_X1_isSite l D cA z0) (va_cwS 1 hts gX1_setRates_X1_isSite rfl rfl rfl (by decide +kernel) ⟨Nat.le_of_ble_eq_true rfl, Nat.le_of_ble_eq_true rfl⟩) hK noP rfl rfl hl.1 (Nat.le_of_ble_eq_true rfl) dX1_setRates_31 ⟨Nat.zero_le _, Nat.zero_le _⟩ ?_
    refine lv_if_ne (tgt := 41) hx hb dX1_setRates_34 (by decide) (fun c_34 => ?_) (fun c_34 => ?_)
    · skip
      have h1 : cI z0 4 := Classical.byContradiction (fun h => c_34 (if_neg h))
      obtain ⟨hjz0, ejz0⟩ := cI_of h1 (n := 4) (rfl) (by omega)
      refine lv_iload hx hb dX1_setRates_41 (lv_at hl 0 rfl) ?_
      refine lv_if_eq (tgt := 50) hx hb dX1_setRates_43 (by decide) (fun c_43 => ?_) (fun c_43 => (absurd (by decide) c_43 : False).elim)
      refine lv_iconst (v := 2) hx hb dX1_setRates_50 (by decide) ?_
      refine Wi.callV (rest := []) (q0 := 0) (ci := 1) (wr := []) [0, 1, 2, 3, 4, 5, 6, 7, 8, 9, 10, 11, 12] [] ⟨hx, hb, hml, hown, hts⟩ (c_X1_goes l D cA a F th 2 0 (by decide)) (cwV 1 hts gX1_setRates_X1_goes rfl rfl rfl (by decide +kernel) ⟨Nat.le_of_ble_eq_true rfl, Nat.le_of_ble_eq_true rfl⟩) hK hP hD hS hA rfl rfl (by decide) (by decide) (by decide) rfl rfl rfl rfl rfl hl.1 (Nat.le_of_ble_eq_true rfl) dX1_setRates_51 ⟨Nat.zero_le _, Nat.zero_le _⟩ (fun r9 u9 H locs hu9 hP hD hS => ?_)
      subst hu9
      have hP : va_P D vwCl (wM a cA F 2) H := hP
      have hD : va_D A (wM a cA F 2) := hD
      refine lv_if_eq (tgt := 71) hx hb dX1_setRates_54 (by decide) (fun c_54 => ?_) (fun c_54 => (absurd (by decide) c_54 : False).elim)
      have hk9 : kRates z0 z1 z2 = 2 := by rw [kRates, if_pos h1, if_neg h2]
      exact hend 71 ls (F, 2) _ _ dX1_setRates_71 hP hD hS ⟨hk9.symm, fun h => absurd (hk9.symm.trans h) (by decide), fun _ => rfl⟩
    · skip
      have h1 : ¬ cI z0 4 := fun h => absurd c_34 (by rw [if_pos h]; decide)
      refine lv_iconst (v := 1) hx hb dX1_setRates_37 (by decide) ?_
      refine lv_goto (tgt := 51) hx hb dX1_setRates_38 (by decide) ?_
      refine Wi.callV (rest := []) (q0 := 0) (ci := 1) (wr := []) [0, 1, 2, 3, 4, 5, 6, 7, 8, 9, 10, 11, 12] [] ⟨hx, hb, hml, hown, hts⟩ (c_X1_goes l D cA a F th 1 0 (by decide)) (cwV 1 hts gX1_setRates_X1_goes rfl rfl rfl (by decide +kernel) ⟨Nat.le_of_ble_eq_true rfl, Nat.le_of_ble_eq_true rfl⟩) hK hP hD hS hA rfl rfl (by decide) (by decide) (by decide) rfl rfl rfl rfl rfl hl.1 (Nat.le_of_ble_eq_true rfl) dX1_setRates_51 ⟨Nat.zero_le _, Nat.zero_le _⟩ (fun r9 u9 H locs hu9 hP hD hS => ?_)
      subst hu9
      have hP : va_P D vwCl (wM a cA F 1) H := hP
      have hD : va_D A (wM a cA F 1) := hD
      refine lv_if_eq (tgt := 71) hx hb dX1_setRates_54 (by decide) (fun c_54 => ?_) (fun c_54 => (absurd (by decide) c_54 : False).elim)
      have hk9 : kRates z0 z1 z2 = 1 := by rw [kRates, if_neg h1]
      exact hend 71 ls (F, 1) _ _ dX1_setRates_71 hP hD hS ⟨hk9.symm, fun h => absurd (hk9.symm.trans h) (by decide), fun _ => rfl⟩
  · skip
    have h2 : cR z1 1 10000 := Classical.byContradiction (fun h => c_8 (if_neg h))
    refine lv_iload_n hx hb dX1_setRates_11 rfl (lv_at hl 3 rfl) ?_
    refine lv_iload_n hx hb dX1_setRates_12 rfl (lv_at hl 2 rfl) ?_
    refine lv_sipush (v := 10000) hx hb dX1_setRates_13 (by decide) ?_
    refine Rd.callS (rest := []) ⟨hx, hb, hml, hown, hts⟩ (c_X1_isIn l D cA z2 z1 10000) (va_cwS 3 hts gX1_setRates_X1_isIn rfl rfl rfl (by decide +kernel) ⟨Nat.le_of_ble_eq_true rfl, Nat.le_of_ble_eq_true rfl⟩) hK noP rfl rfl hl.1 (Nat.le_of_ble_eq_true rfl) dX1_setRates_16 ⟨Nat.zero_le _, Nat.zero_le _⟩ ?_
    refine lv_if_eq (tgt := 26) hx hb dX1_setRates_19 (by decide) (fun c_19 => ?_) (fun c_19 => ?_)
    · skip
      have h3 : ¬ cR z2 z1 10000 := fun h => absurd c_19 (by rw [if_pos h]; decide)
      refine lv_iconst (v := 0) hx hb dX1_setRates_26 (by decide) ?_
      refine lv_istore (lv' := [(4, .int 0), (0, .ref (a 16)), (1, .int z0), (2, .int z1), (3, .int z2)]) hx hb dX1_setRates_27 hl (by decide) rfl (fun ls hl => ?_)
      refine lv_aload_n hx hb dX1_setRates_29 rfl (lv_at hl 1 rfl) ?_
      refine lv_iload_n hx hb dX1_setRates_30 rfl (lv_at hl 2 rfl) ?_
      refine Rd.callS (rest := [.ref (a 16)]) ⟨hx, hb, hml, hown, hts⟩ (c_X1_isSite l D cA z0) (va_cwS 1 hts gX1_setRates_X1_isSite rfl rfl rfl (by decide +kernel) ⟨Nat.le_of_ble_eq_true rfl, Nat.le_of_ble_eq_true rfl⟩) hK noP rfl rfl hl.1 (Nat.le_of_ble_eq_true rfl) dX1_setRates_31 ⟨Nat.zero_le _, Nat.zero_le _⟩ ?_
      refine lv_if_ne (tgt := 41) hx hb dX1_setRates_34 (by decide) (fun c_34 => ?_) (fun c_34 => ?_)
      · skip
        have h1 : cI z0 4 := Classical.byContradiction (fun h => c_34 (if_neg h))
        obtain ⟨hjz0, ejz0⟩ := cI_of h1 (n := 4) (rfl) (by omega)
        refine lv_iload hx hb dX1_setRates_41 (lv_at hl 0 rfl) ?_
        refine lv_if_eq (tgt := 50) hx hb dX1_setRates_43 (by decide) (fun c_43 => ?_) (fun c_43 => (absurd (by decide) c_43 : False).elim)
        refine lv_iconst (v := 2) hx hb dX1_setRates_50 (by decide) ?_
        refine Wi.callV (rest := []) (q0 := 0) (ci := 1) (wr := []) [0, 1, 2, 3, 4, 5, 6, 7, 8, 9, 10, 11, 12] [] ⟨hx, hb, hml, hown, hts⟩ (c_X1_goes l D cA a F th 2 0 (by decide)) (cwV 1 hts gX1_setRates_X1_goes rfl rfl rfl (by decide +kernel) ⟨Nat.le_of_ble_eq_true rfl, Nat.le_of_ble_eq_true rfl⟩) hK hP hD hS hA rfl rfl (by decide) (by decide) (by decide) rfl rfl rfl rfl rfl hl.1 (Nat.le_of_ble_eq_true rfl) dX1_setRates_51 ⟨Nat.zero_le _, Nat.zero_le _⟩ (fun r9 u9 H locs hu9 hP hD hS => ?_)
        subst hu9
        have hP : va_P D vwCl (wM a cA F 2) H := hP
        have hD : va_D A (wM a cA F 2) := hD
        refine lv_if_eq (tgt := 71) hx hb dX1_setRates_54 (by decide) (fun c_54 => ?_) (fun c_54 => (absurd (by decide) c_54 : False).elim)
        have hk9 : kRates z0 z1 z2 = 2 := by rw [kRates, if_pos h1, if_pos h2, if_neg h3]
        exact hend 71 ls (F, 2) _ _ dX1_setRates_71 hP hD hS ⟨hk9.symm, fun h => absurd (hk9.symm.trans h) (by decide), fun _ => rfl⟩
      · skip
        have h1 : ¬ cI z0 4 := fun h => absurd c_34 (by rw [if_pos h]; decide)
        refine lv_iconst (v := 1) hx hb dX1_setRates_37 (by decide) ?_
        refine lv_goto (tgt := 51) hx hb dX1_setRates_38 (by decide) ?_
        refine Wi.callV (rest := []) (q0 := 0) (ci := 1) (wr := []) [0, 1, 2, 3, 4, 5, 6, 7, 8, 9, 10, 11, 12] [] ⟨hx, hb, hml, hown, hts⟩ (c_X1_goes l D cA a F th 1 0 (by decide)) (cwV 1 hts gX1_setRates_X1_goes rfl rfl rfl (by decide +kernel) ⟨Nat.le_of_ble_eq_true rfl, Nat.le_of_ble_eq_true rfl⟩) hK hP hD hS hA rfl rfl (by decide) (by decide) (by decide) rfl rfl rfl rfl rfl hl.1 (Nat.le_of_ble_eq_true rfl) dX1_setRates_51 ⟨Nat.zero_le _, Nat.zero_le _⟩ (fun r9 u9 H locs hu9 hP hD hS => ?_)
        subst hu9
        have hP : va_P D vwCl (wM a cA F 1) H := hP
        have hD : va_D A (wM a cA F 1) := hD
        refine lv_if_eq (tgt := 71) hx hb dX1_setRates_54 (by decide) (fun c_54 => ?_) (fun c_54 => (absurd (by decide) c_54 : False).elim)
        have hk9 : kRates z0 z1 z2 = 1 := by rw [kRates, if_neg h1]
        exact hend 71 ls (F, 1) _ _ dX1_setRates_71 hP hD hS ⟨hk9.symm, fun h => absurd (hk9.symm.trans h) (by decide), fun _ => rfl⟩
    · skip
      have h3 : cR z2 z1 10000 := Classical.byContradiction (fun h => c_19 (if_neg h))
      refine lv_iconst (v := 1) hx hb dX1_setRates_22 (by decide) ?_
      refine lv_goto (tgt := 27) hx hb dX1_setRates_23 (by decide) ?_
      refine lv_istore (lv' := [(4, .int 1), (0, .ref (a 16)), (1, .int z0), (2, .int z1), (3, .int z2)]) hx hb dX1_setRates_27 hl (by decide) rfl (fun ls hl => ?_)
      refine lv_aload_n hx hb dX1_setRates_29 rfl (lv_at hl 1 rfl) ?_
      refine lv_iload_n hx hb dX1_setRates_30 rfl (lv_at hl 2 rfl) ?_
      refine Rd.callS (rest := [.ref (a 16)]) ⟨hx, hb, hml, hown, hts⟩ (c_X1_isSite l D cA z0) (va_cwS 1 hts gX1_setRates_X1_isSite rfl rfl rfl (by decide +kernel) ⟨Nat.le_of_ble_eq_true rfl, Nat.le_of_ble_eq_true rfl⟩) hK noP rfl rfl hl.1 (Nat.le_of_ble_eq_true rfl) dX1_setRates_31 ⟨Nat.zero_le _, Nat.zero_le _⟩ ?_
      refine lv_if_ne (tgt := 41) hx hb dX1_setRates_34 (by decide) (fun c_34 => ?_) (fun c_34 => ?_)
      · skip
        have h1 : cI z0 4 := Classical.byContradiction (fun h => c_34 (if_neg h))
        obtain ⟨hjz0, ejz0⟩ := cI_of h1 (n := 4) (rfl) (by omega)
        refine lv_iload hx hb dX1_setRates_41 (lv_at hl 0 rfl) ?_
        refine lv_if_eq (tgt := 50) hx hb dX1_setRates_43 (by decide) (fun c_43 => (absurd c_43 (by decide) : False).elim) (fun c_43 => ?_)
        refine lv_iconst (v := 0) hx hb dX1_setRates_46 (by decide) ?_
        refine lv_goto (tgt := 51) hx hb dX1_setRates_47 (by decide) ?_
        refine Wi.callV (rest := []) (q0 := 0) (ci := 1) (wr := []) [0, 1, 2, 3, 4, 5, 6, 7, 8, 9, 10, 11, 12] [] ⟨hx, hb, hml, hown, hts⟩ (c_X1_goes l D cA a F th 0 1 (by decide)) (cwV 1 hts gX1_setRates_X1_goes rfl rfl rfl (by decide +kernel) ⟨Nat.le_of_ble_eq_true rfl, Nat.le_of_ble_eq_true rfl⟩) hK hP hD hS hA rfl rfl (by decide) (by decide) (by decide) rfl rfl rfl rfl rfl hl.1 (Nat.le_of_ble_eq_true rfl) dX1_setRates_51 ⟨Nat.zero_le _, Nat.zero_le _⟩ (fun r9 u9 H locs hu9 hP hD hS => ?_)
        subst hu9
        have hP : va_P D vwCl (wM a cA F 0) H := hP
        have hD : va_D A (wM a cA F 0) := hD
        refine lv_if_eq (tgt := 71) hx hb dX1_setRates_54 (by decide) (fun c_54 => (absurd c_54 (by decide) : False).elim) (fun c_54 => ?_)
        refine lv_aload_n hx hb dX1_setRates_57 rfl (lv_at hl 1 rfl) ?_
        refine va_get (D := D) (ci := 1) (v := .ref (a 0)) (C := RX1) (T := TX1) (N := 16) hx hb hts hi hown hK hP 0 rfl rfl 0 (by decide) (hts (.fieldLink RX1 7 "AssignmentHouseModel" "rates" "[I") (by decide +kernel)) (fun _ h9 => h9) rfl dX1_setRates_58 ?_
        refine lv_iload_n hx hb dX1_setRates_61 rfl (lv_at hl 2 rfl) ?_
        refine lv_iload_n hx hb dX1_setRates_62 rfl (lv_at hl 3 rfl) ?_
        refine ri_ast (j := z0.toNatClampNeg) (x := z1) hx hb hK hP hD hS 1 rfl (ejz0) (hjz0) (by decide) dX1_setRates_63 (fun H locs hP hD hS => ?_)
        have hP : va_P D vwCl (wM a cA (fUp F 0 z0.toNatClampNeg z1) 0) H := hP
        have hD : va_D A (wM a cA (fUp F 0 z0.toNatClampNeg z1) 0) := hD
        refine lv_aload_n hx hb dX1_setRates_64 rfl (lv_at hl 1 rfl) ?_
        refine va_get (D := D) (ci := 1) (v := .ref (a 1)) (C := RX1) (T := TX1) (N := 16) hx hb hts hi hown hK hP 0 rfl rfl 1 (by decide) (hts (.fieldLink RX1 13 "AssignmentHouseModel" "equals" "[I") (by decide +kernel)) (fun _ h9 => h9) rfl dX1_setRates_65 ?_
        refine lv_iload_n hx hb dX1_setRates_68 rfl (lv_at hl 2 rfl) ?_
        refine lv_iload_n hx hb dX1_setRates_69 rfl (lv_at hl 4 rfl) ?_
        refine ri_ast (j := z0.toNatClampNeg) (x := z2) hx hb hK hP hD hS 2 rfl (ejz0) (hjz0) (by decide) dX1_setRates_70 (fun H locs hP hD hS => ?_)
        have hP : va_P D vwCl (wM a cA (fUp (fUp F 0 z0.toNatClampNeg z1) 1 z0.toNatClampNeg z2) 0) H := hP
        have hD : va_D A (wM a cA (fUp (fUp F 0 z0.toNatClampNeg z1) 1 z0.toNatClampNeg z2) 0) := hD
        have hk9 : kRates z0 z1 z2 = 0 := by rw [kRates, if_pos h1, if_pos h2, if_pos h3]
        exact hend 71 ls ((fUp (fUp F 0 z0.toNatClampNeg z1) 1 z0.toNatClampNeg z2), 0) _ _ dX1_setRates_71 hP hD hS ⟨hk9.symm, fun _ => rfl, fun h => absurd hk9 h⟩
      · skip
        have h1 : ¬ cI z0 4 := fun h => absurd c_34 (by rw [if_pos h]; decide)
        refine lv_iconst (v := 1) hx hb dX1_setRates_37 (by decide) ?_
        refine lv_goto (tgt := 51) hx hb dX1_setRates_38 (by decide) ?_
        refine Wi.callV (rest := []) (q0 := 0) (ci := 1) (wr := []) [0, 1, 2, 3, 4, 5, 6, 7, 8, 9, 10, 11, 12] [] ⟨hx, hb, hml, hown, hts⟩ (c_X1_goes l D cA a F th 1 0 (by decide)) (cwV 1 hts gX1_setRates_X1_goes rfl rfl rfl (by decide +kernel) ⟨Nat.le_of_ble_eq_true rfl, Nat.le_of_ble_eq_true rfl⟩) hK hP hD hS hA rfl rfl (by decide) (by decide) (by decide) rfl rfl rfl rfl rfl hl.1 (Nat.le_of_ble_eq_true rfl) dX1_setRates_51 ⟨Nat.zero_le _, Nat.zero_le _⟩ (fun r9 u9 H locs hu9 hP hD hS => ?_)
        subst hu9
        have hP : va_P D vwCl (wM a cA F 1) H := hP
        have hD : va_D A (wM a cA F 1) := hD
        refine lv_if_eq (tgt := 71) hx hb dX1_setRates_54 (by decide) (fun c_54 => ?_) (fun c_54 => (absurd (by decide) c_54 : False).elim)
        have hk9 : kRates z0 z1 z2 = 1 := by rw [kRates, if_neg h1]
        exact hend 71 ls (F, 1) _ _ dX1_setRates_71 hP hD hS ⟨hk9.symm, fun h => absurd (hk9.symm.trans h) (by decide), fun _ => rfl⟩

set_option maxHeartbeats 4000000 in
set_option maxRecDepth 100000 in
theorem c_X1_setMargins (l : Launch) (D : va_G) (cA : ClassId) (a : Nat → Nat) (F : Nat → Nat → Int32) (th : Int32) (N : Nat) (hW : wf F N) (z0 z1 z2 z3 : Int32) : Wv l D cA (S := (Nat → Nat → Int32) × Int32) (wM a cA F th) (fun u => wM a cA u.1 u.2) yX1_setMargins wsX1_setMargins rmX1_setMargins [.ref (a 16), .int z0, .int z1, .int z2, .int z3] (fun u => u.2 = kMargins z0 z1 z2 z3 ∧ (kMargins z0 z1 z2 z3 = 0 → u.1 = fMargins F z0.toNatClampNeg z1 z2 z3) ∧ (kMargins z0 z1 z2 z3 ≠ 0 → u.1 = F)) := by
  refine Wv.of (cc := cX1_setMargins) (maxL := 6) (by decide) rfl (Nat.le_of_ble_eq_true rfl) ?_
  intro p e s m args below meth c ls A Q hx hb hts hown hml hK hP hD hA hS hl hend
  have hown : s.vm.findClass RX1 = some m.cls := hown
  have hi : ∀ w ∈ wsX10, w ∈ wsX1_setMargins := by decide +kernel
  have hl : lv_has ls 6 [(0, .ref (a 16)), (1, .int z0), (2, .int z1), (3, .int z2), (4, .int z3)] := hl
  have hN : N ≤ 80 := hW.n
  have hc : F 7 0 = nI N := hW.c
  refine lv_iload_n hx hb dX1_setMargins_0 rfl (lv_at hl 2 rfl) ?_
  refine lv_iconst (v := 0) hx hb dX1_setMargins_1 (by decide) ?_
  refine lv_bipush (v := 100) hx hb dX1_setMargins_2 (by decide) ?_
  refine Rd.callS (rest := []) ⟨hx, hb, hml, hown, hts⟩ (c_X1_isIn l D cA z1 0 100) (va_cwS 3 hts gX1_setMargins_X1_isIn rfl rfl rfl (by decide +kernel) ⟨Nat.le_of_ble_eq_true rfl, Nat.le_of_ble_eq_true rfl⟩) hK noP rfl rfl hl.1 (Nat.le_of_ble_eq_true rfl) dX1_setMargins_4 ⟨Nat.zero_le _, Nat.zero_le _⟩ ?_
  refine lv_if_eq (tgt := 35) hx hb dX1_setMargins_7 (by decide) (fun c_7 => ?_) (fun c_7 => ?_)
  · skip
    have h2 : ¬ cR z1 0 100 := fun h => absurd c_7 (by rw [if_pos h]; decide)
    refine lv_iconst (v := 0) hx hb dX1_setMargins_35 (by decide) ?_
    refine lv_istore (lv' := [(5, .int 0), (0, .ref (a 16)), (1, .int z0), (2, .int z1), (3, .int z2), (4, .int z3)]) hx hb dX1_setMargins_36 hl (by decide) rfl (fun ls hl => ?_)
    refine lv_aload_n hx hb dX1_setMargins_38 rfl (lv_at hl 1 rfl) ?_
    refine lv_iload_n hx hb dX1_setMargins_39 rfl (lv_at hl 2 rfl) ?_
    refine Rd.callS (rest := [.ref (a 16)]) ⟨hx, hb, hml, hown, hts⟩ (c_X1_isSite l D cA z0) (va_cwS 1 hts gX1_setMargins_X1_isSite rfl rfl rfl (by decide +kernel) ⟨Nat.le_of_ble_eq_true rfl, Nat.le_of_ble_eq_true rfl⟩) hK noP rfl rfl hl.1 (Nat.le_of_ble_eq_true rfl) dX1_setMargins_40 ⟨Nat.zero_le _, Nat.zero_le _⟩ ?_
    refine lv_if_ne (tgt := 50) hx hb dX1_setMargins_43 (by decide) (fun c_43 => ?_) (fun c_43 => ?_)
    · skip
      have h1 : cI z0 4 := Classical.byContradiction (fun h => c_43 (if_neg h))
      obtain ⟨hjz0, ejz0⟩ := cI_of h1 (n := 4) (rfl) (by omega)
      refine lv_iload hx hb dX1_setMargins_50 (lv_at hl 0 rfl) ?_
      refine lv_if_eq (tgt := 59) hx hb dX1_setMargins_52 (by decide) (fun c_52 => ?_) (fun c_52 => (absurd (by decide) c_52 : False).elim)
      refine lv_iconst (v := 2) hx hb dX1_setMargins_59 (by decide) ?_
      refine Wi.callV (rest := []) (q0 := 0) (ci := 1) (wr := []) [0, 1, 2, 3, 4, 5, 6, 7, 8, 9, 10, 11, 12] [] ⟨hx, hb, hml, hown, hts⟩ (c_X1_goes l D cA a F th 2 0 (by decide)) (cwV 1 hts gX1_setMargins_X1_goes rfl rfl rfl (by decide +kernel) ⟨Nat.le_of_ble_eq_true rfl, Nat.le_of_ble_eq_true rfl⟩) hK hP hD hS hA rfl rfl (by decide) (by decide) (by decide) rfl rfl rfl rfl rfl hl.1 (Nat.le_of_ble_eq_true rfl) dX1_setMargins_60 ⟨Nat.zero_le _, Nat.zero_le _⟩ (fun r9 u9 H locs hu9 hP hD hS => ?_)
      subst hu9
      have hP : va_P D vwCl (wM a cA F 2) H := hP
      have hD : va_D A (wM a cA F 2) := hD
      refine lv_if_eq (tgt := 88) hx hb dX1_setMargins_63 (by decide) (fun c_63 => ?_) (fun c_63 => (absurd (by decide) c_63 : False).elim)
      have hk9 : kMargins z0 z1 z2 z3 = 2 := by rw [kMargins, if_pos h1, if_neg h2]
      exact hend 88 ls (F, 2) _ _ dX1_setMargins_88 hP hD hS ⟨hk9.symm, fun h => absurd (hk9.symm.trans h) (by decide), fun _ => rfl⟩
    · skip
      have h1 : ¬ cI z0 4 := fun h => absurd c_43 (by rw [if_pos h]; decide)
      refine lv_iconst (v := 1) hx hb dX1_setMargins_46 (by decide) ?_
      refine lv_goto (tgt := 60) hx hb dX1_setMargins_47 (by decide) ?_
      refine Wi.callV (rest := []) (q0 := 0) (ci := 1) (wr := []) [0, 1, 2, 3, 4, 5, 6, 7, 8, 9, 10, 11, 12] [] ⟨hx, hb, hml, hown, hts⟩ (c_X1_goes l D cA a F th 1 0 (by decide)) (cwV 1 hts gX1_setMargins_X1_goes rfl rfl rfl (by decide +kernel) ⟨Nat.le_of_ble_eq_true rfl, Nat.le_of_ble_eq_true rfl⟩) hK hP hD hS hA rfl rfl (by decide) (by decide) (by decide) rfl rfl rfl rfl rfl hl.1 (Nat.le_of_ble_eq_true rfl) dX1_setMargins_60 ⟨Nat.zero_le _, Nat.zero_le _⟩ (fun r9 u9 H locs hu9 hP hD hS => ?_)
      subst hu9
      have hP : va_P D vwCl (wM a cA F 1) H := hP
      have hD : va_D A (wM a cA F 1) := hD
      refine lv_if_eq (tgt := 88) hx hb dX1_setMargins_63 (by decide) (fun c_63 => ?_) (fun c_63 => (absurd (by decide) c_63 : False).elim)
      have hk9 : kMargins z0 z1 z2 z3 = 1 := by rw [kMargins, if_neg h1]
      exact hend 88 ls (F, 1) _ _ dX1_setMargins_88 hP hD hS ⟨hk9.symm, fun h => absurd (hk9.symm.trans h) (by decide), fun _ => rfl⟩
  · skip
    have h2 : cR z1 0 100 := Classical.byContradiction (fun h => c_7 (if_neg h))
    refine lv_iload_n hx hb dX1_setMargins_10 rfl (lv_at hl 3 rfl) ?_
    refine lv_iconst (v := 0) hx hb dX1_setMargins_11 (by decide) ?_
    refine lv_iload_n hx hb dX1_setMargins_12 rfl (lv_at hl 2 rfl) ?_
    refine Rd.callS (rest := []) ⟨hx, hb, hml, hown, hts⟩ (c_X1_isIn l D cA z2 0 z1) (va_cwS 3 hts gX1_setMargins_X1_isIn rfl rfl rfl (by decide +kernel) ⟨Nat.le_of_ble_eq_true rfl, Nat.le_of_ble_eq_true rfl⟩) hK noP rfl rfl hl.1 (Nat.le_of_ble_eq_true rfl) dX1_setMargins_13 ⟨Nat.zero_le _, Nat.zero_le _⟩ ?_
    refine lv_if_eq (tgt := 35) hx hb dX1_setMargins_16 (by decide) (fun c_16 => ?_) (fun c_16 => ?_)
    · skip
      have h3 : ¬ cR z2 0 z1 := fun h => absurd c_16 (by rw [if_pos h]; decide)
      refine lv_iconst (v := 0) hx hb dX1_setMargins_35 (by decide) ?_
      refine lv_istore (lv' := [(5, .int 0), (0, .ref (a 16)), (1, .int z0), (2, .int z1), (3, .int z2), (4, .int z3)]) hx hb dX1_setMargins_36 hl (by decide) rfl (fun ls hl => ?_)
      refine lv_aload_n hx hb dX1_setMargins_38 rfl (lv_at hl 1 rfl) ?_
      refine lv_iload_n hx hb dX1_setMargins_39 rfl (lv_at hl 2 rfl) ?_
      refine Rd.callS (rest := [.ref (a 16)]) ⟨hx, hb, hml, hown, hts⟩ (c_X1_isSite l D cA z0) (va_cwS 1 hts gX1_setMargins_X1_isSite rfl rfl rfl (by decide +kernel) ⟨Nat.le_of_ble_eq_true rfl, Nat.le_of_ble_eq_true rfl⟩) hK noP rfl rfl hl.1 (Nat.le_of_ble_eq_true rfl) dX1_setMargins_40 ⟨Nat.zero_le _, Nat.zero_le _⟩ ?_
      refine lv_if_ne (tgt := 50) hx hb dX1_setMargins_43 (by decide) (fun c_43 => ?_) (fun c_43 => ?_)
      · skip
        have h1 : cI z0 4 := Classical.byContradiction (fun h => c_43 (if_neg h))
        obtain ⟨hjz0, ejz0⟩ := cI_of h1 (n := 4) (rfl) (by omega)
        refine lv_iload hx hb dX1_setMargins_50 (lv_at hl 0 rfl) ?_
        refine lv_if_eq (tgt := 59) hx hb dX1_setMargins_52 (by decide) (fun c_52 => ?_) (fun c_52 => (absurd (by decide) c_52 : False).elim)
        refine lv_iconst (v := 2) hx hb dX1_setMargins_59 (by decide) ?_
        refine Wi.callV (rest := []) (q0 := 0) (ci := 1) (wr := []) [0, 1, 2, 3, 4, 5, 6, 7, 8, 9, 10, 11, 12] [] ⟨hx, hb, hml, hown, hts⟩ (c_X1_goes l D cA a F th 2 0 (by decide)) (cwV 1 hts gX1_setMargins_X1_goes rfl rfl rfl (by decide +kernel) ⟨Nat.le_of_ble_eq_true rfl, Nat.le_of_ble_eq_true rfl⟩) hK hP hD hS hA rfl rfl (by decide) (by decide) (by decide) rfl rfl rfl rfl rfl hl.1 (Nat.le_of_ble_eq_true rfl) dX1_setMargins_60 ⟨Nat.zero_le _, Nat.zero_le _⟩ (fun r9 u9 H locs hu9 hP hD hS => ?_)
        subst hu9
        have hP : va_P D vwCl (wM a cA F 2) H := hP
        have hD : va_D A (wM a cA F 2) := hD
        refine lv_if_eq (tgt := 88) hx hb dX1_setMargins_63 (by decide) (fun c_63 => ?_) (fun c_63 => (absurd (by decide) c_63 : False).elim)
        have hk9 : kMargins z0 z1 z2 z3 = 2 := by rw [kMargins, if_pos h1, if_pos h2, if_neg h3]
        exact hend 88 ls (F, 2) _ _ dX1_setMargins_88 hP hD hS ⟨hk9.symm, fun h => absurd (hk9.symm.trans h) (by decide), fun _ => rfl⟩
      · skip
        have h1 : ¬ cI z0 4 := fun h => absurd c_43 (by rw [if_pos h]; decide)
        refine lv_iconst (v := 1) hx hb dX1_setMargins_46 (by decide) ?_
        refine lv_goto (tgt := 60) hx hb dX1_setMargins_47 (by decide) ?_
        refine Wi.callV (rest := []) (q0 := 0) (ci := 1) (wr := []) [0, 1, 2, 3, 4, 5, 6, 7, 8, 9, 10, 11, 12] [] ⟨hx, hb, hml, hown, hts⟩ (c_X1_goes l D cA a F th 1 0 (by decide)) (cwV 1 hts gX1_setMargins_X1_goes rfl rfl rfl (by decide +kernel) ⟨Nat.le_of_ble_eq_true rfl, Nat.le_of_ble_eq_true rfl⟩) hK hP hD hS hA rfl rfl (by decide) (by decide) (by decide) rfl rfl rfl rfl rfl hl.1 (Nat.le_of_ble_eq_true rfl) dX1_setMargins_60 ⟨Nat.zero_le _, Nat.zero_le _⟩ (fun r9 u9 H locs hu9 hP hD hS => ?_)
        subst hu9
        have hP : va_P D vwCl (wM a cA F 1) H := hP
        have hD : va_D A (wM a cA F 1) := hD
        refine lv_if_eq (tgt := 88) hx hb dX1_setMargins_63 (by decide) (fun c_63 => ?_) (fun c_63 => (absurd (by decide) c_63 : False).elim)
        have hk9 : kMargins z0 z1 z2 z3 = 1 := by rw [kMargins, if_neg h1]
        exact hend 88 ls (F, 1) _ _ dX1_setMargins_88 hP hD hS ⟨hk9.symm, fun h => absurd (hk9.symm.trans h) (by decide), fun _ => rfl⟩
    · skip
      have h3 : cR z2 0 z1 := Classical.byContradiction (fun h => c_16 (if_neg h))
      refine lv_iload hx hb dX1_setMargins_19 (lv_at hl 4 rfl) ?_
      refine lv_iconst (v := 1) hx hb dX1_setMargins_21 (by decide) ?_
      refine lv_sipush (v := 1000) hx hb dX1_setMargins_22 (by decide) ?_
      refine Rd.callS (rest := []) ⟨hx, hb, hml, hown, hts⟩ (c_X1_isIn l D cA z3 1 1000) (va_cwS 3 hts gX1_setMargins_X1_isIn rfl rfl rfl (by decide +kernel) ⟨Nat.le_of_ble_eq_true rfl, Nat.le_of_ble_eq_true rfl⟩) hK noP rfl rfl hl.1 (Nat.le_of_ble_eq_true rfl) dX1_setMargins_25 ⟨Nat.zero_le _, Nat.zero_le _⟩ ?_
      refine lv_if_eq (tgt := 35) hx hb dX1_setMargins_28 (by decide) (fun c_28 => ?_) (fun c_28 => ?_)
      · skip
        have h4 : ¬ cR z3 1 1000 := fun h => absurd c_28 (by rw [if_pos h]; decide)
        refine lv_iconst (v := 0) hx hb dX1_setMargins_35 (by decide) ?_
        refine lv_istore (lv' := [(5, .int 0), (0, .ref (a 16)), (1, .int z0), (2, .int z1), (3, .int z2), (4, .int z3)]) hx hb dX1_setMargins_36 hl (by decide) rfl (fun ls hl => ?_)
        refine lv_aload_n hx hb dX1_setMargins_38 rfl (lv_at hl 1 rfl) ?_
        refine lv_iload_n hx hb dX1_setMargins_39 rfl (lv_at hl 2 rfl) ?_
        refine Rd.callS (rest := [.ref (a 16)]) ⟨hx, hb, hml, hown, hts⟩ (c_X1_isSite l D cA z0) (va_cwS 1 hts gX1_setMargins_X1_isSite rfl rfl rfl (by decide +kernel) ⟨Nat.le_of_ble_eq_true rfl, Nat.le_of_ble_eq_true rfl⟩) hK noP rfl rfl hl.1 (Nat.le_of_ble_eq_true rfl) dX1_setMargins_40 ⟨Nat.zero_le _, Nat.zero_le _⟩ ?_
        refine lv_if_ne (tgt := 50) hx hb dX1_setMargins_43 (by decide) (fun c_43 => ?_) (fun c_43 => ?_)
        · skip
          have h1 : cI z0 4 := Classical.byContradiction (fun h => c_43 (if_neg h))
          obtain ⟨hjz0, ejz0⟩ := cI_of h1 (n := 4) (rfl) (by omega)
          refine lv_iload hx hb dX1_setMargins_50 (lv_at hl 0 rfl) ?_
          refine lv_if_eq (tgt := 59) hx hb dX1_setMargins_52 (by decide) (fun c_52 => ?_) (fun c_52 => (absurd (by decide) c_52 : False).elim)
          refine lv_iconst (v := 2) hx hb dX1_setMargins_59 (by decide) ?_
          refine Wi.callV (rest := []) (q0 := 0) (ci := 1) (wr := []) [0, 1, 2, 3, 4, 5, 6, 7, 8, 9, 10, 11, 12] [] ⟨hx, hb, hml, hown, hts⟩ (c_X1_goes l D cA a F th 2 0 (by decide)) (cwV 1 hts gX1_setMargins_X1_goes rfl rfl rfl (by decide +kernel) ⟨Nat.le_of_ble_eq_true rfl, Nat.le_of_ble_eq_true rfl⟩) hK hP hD hS hA rfl rfl (by decide) (by decide) (by decide) rfl rfl rfl rfl rfl hl.1 (Nat.le_of_ble_eq_true rfl) dX1_setMargins_60 ⟨Nat.zero_le _, Nat.zero_le _⟩ (fun r9 u9 H locs hu9 hP hD hS => ?_)
          subst hu9
          have hP : va_P D vwCl (wM a cA F 2) H := hP
          have hD : va_D A (wM a cA F 2) := hD
          refine lv_if_eq (tgt := 88) hx hb dX1_setMargins_63 (by decide) (fun c_63 => ?_) (fun c_63 => (absurd (by decide) c_63 : False).elim)
          have hk9 : kMargins z0 z1 z2 z3 = 2 := by rw [kMargins, if_pos h1, if_pos h2, if_pos h3, if_neg h4]
          exact hend 88 ls (F, 2) _ _ dX1_setMargins_88 hP hD hS ⟨hk9.symm, fun h => absurd (hk9.symm.trans h) (by decide), fun _ => rfl⟩
        · skip
          have h1 : ¬ cI z0 4 := fun h => absurd c_43 (by rw [if_pos h]; decide)
          refine lv_iconst (v := 1) hx hb dX1_setMargins_46 (by decide) ?_
          refine lv_goto (tgt := 60) hx hb dX1_setMargins_47 (by decide) ?_
          refine Wi.callV (rest := []) (q0 := 0) (ci := 1) (wr := []) [0, 1, 2, 3, 4, 5, 6, 7, 8, 9, 10, 11, 12] [] ⟨hx, hb, hml, hown, hts⟩ (c_X1_goes l D cA a F th 1 0 (by decide)) (cwV 1 hts gX1_setMargins_X1_goes rfl rfl rfl (by decide +kernel) ⟨Nat.le_of_ble_eq_true rfl, Nat.le_of_ble_eq_true rfl⟩) hK hP hD hS hA rfl rfl (by decide) (by decide) (by decide) rfl rfl rfl rfl rfl hl.1 (Nat.le_of_ble_eq_true rfl) dX1_setMargins_60 ⟨Nat.zero_le _, Nat.zero_le _⟩ (fun r9 u9 H locs hu9 hP hD hS => ?_)
          subst hu9
          have hP : va_P D vwCl (wM a cA F 1) H := hP
          have hD : va_D A (wM a cA F 1) := hD
          refine lv_if_eq (tgt := 88) hx hb dX1_setMargins_63 (by decide) (fun c_63 => ?_) (fun c_63 => (absurd (by decide) c_63 : False).elim)
          have hk9 : kMargins z0 z1 z2 z3 = 1 := by rw [kMargins, if_neg h1]
          exact hend 88 ls (F, 1) _ _ dX1_setMargins_88 hP hD hS ⟨hk9.symm, fun h => absurd (hk9.symm.trans h) (by decide), fun _ => rfl⟩
      · skip
        have h4 : cR z3 1 1000 := Classical.byContradiction (fun h => c_28 (if_neg h))
        refine lv_iconst (v := 1) hx hb dX1_setMargins_31 (by decide) ?_
        refine lv_goto (tgt := 36) hx hb dX1_setMargins_32 (by decide) ?_
        refine lv_istore (lv' := [(5, .int 1), (0, .ref (a 16)), (1, .int z0), (2, .int z1), (3, .int z2), (4, .int z3)]) hx hb dX1_setMargins_36 hl (by decide) rfl (fun ls hl => ?_)
        refine lv_aload_n hx hb dX1_setMargins_38 rfl (lv_at hl 1 rfl) ?_
        refine lv_iload_n hx hb dX1_setMargins_39 rfl (lv_at hl 2 rfl) ?_
        refine Rd.callS (rest := [.ref (a 16)]) ⟨hx, hb, hml, hown, hts⟩ (c_X1_isSite l D cA z0) (va_cwS 1 hts gX1_setMargins_X1_isSite rfl rfl rfl (by decide +kernel) ⟨Nat.le_of_ble_eq_true rfl, Nat.le_of_ble_eq_true rfl⟩) hK noP rfl rfl hl.1 (Nat.le_of_ble_eq_true rfl) dX1_setMargins_40 ⟨Nat.zero_le _, Nat.zero_le _⟩ ?_
        refine lv_if_ne (tgt := 50) hx hb dX1_setMargins_43 (by decide) (fun c_43 => ?_) (fun c_43 => ?_)
        · skip
          have h1 : cI z0 4 := Classical.byContradiction (fun h => c_43 (if_neg h))
          obtain ⟨hjz0, ejz0⟩ := cI_of h1 (n := 4) (rfl) (by omega)
          refine lv_iload hx hb dX1_setMargins_50 (lv_at hl 0 rfl) ?_
          refine lv_if_eq (tgt := 59) hx hb dX1_setMargins_52 (by decide) (fun c_52 => (absurd c_52 (by decide) : False).elim) (fun c_52 => ?_)
          refine lv_iconst (v := 0) hx hb dX1_setMargins_55 (by decide) ?_
          refine lv_goto (tgt := 60) hx hb dX1_setMargins_56 (by decide) ?_
          refine Wi.callV (rest := []) (q0 := 0) (ci := 1) (wr := []) [0, 1, 2, 3, 4, 5, 6, 7, 8, 9, 10, 11, 12] [] ⟨hx, hb, hml, hown, hts⟩ (c_X1_goes l D cA a F th 0 1 (by decide)) (cwV 1 hts gX1_setMargins_X1_goes rfl rfl rfl (by decide +kernel) ⟨Nat.le_of_ble_eq_true rfl, Nat.le_of_ble_eq_true rfl⟩) hK hP hD hS hA rfl rfl (by decide) (by decide) (by decide) rfl rfl rfl rfl rfl hl.1 (Nat.le_of_ble_eq_true rfl) dX1_setMargins_60 ⟨Nat.zero_le _, Nat.zero_le _⟩ (fun r9 u9 H locs hu9 hP hD hS => ?_)
          subst hu9
          have hP : va_P D vwCl (wM a cA F 0) H := hP
          have hD : va_D A (wM a cA F 0) := hD
          refine lv_if_eq (tgt := 88) hx hb dX1_setMargins_63 (by decide) (fun c_63 => (absurd c_63 (by decide) : False).elim) (fun c_63 => ?_)
          refine lv_aload_n hx hb dX1_setMargins_66 rfl (lv_at hl 1 rfl) ?_
          refine va_get (D := D) (ci := 1) (v := .ref (a 2)) (C := RX1) (T := TX1) (N := 16) hx hb hts hi hown hK hP 0 rfl rfl 2 (by decide) (hts (.fieldLink RX1 16 "AssignmentHouseModel" "margins" "[I") (by decide +kernel)) (fun _ h9 => h9) rfl dX1_setMargins_67 ?_
          refine lv_iload_n hx hb dX1_setMargins_70 rfl (lv_at hl 2 rfl) ?_
          refine lv_iload_n hx hb dX1_setMargins_71 rfl (lv_at hl 3 rfl) ?_
          refine ri_ast (j := z0.toNatClampNeg) (x := z1) hx hb hK hP hD hS 3 rfl (ejz0) (hjz0) (by decide) dX1_setMargins_72 (fun H locs hP hD hS => ?_)
          have hP : va_P D vwCl (wM a cA (fUp F 2 z0.toNatClampNeg z1) 0) H := hP
          have hD : va_D A (wM a cA (fUp F 2 z0.toNatClampNeg z1) 0) := hD
          refine lv_aload_n hx hb dX1_setMargins_73 rfl (lv_at hl 1 rfl) ?_
          refine va_get (D := D) (ci := 1) (v := .ref (a 3)) (C := RX1) (T := TX1) (N := 16) hx hb hts hi hown hK hP 0 rfl rfl 3 (by decide) (hts (.fieldLink RX1 19 "AssignmentHouseModel" "lows" "[I") (by decide +kernel)) (fun _ h9 => h9) rfl dX1_setMargins_74 ?_
          refine lv_iload_n hx hb dX1_setMargins_77 rfl (lv_at hl 2 rfl) ?_
          refine lv_iload_n hx hb dX1_setMargins_78 rfl (lv_at hl 4 rfl) ?_
          refine ri_ast (j := z0.toNatClampNeg) (x := z2) hx hb hK hP hD hS 4 rfl (ejz0) (hjz0) (by decide) dX1_setMargins_79 (fun H locs hP hD hS => ?_)
          have hP : va_P D vwCl (wM a cA (fUp (fUp F 2 z0.toNatClampNeg z1) 3 z0.toNatClampNeg z2) 0) H := hP
          have hD : va_D A (wM a cA (fUp (fUp F 2 z0.toNatClampNeg z1) 3 z0.toNatClampNeg z2) 0) := hD
          refine lv_aload_n hx hb dX1_setMargins_80 rfl (lv_at hl 1 rfl) ?_
          refine va_get (D := D) (ci := 1) (v := .ref (a 4)) (C := RX1) (T := TX1) (N := 16) hx hb hts hi hown hK hP 0 rfl rfl 4 (by decide) (hts (.fieldLink RX1 22 "AssignmentHouseModel" "volumes" "[I") (by decide +kernel)) (fun _ h9 => h9) rfl dX1_setMargins_81 ?_
          refine lv_iload_n hx hb dX1_setMargins_84 rfl (lv_at hl 2 rfl) ?_
          refine lv_iload hx hb dX1_setMargins_85 (lv_at hl 5 rfl) ?_
          refine ri_ast (j := z0.toNatClampNeg) (x := z3) hx hb hK hP hD hS 5 rfl (ejz0) (hjz0) (by decide) dX1_setMargins_87 (fun H locs hP hD hS => ?_)
          have hP : va_P D vwCl (wM a cA (fUp (fUp (fUp F 2 z0.toNatClampNeg z1) 3 z0.toNatClampNeg z2) 4 z0.toNatClampNeg z3) 0) H := hP
          have hD : va_D A (wM a cA (fUp (fUp (fUp F 2 z0.toNatClampNeg z1) 3 z0.toNatClampNeg z2) 4 z0.toNatClampNeg z3) 0) := hD
          have hk9 : kMargins z0 z1 z2 z3 = 0 := by rw [kMargins, if_pos h1, if_pos h2, if_pos h3, if_pos h4]
          exact hend 88 ls ((fUp (fUp (fUp F 2 z0.toNatClampNeg z1) 3 z0.toNatClampNeg z2) 4 z0.toNatClampNeg z3), 0) _ _ dX1_setMargins_88 hP hD hS ⟨hk9.symm, fun _ => rfl, fun h => absurd hk9 h⟩
        · skip
          have h1 : ¬ cI z0 4 := fun h => absurd c_43 (by rw [if_pos h]; decide)
          refine lv_iconst (v := 1) hx hb dX1_setMargins_46 (by decide) ?_
          refine lv_goto (tgt := 60) hx hb dX1_setMargins_47 (by decide) ?_
          refine Wi.callV (rest := []) (q0 := 0) (ci := 1) (wr := []) [0, 1, 2, 3, 4, 5, 6, 7, 8, 9, 10, 11, 12] [] ⟨hx, hb, hml, hown, hts⟩ (c_X1_goes l D cA a F th 1 0 (by decide)) (cwV 1 hts gX1_setMargins_X1_goes rfl rfl rfl (by decide +kernel) ⟨Nat.le_of_ble_eq_true rfl, Nat.le_of_ble_eq_true rfl⟩) hK hP hD hS hA rfl rfl (by decide) (by decide) (by decide) rfl rfl rfl rfl rfl hl.1 (Nat.le_of_ble_eq_true rfl) dX1_setMargins_60 ⟨Nat.zero_le _, Nat.zero_le _⟩ (fun r9 u9 H locs hu9 hP hD hS => ?_)
          subst hu9
          have hP : va_P D vwCl (wM a cA F 1) H := hP
          have hD : va_D A (wM a cA F 1) := hD
          refine lv_if_eq (tgt := 88) hx hb dX1_setMargins_63 (by decide) (fun c_63 => ?_) (fun c_63 => (absurd (by decide) c_63 : False).elim)
          have hk9 : kMargins z0 z1 z2 z3 = 1 := by rw [kMargins, if_neg h1]
          exact hend 88 ls (F, 1) _ _ dX1_setMargins_88 hP hD hS ⟨hk9.symm, fun h => absurd (hk9.symm.trans h) (by decide), fun _ => rfl⟩

set_option maxHeartbeats 4000000 in
set_option maxRecDepth 100000 in
theorem c_X1_setEqual (l : Launch) (D : va_G) (cA : ClassId) (a : Nat → Nat) (F : Nat → Nat → Int32) (th : Int32) (N : Nat) (hW : wf F N) (z0 z1 : Int32) : Wv l D cA (S := (Nat → Nat → Int32) × Int32) (wM a cA F th) (fun u => wM a cA u.1 u.2) yX1_setEqual wsX1_setEqual rmX1_setEqual [.ref (a 16), .int z0, .int z1] (fun u => u.2 = kEqual z0 z1 ∧ (kEqual z0 z1 = 0 → u.1 = fUp (fUp F 5 0 z0) 6 0 z1) ∧ (kEqual z0 z1 ≠ 0 → u.1 = F)) := by
  refine Wv.of (cc := cX1_setEqual) (maxL := 3) (by decide) rfl (Nat.le_of_ble_eq_true rfl) ?_
  intro p e s m args below meth c ls A Q hx hb hts hown hml hK hP hD hA hS hl hend
  have hown : s.vm.findClass RX1 = some m.cls := hown
  have hi : ∀ w ∈ wsX10, w ∈ wsX1_setEqual := by decide +kernel
  have hl : lv_has ls 3 [(0, .ref (a 16)), (1, .int z0), (2, .int z1)] := hl
  have hN : N ≤ 80 := hW.n
  have hc : F 7 0 = nI N := hW.c
  refine lv_aload_n hx hb dX1_setEqual_0 rfl (lv_at hl 0 rfl) ?_
  refine lv_iload_n hx hb dX1_setEqual_1 rfl (lv_at hl 1 rfl) ?_
  refine lv_iconst (v := 1) hx hb dX1_setEqual_2 (by decide) ?_
  refine lv_bipush (v := 12) hx hb dX1_setEqual_3 (by decide) ?_
  refine Rd.callS (rest := [.ref (a 16)]) ⟨hx, hb, hml, hown, hts⟩ (c_X1_isIn l D cA z0 1 12) (va_cwS 3 hts gX1_setEqual_X1_isIn rfl rfl rfl (by decide +kernel) ⟨Nat.le_of_ble_eq_true rfl, Nat.le_of_ble_eq_true rfl⟩) hK noP rfl rfl hl.1 (Nat.le_of_ble_eq_true rfl) dX1_setEqual_5 ⟨Nat.zero_le _, Nat.zero_le _⟩ ?_
  refine lv_if_eq (tgt := 25) hx hb dX1_setEqual_8 (by decide) (fun c_8 => ?_) (fun c_8 => ?_)
  · skip
    have h1 : ¬ cR z0 1 12 := fun h => absurd c_8 (by rw [if_pos h]; decide)
    refine lv_iconst (v := 1) hx hb dX1_setEqual_25 (by decide) ?_
    refine Wi.callV (rest := []) (q0 := 0) (ci := 1) (wr := []) [0, 1, 2, 3, 4, 5, 6, 7, 8, 9, 10, 11, 12] [] ⟨hx, hb, hml, hown, hts⟩ (c_X1_goes l D cA a F th 1 0 (by decide)) (cwV 1 hts gX1_setEqual_X1_goes rfl rfl rfl (by decide +kernel) ⟨Nat.le_of_ble_eq_true rfl, Nat.le_of_ble_eq_true rfl⟩) hK hP hD hS hA rfl rfl (by decide) (by decide) (by decide) rfl rfl rfl rfl rfl hl.1 (Nat.le_of_ble_eq_true rfl) dX1_setEqual_26 ⟨Nat.zero_le _, Nat.zero_le _⟩ (fun r9 u9 H locs hu9 hP hD hS => ?_)
    subst hu9
    have hP : va_P D vwCl (wM a cA F 1) H := hP
    have hD : va_D A (wM a cA F 1) := hD
    refine lv_if_eq (tgt := 42) hx hb dX1_setEqual_29 (by decide) (fun c_29 => ?_) (fun c_29 => (absurd (by decide) c_29 : False).elim)
    have hk9 : kEqual z0 z1 = 1 := by rw [kEqual, if_neg h1]
    exact hend 42 ls (F, 1) _ _ dX1_setEqual_42 hP hD hS ⟨hk9.symm, fun h => absurd (hk9.symm.trans h) (by decide), fun _ => rfl⟩
  · skip
    have h1 : cR z0 1 12 := Classical.byContradiction (fun h => c_8 (if_neg h))
    refine lv_iload_n hx hb dX1_setEqual_11 rfl (lv_at hl 2 rfl) ?_
    refine lv_iconst (v := 0) hx hb dX1_setEqual_12 (by decide) ?_
    refine lv_bipush (v := 6) hx hb dX1_setEqual_13 (by decide) ?_
    refine Rd.callS (rest := [.ref (a 16)]) ⟨hx, hb, hml, hown, hts⟩ (c_X1_isIn l D cA z1 0 6) (va_cwS 3 hts gX1_setEqual_X1_isIn rfl rfl rfl (by decide +kernel) ⟨Nat.le_of_ble_eq_true rfl, Nat.le_of_ble_eq_true rfl⟩) hK noP rfl rfl hl.1 (Nat.le_of_ble_eq_true rfl) dX1_setEqual_15 ⟨Nat.zero_le _, Nat.zero_le _⟩ ?_
    refine lv_if_eq (tgt := 25) hx hb dX1_setEqual_18 (by decide) (fun c_18 => ?_) (fun c_18 => ?_)
    · skip
      have h2 : ¬ cR z1 0 6 := fun h => absurd c_18 (by rw [if_pos h]; decide)
      refine lv_iconst (v := 1) hx hb dX1_setEqual_25 (by decide) ?_
      refine Wi.callV (rest := []) (q0 := 0) (ci := 1) (wr := []) [0, 1, 2, 3, 4, 5, 6, 7, 8, 9, 10, 11, 12] [] ⟨hx, hb, hml, hown, hts⟩ (c_X1_goes l D cA a F th 1 0 (by decide)) (cwV 1 hts gX1_setEqual_X1_goes rfl rfl rfl (by decide +kernel) ⟨Nat.le_of_ble_eq_true rfl, Nat.le_of_ble_eq_true rfl⟩) hK hP hD hS hA rfl rfl (by decide) (by decide) (by decide) rfl rfl rfl rfl rfl hl.1 (Nat.le_of_ble_eq_true rfl) dX1_setEqual_26 ⟨Nat.zero_le _, Nat.zero_le _⟩ (fun r9 u9 H locs hu9 hP hD hS => ?_)
      subst hu9
      have hP : va_P D vwCl (wM a cA F 1) H := hP
      have hD : va_D A (wM a cA F 1) := hD
      refine lv_if_eq (tgt := 42) hx hb dX1_setEqual_29 (by decide) (fun c_29 => ?_) (fun c_29 => (absurd (by decide) c_29 : False).elim)
      have hk9 : kEqual z0 z1 = 1 := by rw [kEqual, if_pos h1, if_neg h2]
      exact hend 42 ls (F, 1) _ _ dX1_setEqual_42 hP hD hS ⟨hk9.symm, fun h => absurd (hk9.symm.trans h) (by decide), fun _ => rfl⟩
    · skip
      have h2 : cR z1 0 6 := Classical.byContradiction (fun h => c_18 (if_neg h))
      refine lv_iconst (v := 0) hx hb dX1_setEqual_21 (by decide) ?_
      refine lv_goto (tgt := 26) hx hb dX1_setEqual_22 (by decide) ?_
      refine Wi.callV (rest := []) (q0 := 0) (ci := 1) (wr := []) [0, 1, 2, 3, 4, 5, 6, 7, 8, 9, 10, 11, 12] [] ⟨hx, hb, hml, hown, hts⟩ (c_X1_goes l D cA a F th 0 1 (by decide)) (cwV 1 hts gX1_setEqual_X1_goes rfl rfl rfl (by decide +kernel) ⟨Nat.le_of_ble_eq_true rfl, Nat.le_of_ble_eq_true rfl⟩) hK hP hD hS hA rfl rfl (by decide) (by decide) (by decide) rfl rfl rfl rfl rfl hl.1 (Nat.le_of_ble_eq_true rfl) dX1_setEqual_26 ⟨Nat.zero_le _, Nat.zero_le _⟩ (fun r9 u9 H locs hu9 hP hD hS => ?_)
      subst hu9
      have hP : va_P D vwCl (wM a cA F 0) H := hP
      have hD : va_D A (wM a cA F 0) := hD
      refine lv_if_eq (tgt := 42) hx hb dX1_setEqual_29 (by decide) (fun c_29 => (absurd c_29 (by decide) : False).elim) (fun c_29 => ?_)
      refine lv_aload_n hx hb dX1_setEqual_32 rfl (lv_at hl 0 rfl) ?_
      refine lv_iload_n hx hb dX1_setEqual_33 rfl (lv_at hl 1 rfl) ?_
      refine va_put (D := D) (ci := 1) (v := .int z0) (ty := .int) (C := RX1) (T := TX1) (N := 16) hx hb hts hi tyX1 tyX1_ok nmX1 hown hK hP hD hS 0 rfl rfl 5 (by decide) (hts (.fieldLink RX1 25 "AssignmentHouseModel" "span" "I") (by decide +kernel)) (fun _ h9 => h9) rfl (by decide +kernel) rfl rfl (Nat.le_of_ble_eq_true rfl) dX1_setEqual_34 (fun H locs hP hD hS => ?_)
      have hP : va_P D vwCl (wM a cA (fUp F 5 0 z0) 0) H := hP
      have hD : va_D A (wM a cA (fUp F 5 0 z0) 0) := hD
      refine lv_aload_n hx hb dX1_setEqual_37 rfl (lv_at hl 0 rfl) ?_
      refine lv_iload_n hx hb dX1_setEqual_38 rfl (lv_at hl 2 rfl) ?_
      refine va_put (D := D) (ci := 1) (v := .int z1) (ty := .int) (C := RX1) (T := TX1) (N := 16) hx hb hts hi tyX1 tyX1_ok nmX1 hown hK hP hD hS 0 rfl rfl 6 (by decide) (hts (.fieldLink RX1 29 "AssignmentHouseModel" "gap" "I") (by decide +kernel)) (fun _ h9 => h9) rfl (by decide +kernel) rfl rfl (Nat.le_of_ble_eq_true rfl) dX1_setEqual_39 (fun H locs hP hD hS => ?_)
      have hP : va_P D vwCl (wM a cA (fUp (fUp F 5 0 z0) 6 0 z1) 0) H := hP
      have hD : va_D A (wM a cA (fUp (fUp F 5 0 z0) 6 0 z1) 0) := hD
      have hk9 : kEqual z0 z1 = 0 := by rw [kEqual, if_pos h1, if_pos h2]
      exact hend 42 ls ((fUp (fUp F 5 0 z0) 6 0 z1), 0) _ _ dX1_setEqual_42 hP hD hS ⟨hk9.symm, fun _ => rfl, fun h => absurd hk9 h⟩

set_option maxHeartbeats 4000000 in
set_option maxRecDepth 100000 in
theorem c_X1_shift (l : Launch) (D : va_G) (cA : ClassId) (a : Nat → Nat) (F : Nat → Nat → Int32) (th : Int32) (N : Nat) (hW : wf F N) (z0 z1 z2 z3 : Int32) : Wi l D cA (S := (Nat → Nat → Int32) × Int32) (wM a cA F th) (fun u => wM a cA u.1 u.2) yX1_shift wsX1_shift rmX1_shift [.ref (a 16), .int z0, .int z1, .int z2, .int z3] (fun r u => u.2 = kShift F N z0 z1 z2 z3 ∧ (kShift F N z0 z1 z2 z3 = 0 → r = F 7 0 ∧ u.1 = fShift F N z0 z1 z2 z3) ∧ (kShift F N z0 z1 z2 z3 ≠ 0 → u.1 = F)) := by
  refine Wi.of (cc := cX1_shift) (maxL := 7) (by decide) rfl (Nat.le_of_ble_eq_true rfl) ?_
  intro p e s m args below meth c ls A Q hx hb hts hown hml hK hP hD hA hS hl hend
  have hown : s.vm.findClass RX1 = some m.cls := hown
  have hi : ∀ w ∈ wsX10, w ∈ wsX1_shift := by decide +kernel
  have hl : lv_has ls 7 [(0, .ref (a 16)), (1, .int z0), (2, .int z1), (3, .int z2), (4, .int z3)] := hl
  have hN : N ≤ 80 := hW.n
  have hc : F 7 0 = nI N := hW.c
  refine lv_iload_n hx hb dX1_shift_0 rfl (lv_at hl 1 rfl) ?_
  refine Rd.callS (rest := []) ⟨hx, hb, hml, hown, hts⟩ (c_X1_isWorker l D cA z0) (va_cwS 1 hts gX1_shift_X1_isWorker rfl rfl rfl (by decide +kernel) ⟨Nat.le_of_ble_eq_true rfl, Nat.le_of_ble_eq_true rfl⟩) hK noP rfl rfl hl.1 (Nat.le_of_ble_eq_true rfl) dX1_shift_1 ⟨Nat.zero_le _, Nat.zero_le _⟩ ?_
  refine lv_if_eq (tgt := 18) hx hb dX1_shift_4 (by decide) (fun c_4 => ?_) (fun c_4 => ?_)
  · skip
    have h1 : ¬ cI z0 6 := fun h => absurd c_4 (by rw [if_pos h]; decide)
    refine lv_iconst (v := 0) hx hb dX1_shift_18 (by decide) ?_
    refine lv_istore (lv' := [(5, .int 0), (0, .ref (a 16)), (1, .int z0), (2, .int z1), (3, .int z2), (4, .int z3)]) hx hb dX1_shift_19 hl (by decide) rfl (fun ls hl => ?_)
    refine lv_iload_n hx hb dX1_shift_21 rfl (lv_at hl 4 rfl) ?_
    refine lv_iconst (v := 0) hx hb dX1_shift_22 (by decide) ?_
    refine lv_sipush (v := 139) hx hb dX1_shift_23 (by decide) ?_
    refine Rd.callS (rest := []) ⟨hx, hb, hml, hown, hts⟩ (c_X1_isIn l D cA z2 0 139) (va_cwS 3 hts gX1_shift_X1_isIn rfl rfl rfl (by decide +kernel) ⟨Nat.le_of_ble_eq_true rfl, Nat.le_of_ble_eq_true rfl⟩) hK noP rfl rfl hl.1 (Nat.le_of_ble_eq_true rfl) dX1_shift_26 ⟨Nat.zero_le _, Nat.zero_le _⟩ ?_
    refine lv_if_eq (tgt := 47) hx hb dX1_shift_29 (by decide) (fun c_29 => ?_) (fun c_29 => ?_)
    · skip
      have h3 : ¬ cR z2 0 139 := fun h => absurd c_29 (by rw [if_pos h]; decide)
      refine lv_iconst (v := 0) hx hb dX1_shift_47 (by decide) ?_
      refine lv_istore (lv' := [(6, .int 0), (5, .int 0), (0, .ref (a 16)), (1, .int z0), (2, .int z1), (3, .int z2), (4, .int z3)]) hx hb dX1_shift_48 hl (by decide) rfl (fun ls hl => ?_)
      refine lv_aload_n hx hb dX1_shift_50 rfl (lv_at hl 2 rfl) ?_
      refine lv_iload hx hb dX1_shift_51 (lv_at hl 1 rfl) ?_
      refine lv_if_ne (tgt := 60) hx hb dX1_shift_53 (by decide) (fun c_53 => (absurd (by decide) c_53 : False).elim) (fun c_53 => ?_)
      refine lv_iconst (v := 1) hx hb dX1_shift_56 (by decide) ?_
      refine lv_goto (tgt := 97) hx hb dX1_shift_57 (by decide) ?_
      refine Wi.callV (rest := []) (q0 := 0) (ci := 1) (wr := []) [0, 1, 2, 3, 4, 5, 6, 7, 8, 9, 10, 11, 12] [] ⟨hx, hb, hml, hown, hts⟩ (c_X1_goes l D cA a F th 1 0 (by decide)) (cwV 1 hts gX1_shift_X1_goes rfl rfl rfl (by decide +kernel) ⟨Nat.le_of_ble_eq_true rfl, Nat.le_of_ble_eq_true rfl⟩) hK hP hD hS hA rfl rfl (by decide) (by decide) (by decide) rfl rfl rfl rfl rfl hl.1 (Nat.le_of_ble_eq_true rfl) dX1_shift_97 ⟨Nat.zero_le _, Nat.zero_le _⟩ (fun r9 u9 H locs hu9 hP hD hS => ?_)
      subst hu9
      have hP : va_P D vwCl (wM a cA F 1) H := hP
      have hD : va_D A (wM a cA F 1) := hD
      refine lv_if_ne (tgt := 105) hx hb dX1_shift_100 (by decide) (fun c_100 => (absurd (by decide) c_100 : False).elim) (fun c_100 => ?_)
      refine lv_iconst (v := 0) hx hb dX1_shift_103 (by decide) ?_
      have hk9 : kShift F N z0 z1 z2 z3 = 1 := by rw [kShift, if_neg h1]
      exact hend 104 ls _ (F, 1) _ _ dX1_shift_104 hP hD hS ⟨hk9.symm, fun h => absurd (hk9.symm.trans h) (by decide), fun _ => rfl⟩
    · skip
      have h3 : cR z2 0 139 := Classical.byContradiction (fun h => c_29 (if_neg h))
      refine lv_iload hx hb dX1_shift_32 (lv_at hl 5 rfl) ?_
      refine lv_iconst (v := 1) hx hb dX1_shift_34 (by decide) ?_
      refine lv_bipush (v := 16) hx hb dX1_shift_35 (by decide) ?_
      refine Rd.callS (rest := []) ⟨hx, hb, hml, hown, hts⟩ (c_X1_isIn l D cA z3 1 16) (va_cwS 3 hts gX1_shift_X1_isIn rfl rfl rfl (by decide +kernel) ⟨Nat.le_of_ble_eq_true rfl, Nat.le_of_ble_eq_true rfl⟩) hK noP rfl rfl hl.1 (Nat.le_of_ble_eq_true rfl) dX1_shift_37 ⟨Nat.zero_le _, Nat.zero_le _⟩ ?_
      refine lv_if_eq (tgt := 47) hx hb dX1_shift_40 (by decide) (fun c_40 => ?_) (fun c_40 => ?_)
      · skip
        have h4 : ¬ cR z3 1 16 := fun h => absurd c_40 (by rw [if_pos h]; decide)
        refine lv_iconst (v := 0) hx hb dX1_shift_47 (by decide) ?_
        refine lv_istore (lv' := [(6, .int 0), (5, .int 0), (0, .ref (a 16)), (1, .int z0), (2, .int z1), (3, .int z2), (4, .int z3)]) hx hb dX1_shift_48 hl (by decide) rfl (fun ls hl => ?_)
        refine lv_aload_n hx hb dX1_shift_50 rfl (lv_at hl 2 rfl) ?_
        refine lv_iload hx hb dX1_shift_51 (lv_at hl 1 rfl) ?_
        refine lv_if_ne (tgt := 60) hx hb dX1_shift_53 (by decide) (fun c_53 => (absurd (by decide) c_53 : False).elim) (fun c_53 => ?_)
        refine lv_iconst (v := 1) hx hb dX1_shift_56 (by decide) ?_
        refine lv_goto (tgt := 97) hx hb dX1_shift_57 (by decide) ?_
        refine Wi.callV (rest := []) (q0 := 0) (ci := 1) (wr := []) [0, 1, 2, 3, 4, 5, 6, 7, 8, 9, 10, 11, 12] [] ⟨hx, hb, hml, hown, hts⟩ (c_X1_goes l D cA a F th 1 0 (by decide)) (cwV 1 hts gX1_shift_X1_goes rfl rfl rfl (by decide +kernel) ⟨Nat.le_of_ble_eq_true rfl, Nat.le_of_ble_eq_true rfl⟩) hK hP hD hS hA rfl rfl (by decide) (by decide) (by decide) rfl rfl rfl rfl rfl hl.1 (Nat.le_of_ble_eq_true rfl) dX1_shift_97 ⟨Nat.zero_le _, Nat.zero_le _⟩ (fun r9 u9 H locs hu9 hP hD hS => ?_)
        subst hu9
        have hP : va_P D vwCl (wM a cA F 1) H := hP
        have hD : va_D A (wM a cA F 1) := hD
        refine lv_if_ne (tgt := 105) hx hb dX1_shift_100 (by decide) (fun c_100 => (absurd (by decide) c_100 : False).elim) (fun c_100 => ?_)
        refine lv_iconst (v := 0) hx hb dX1_shift_103 (by decide) ?_
        have hk9 : kShift F N z0 z1 z2 z3 = 1 := by rw [kShift, if_neg h1]
        exact hend 104 ls _ (F, 1) _ _ dX1_shift_104 hP hD hS ⟨hk9.symm, fun h => absurd (hk9.symm.trans h) (by decide), fun _ => rfl⟩
      · skip
        have h4 : cR z3 1 16 := Classical.byContradiction (fun h => c_40 (if_neg h))
        refine lv_iconst (v := 1) hx hb dX1_shift_43 (by decide) ?_
        refine lv_goto (tgt := 48) hx hb dX1_shift_44 (by decide) ?_
        refine lv_istore (lv' := [(6, .int 1), (5, .int 0), (0, .ref (a 16)), (1, .int z0), (2, .int z1), (3, .int z2), (4, .int z3)]) hx hb dX1_shift_48 hl (by decide) rfl (fun ls hl => ?_)
        refine lv_aload_n hx hb dX1_shift_50 rfl (lv_at hl 2 rfl) ?_
        refine lv_iload hx hb dX1_shift_51 (lv_at hl 1 rfl) ?_
        refine lv_if_ne (tgt := 60) hx hb dX1_shift_53 (by decide) (fun c_53 => (absurd (by decide) c_53 : False).elim) (fun c_53 => ?_)
        refine lv_iconst (v := 1) hx hb dX1_shift_56 (by decide) ?_
        refine lv_goto (tgt := 97) hx hb dX1_shift_57 (by decide) ?_
        refine Wi.callV (rest := []) (q0 := 0) (ci := 1) (wr := []) [0, 1, 2, 3, 4, 5, 6, 7, 8, 9, 10, 11, 12] [] ⟨hx, hb, hml, hown, hts⟩ (c_X1_goes l D cA a F th 1 0 (by decide)) (cwV 1 hts gX1_shift_X1_goes rfl rfl rfl (by decide +kernel) ⟨Nat.le_of_ble_eq_true rfl, Nat.le_of_ble_eq_true rfl⟩) hK hP hD hS hA rfl rfl (by decide) (by decide) (by decide) rfl rfl rfl rfl rfl hl.1 (Nat.le_of_ble_eq_true rfl) dX1_shift_97 ⟨Nat.zero_le _, Nat.zero_le _⟩ (fun r9 u9 H locs hu9 hP hD hS => ?_)
        subst hu9
        have hP : va_P D vwCl (wM a cA F 1) H := hP
        have hD : va_D A (wM a cA F 1) := hD
        refine lv_if_ne (tgt := 105) hx hb dX1_shift_100 (by decide) (fun c_100 => (absurd (by decide) c_100 : False).elim) (fun c_100 => ?_)
        refine lv_iconst (v := 0) hx hb dX1_shift_103 (by decide) ?_
        have hk9 : kShift F N z0 z1 z2 z3 = 1 := by rw [kShift, if_neg h1]
        exact hend 104 ls _ (F, 1) _ _ dX1_shift_104 hP hD hS ⟨hk9.symm, fun h => absurd (hk9.symm.trans h) (by decide), fun _ => rfl⟩
  · skip
    have h1 : cI z0 6 := Classical.byContradiction (fun h => c_4 (if_neg h))
    refine lv_iload_n hx hb dX1_shift_7 rfl (lv_at hl 2 rfl) ?_
    refine Rd.callS (rest := []) ⟨hx, hb, hml, hown, hts⟩ (c_X1_isSite l D cA z1) (va_cwS 1 hts gX1_shift_X1_isSite rfl rfl rfl (by decide +kernel) ⟨Nat.le_of_ble_eq_true rfl, Nat.le_of_ble_eq_true rfl⟩) hK noP rfl rfl hl.1 (Nat.le_of_ble_eq_true rfl) dX1_shift_8 ⟨Nat.zero_le _, Nat.zero_le _⟩ ?_
    refine lv_if_eq (tgt := 18) hx hb dX1_shift_11 (by decide) (fun c_11 => ?_) (fun c_11 => ?_)
    · skip
      have h2 : ¬ cI z1 4 := fun h => absurd c_11 (by rw [if_pos h]; decide)
      refine lv_iconst (v := 0) hx hb dX1_shift_18 (by decide) ?_
      refine lv_istore (lv' := [(5, .int 0), (0, .ref (a 16)), (1, .int z0), (2, .int z1), (3, .int z2), (4, .int z3)]) hx hb dX1_shift_19 hl (by decide) rfl (fun ls hl => ?_)
      refine lv_iload_n hx hb dX1_shift_21 rfl (lv_at hl 4 rfl) ?_
      refine lv_iconst (v := 0) hx hb dX1_shift_22 (by decide) ?_
      refine lv_sipush (v := 139) hx hb dX1_shift_23 (by decide) ?_
      refine Rd.callS (rest := []) ⟨hx, hb, hml, hown, hts⟩ (c_X1_isIn l D cA z2 0 139) (va_cwS 3 hts gX1_shift_X1_isIn rfl rfl rfl (by decide +kernel) ⟨Nat.le_of_ble_eq_true rfl, Nat.le_of_ble_eq_true rfl⟩) hK noP rfl rfl hl.1 (Nat.le_of_ble_eq_true rfl) dX1_shift_26 ⟨Nat.zero_le _, Nat.zero_le _⟩ ?_
      refine lv_if_eq (tgt := 47) hx hb dX1_shift_29 (by decide) (fun c_29 => ?_) (fun c_29 => ?_)
      · skip
        have h3 : ¬ cR z2 0 139 := fun h => absurd c_29 (by rw [if_pos h]; decide)
        refine lv_iconst (v := 0) hx hb dX1_shift_47 (by decide) ?_
        refine lv_istore (lv' := [(6, .int 0), (5, .int 0), (0, .ref (a 16)), (1, .int z0), (2, .int z1), (3, .int z2), (4, .int z3)]) hx hb dX1_shift_48 hl (by decide) rfl (fun ls hl => ?_)
        refine lv_aload_n hx hb dX1_shift_50 rfl (lv_at hl 2 rfl) ?_
        refine lv_iload hx hb dX1_shift_51 (lv_at hl 1 rfl) ?_
        refine lv_if_ne (tgt := 60) hx hb dX1_shift_53 (by decide) (fun c_53 => (absurd (by decide) c_53 : False).elim) (fun c_53 => ?_)
        refine lv_iconst (v := 1) hx hb dX1_shift_56 (by decide) ?_
        refine lv_goto (tgt := 97) hx hb dX1_shift_57 (by decide) ?_
        refine Wi.callV (rest := []) (q0 := 0) (ci := 1) (wr := []) [0, 1, 2, 3, 4, 5, 6, 7, 8, 9, 10, 11, 12] [] ⟨hx, hb, hml, hown, hts⟩ (c_X1_goes l D cA a F th 1 0 (by decide)) (cwV 1 hts gX1_shift_X1_goes rfl rfl rfl (by decide +kernel) ⟨Nat.le_of_ble_eq_true rfl, Nat.le_of_ble_eq_true rfl⟩) hK hP hD hS hA rfl rfl (by decide) (by decide) (by decide) rfl rfl rfl rfl rfl hl.1 (Nat.le_of_ble_eq_true rfl) dX1_shift_97 ⟨Nat.zero_le _, Nat.zero_le _⟩ (fun r9 u9 H locs hu9 hP hD hS => ?_)
        subst hu9
        have hP : va_P D vwCl (wM a cA F 1) H := hP
        have hD : va_D A (wM a cA F 1) := hD
        refine lv_if_ne (tgt := 105) hx hb dX1_shift_100 (by decide) (fun c_100 => (absurd (by decide) c_100 : False).elim) (fun c_100 => ?_)
        refine lv_iconst (v := 0) hx hb dX1_shift_103 (by decide) ?_
        have hk9 : kShift F N z0 z1 z2 z3 = 1 := by rw [kShift, if_pos h1, if_neg h2]
        exact hend 104 ls _ (F, 1) _ _ dX1_shift_104 hP hD hS ⟨hk9.symm, fun h => absurd (hk9.symm.trans h) (by decide), fun _ => rfl⟩
      · skip
        have h3 : cR z2 0 139 := Classical.byContradiction (fun h => c_29 (if_neg h))
        refine lv_iload hx hb dX1_shift_32 (lv_at hl 5 rfl) ?_
        refine lv_iconst (v := 1) hx hb dX1_shift_34 (by decide) ?_
        refine lv_bipush (v := 16) hx hb dX1_shift_35 (by decide) ?_
        refine Rd.callS (rest := []) ⟨hx, hb, hml, hown, hts⟩ (c_X1_isIn l D cA z3 1 16) (va_cwS 3 hts gX1_shift_X1_isIn rfl rfl rfl (by decide +kernel) ⟨Nat.le_of_ble_eq_true rfl, Nat.le_of_ble_eq_true rfl⟩) hK noP rfl rfl hl.1 (Nat.le_of_ble_eq_true rfl) dX1_shift_37 ⟨Nat.zero_le _, Nat.zero_le _⟩ ?_
        refine lv_if_eq (tgt := 47) hx hb dX1_shift_40 (by decide) (fun c_40 => ?_) (fun c_40 => ?_)
        · skip
          have h4 : ¬ cR z3 1 16 := fun h => absurd c_40 (by rw [if_pos h]; decide)
          refine lv_iconst (v := 0) hx hb dX1_shift_47 (by decide) ?_
          refine lv_istore (lv' := [(6, .int 0), (5, .int 0), (0, .ref (a 16)), (1, .int z0), (2, .int z1), (3, .int z2), (4, .int z3)]) hx hb dX1_shift_48 hl (by decide) rfl (fun ls hl => ?_)
          refine lv_aload_n hx hb dX1_shift_50 rfl (lv_at hl 2 rfl) ?_
          refine lv_iload hx hb dX1_shift_51 (lv_at hl 1 rfl) ?_
          refine lv_if_ne (tgt := 60) hx hb dX1_shift_53 (by decide) (fun c_53 => (absurd (by decide) c_53 : False).elim) (fun c_53 => ?_)
          refine lv_iconst (v := 1) hx hb dX1_shift_56 (by decide) ?_
          refine lv_goto (tgt := 97) hx hb dX1_shift_57 (by decide) ?_
          refine Wi.callV (rest := []) (q0 := 0) (ci := 1) (wr := []) [0, 1, 2, 3, 4, 5, 6, 7, 8, 9, 10, 11, 12] [] ⟨hx, hb, hml, hown, hts⟩ (c_X1_goes l D cA a F th 1 0 (by decide)) (cwV 1 hts gX1_shift_X1_goes rfl rfl rfl (by decide +kernel) ⟨Nat.le_of_ble_eq_true rfl, Nat.le_of_ble_eq_true rfl⟩) hK hP hD hS hA rfl rfl (by decide) (by decide) (by decide) rfl rfl rfl rfl rfl hl.1 (Nat.le_of_ble_eq_true rfl) dX1_shift_97 ⟨Nat.zero_le _, Nat.zero_le _⟩ (fun r9 u9 H locs hu9 hP hD hS => ?_)
          subst hu9
          have hP : va_P D vwCl (wM a cA F 1) H := hP
          have hD : va_D A (wM a cA F 1) := hD
          refine lv_if_ne (tgt := 105) hx hb dX1_shift_100 (by decide) (fun c_100 => (absurd (by decide) c_100 : False).elim) (fun c_100 => ?_)
          refine lv_iconst (v := 0) hx hb dX1_shift_103 (by decide) ?_
          have hk9 : kShift F N z0 z1 z2 z3 = 1 := by rw [kShift, if_pos h1, if_neg h2]
          exact hend 104 ls _ (F, 1) _ _ dX1_shift_104 hP hD hS ⟨hk9.symm, fun h => absurd (hk9.symm.trans h) (by decide), fun _ => rfl⟩
        · skip
          have h4 : cR z3 1 16 := Classical.byContradiction (fun h => c_40 (if_neg h))
          refine lv_iconst (v := 1) hx hb dX1_shift_43 (by decide) ?_
          refine lv_goto (tgt := 48) hx hb dX1_shift_44 (by decide) ?_
          refine lv_istore (lv' := [(6, .int 1), (5, .int 0), (0, .ref (a 16)), (1, .int z0), (2, .int z1), (3, .int z2), (4, .int z3)]) hx hb dX1_shift_48 hl (by decide) rfl (fun ls hl => ?_)
          refine lv_aload_n hx hb dX1_shift_50 rfl (lv_at hl 2 rfl) ?_
          refine lv_iload hx hb dX1_shift_51 (lv_at hl 1 rfl) ?_
          refine lv_if_ne (tgt := 60) hx hb dX1_shift_53 (by decide) (fun c_53 => (absurd (by decide) c_53 : False).elim) (fun c_53 => ?_)
          refine lv_iconst (v := 1) hx hb dX1_shift_56 (by decide) ?_
          refine lv_goto (tgt := 97) hx hb dX1_shift_57 (by decide) ?_
          refine Wi.callV (rest := []) (q0 := 0) (ci := 1) (wr := []) [0, 1, 2, 3, 4, 5, 6, 7, 8, 9, 10, 11, 12] [] ⟨hx, hb, hml, hown, hts⟩ (c_X1_goes l D cA a F th 1 0 (by decide)) (cwV 1 hts gX1_shift_X1_goes rfl rfl rfl (by decide +kernel) ⟨Nat.le_of_ble_eq_true rfl, Nat.le_of_ble_eq_true rfl⟩) hK hP hD hS hA rfl rfl (by decide) (by decide) (by decide) rfl rfl rfl rfl rfl hl.1 (Nat.le_of_ble_eq_true rfl) dX1_shift_97 ⟨Nat.zero_le _, Nat.zero_le _⟩ (fun r9 u9 H locs hu9 hP hD hS => ?_)
          subst hu9
          have hP : va_P D vwCl (wM a cA F 1) H := hP
          have hD : va_D A (wM a cA F 1) := hD
          refine lv_if_ne (tgt := 105) hx hb dX1_shift_100 (by decide) (fun c_100 => (absurd (by decide) c_100 : False).elim) (fun c_100 => ?_)
          refine lv_iconst (v := 0) hx hb dX1_shift_103 (by decide) ?_
          have hk9 : kShift F N z0 z1 z2 z3 = 1 := by rw [kShift, if_pos h1, if_neg h2]
          exact hend 104 ls _ (F, 1) _ _ dX1_shift_104 hP hD hS ⟨hk9.symm, fun h => absurd (hk9.symm.trans h) (by decide), fun _ => rfl⟩
    · skip
      have h2 : cI z1 4 := Classical.byContradiction (fun h => c_11 (if_neg h))
      refine lv_iconst (v := 1) hx hb dX1_shift_14 (by decide) ?_
      refine lv_goto (tgt := 19) hx hb dX1_shift_15 (by decide) ?_
      refine lv_istore (lv' := [(5, .int 1), (0, .ref (a 16)), (1, .int z0), (2, .int z1), (3, .int z2), (4, .int z3)]) hx hb dX1_shift_19 hl (by decide) rfl (fun ls hl => ?_)
      refine lv_iload_n hx hb dX1_shift_21 rfl (lv_at hl 4 rfl) ?_
      refine lv_iconst (v := 0) hx hb dX1_shift_22 (by decide) ?_
      refine lv_sipush (v := 139) hx hb dX1_shift_23 (by decide) ?_
      refine Rd.callS (rest := []) ⟨hx, hb, hml, hown, hts⟩ (c_X1_isIn l D cA z2 0 139) (va_cwS 3 hts gX1_shift_X1_isIn rfl rfl rfl (by decide +kernel) ⟨Nat.le_of_ble_eq_true rfl, Nat.le_of_ble_eq_true rfl⟩) hK noP rfl rfl hl.1 (Nat.le_of_ble_eq_true rfl) dX1_shift_26 ⟨Nat.zero_le _, Nat.zero_le _⟩ ?_
      refine lv_if_eq (tgt := 47) hx hb dX1_shift_29 (by decide) (fun c_29 => ?_) (fun c_29 => ?_)
      · skip
        have h3 : ¬ cR z2 0 139 := fun h => absurd c_29 (by rw [if_pos h]; decide)
        refine lv_iconst (v := 0) hx hb dX1_shift_47 (by decide) ?_
        refine lv_istore (lv' := [(6, .int 0), (5, .int 1), (0, .ref (a 16)), (1, .int z0), (2, .int z1), (3, .int z2), (4, .int z3)]) hx hb dX1_shift_48 hl (by decide) rfl (fun ls hl => ?_)
        refine lv_aload_n hx hb dX1_shift_50 rfl (lv_at hl 2 rfl) ?_
        refine lv_iload hx hb dX1_shift_51 (lv_at hl 1 rfl) ?_
        refine lv_if_ne (tgt := 60) hx hb dX1_shift_53 (by decide) (fun c_53 => ?_) (fun c_53 => (absurd c_53 (by decide) : False).elim)
        refine lv_iload hx hb dX1_shift_60 (lv_at hl 0 rfl) ?_
        refine lv_if_ne (tgt := 69) hx hb dX1_shift_62 (by decide) (fun c_62 => (absurd (by decide) c_62 : False).elim) (fun c_62 => ?_)
        refine lv_iconst (v := 2) hx hb dX1_shift_65 (by decide) ?_
        refine lv_goto (tgt := 97) hx hb dX1_shift_66 (by decide) ?_
        refine Wi.callV (rest := []) (q0 := 0) (ci := 1) (wr := []) [0, 1, 2, 3, 4, 5, 6, 7, 8, 9, 10, 11, 12] [] ⟨hx, hb, hml, hown, hts⟩ (c_X1_goes l D cA a F th 2 0 (by decide)) (cwV 1 hts gX1_shift_X1_goes rfl rfl rfl (by decide +kernel) ⟨Nat.le_of_ble_eq_true rfl, Nat.le_of_ble_eq_true rfl⟩) hK hP hD hS hA rfl rfl (by decide) (by decide) (by decide) rfl rfl rfl rfl rfl hl.1 (Nat.le_of_ble_eq_true rfl) dX1_shift_97 ⟨Nat.zero_le _, Nat.zero_le _⟩ (fun r9 u9 H locs hu9 hP hD hS => ?_)
        subst hu9
        have hP : va_P D vwCl (wM a cA F 2) H := hP
        have hD : va_D A (wM a cA F 2) := hD
        refine lv_if_ne (tgt := 105) hx hb dX1_shift_100 (by decide) (fun c_100 => (absurd (by decide) c_100 : False).elim) (fun c_100 => ?_)
        refine lv_iconst (v := 0) hx hb dX1_shift_103 (by decide) ?_
        have hk9 : kShift F N z0 z1 z2 z3 = 2 := by rw [kShift, if_pos h1, if_pos h2, if_neg h3]
        exact hend 104 ls _ (F, 2) _ _ dX1_shift_104 hP hD hS ⟨hk9.symm, fun h => absurd (hk9.symm.trans h) (by decide), fun _ => rfl⟩
      · skip
        have h3 : cR z2 0 139 := Classical.byContradiction (fun h => c_29 (if_neg h))
        refine lv_iload hx hb dX1_shift_32 (lv_at hl 5 rfl) ?_
        refine lv_iconst (v := 1) hx hb dX1_shift_34 (by decide) ?_
        refine lv_bipush (v := 16) hx hb dX1_shift_35 (by decide) ?_
        refine Rd.callS (rest := []) ⟨hx, hb, hml, hown, hts⟩ (c_X1_isIn l D cA z3 1 16) (va_cwS 3 hts gX1_shift_X1_isIn rfl rfl rfl (by decide +kernel) ⟨Nat.le_of_ble_eq_true rfl, Nat.le_of_ble_eq_true rfl⟩) hK noP rfl rfl hl.1 (Nat.le_of_ble_eq_true rfl) dX1_shift_37 ⟨Nat.zero_le _, Nat.zero_le _⟩ ?_
        refine lv_if_eq (tgt := 47) hx hb dX1_shift_40 (by decide) (fun c_40 => ?_) (fun c_40 => ?_)
        · skip
          have h4 : ¬ cR z3 1 16 := fun h => absurd c_40 (by rw [if_pos h]; decide)
          refine lv_iconst (v := 0) hx hb dX1_shift_47 (by decide) ?_
          refine lv_istore (lv' := [(6, .int 0), (5, .int 1), (0, .ref (a 16)), (1, .int z0), (2, .int z1), (3, .int z2), (4, .int z3)]) hx hb dX1_shift_48 hl (by decide) rfl (fun ls hl => ?_)
          refine lv_aload_n hx hb dX1_shift_50 rfl (lv_at hl 2 rfl) ?_
          refine lv_iload hx hb dX1_shift_51 (lv_at hl 1 rfl) ?_
          refine lv_if_ne (tgt := 60) hx hb dX1_shift_53 (by decide) (fun c_53 => ?_) (fun c_53 => (absurd c_53 (by decide) : False).elim)
          refine lv_iload hx hb dX1_shift_60 (lv_at hl 0 rfl) ?_
          refine lv_if_ne (tgt := 69) hx hb dX1_shift_62 (by decide) (fun c_62 => (absurd (by decide) c_62 : False).elim) (fun c_62 => ?_)
          refine lv_iconst (v := 2) hx hb dX1_shift_65 (by decide) ?_
          refine lv_goto (tgt := 97) hx hb dX1_shift_66 (by decide) ?_
          refine Wi.callV (rest := []) (q0 := 0) (ci := 1) (wr := []) [0, 1, 2, 3, 4, 5, 6, 7, 8, 9, 10, 11, 12] [] ⟨hx, hb, hml, hown, hts⟩ (c_X1_goes l D cA a F th 2 0 (by decide)) (cwV 1 hts gX1_shift_X1_goes rfl rfl rfl (by decide +kernel) ⟨Nat.le_of_ble_eq_true rfl, Nat.le_of_ble_eq_true rfl⟩) hK hP hD hS hA rfl rfl (by decide) (by decide) (by decide) rfl rfl rfl rfl rfl hl.1 (Nat.le_of_ble_eq_true rfl) dX1_shift_97 ⟨Nat.zero_le _, Nat.zero_le _⟩ (fun r9 u9 H locs hu9 hP hD hS => ?_)
          subst hu9
          have hP : va_P D vwCl (wM a cA F 2) H := hP
          have hD : va_D A (wM a cA F 2) := hD
          refine lv_if_ne (tgt := 105) hx hb dX1_shift_100 (by decide) (fun c_100 => (absurd (by decide) c_100 : False).elim) (fun c_100 => ?_)
          refine lv_iconst (v := 0) hx hb dX1_shift_103 (by decide) ?_
          have hk9 : kShift F N z0 z1 z2 z3 = 2 := by rw [kShift, if_pos h1, if_pos h2, if_pos h3, if_neg h4]
          exact hend 104 ls _ (F, 2) _ _ dX1_shift_104 hP hD hS ⟨hk9.symm, fun h => absurd (hk9.symm.trans h) (by decide), fun _ => rfl⟩
        · skip
          have h4 : cR z3 1 16 := Classical.byContradiction (fun h => c_40 (if_neg h))
          refine lv_iconst (v := 1) hx hb dX1_shift_43 (by decide) ?_
          refine lv_goto (tgt := 48) hx hb dX1_shift_44 (by decide) ?_
          refine lv_istore (lv' := [(6, .int 1), (5, .int 1), (0, .ref (a 16)), (1, .int z0), (2, .int z1), (3, .int z2), (4, .int z3)]) hx hb dX1_shift_48 hl (by decide) rfl (fun ls hl => ?_)
          refine lv_aload_n hx hb dX1_shift_50 rfl (lv_at hl 2 rfl) ?_
          refine lv_iload hx hb dX1_shift_51 (lv_at hl 1 rfl) ?_
          refine lv_if_ne (tgt := 60) hx hb dX1_shift_53 (by decide) (fun c_53 => ?_) (fun c_53 => (absurd c_53 (by decide) : False).elim)
          refine lv_iload hx hb dX1_shift_60 (lv_at hl 0 rfl) ?_
          refine lv_if_ne (tgt := 69) hx hb dX1_shift_62 (by decide) (fun c_62 => ?_) (fun c_62 => (absurd c_62 (by decide) : False).elim)
          refine lv_aload_n hx hb dX1_shift_69 rfl (lv_at hl 2 rfl) ?_
          refine va_get (D := D) (ci := 1) (v := .int (F 7 0)) (C := RX1) (T := TX1) (N := 16) hx hb hts hi hown hK hP 0 rfl rfl 7 (by decide) (hts (.fieldLink RX1 60 "AssignmentHouseModel" "shifts" "I") (by decide +kernel)) (fun _ h9 => h9) rfl dX1_shift_70 ?_
          refine lv_bipush (v := 80) hx hb dX1_shift_73 (by decide) ?_
          refine lv_icmp_eq (tgt := 92) hx hb dX1_shift_75 (by decide) (fun c_75 => ?_) (fun c_75 => ?_)
          · skip
            have h5 : ¬ F 7 0 < 80 := by rw [c_75]; decide
            refine lv_iconst (v := 3) hx hb dX1_shift_92 (by decide) ?_
            refine lv_goto (tgt := 97) hx hb dX1_shift_93 (by decide) ?_
            refine Wi.callV (rest := []) (q0 := 0) (ci := 1) (wr := []) [0, 1, 2, 3, 4, 5, 6, 7, 8, 9, 10, 11, 12] [] ⟨hx, hb, hml, hown, hts⟩ (c_X1_goes l D cA a F th 3 0 (by decide)) (cwV 1 hts gX1_shift_X1_goes rfl rfl rfl (by decide +kernel) ⟨Nat.le_of_ble_eq_true rfl, Nat.le_of_ble_eq_true rfl⟩) hK hP hD hS hA rfl rfl (by decide) (by decide) (by decide) rfl rfl rfl rfl rfl hl.1 (Nat.le_of_ble_eq_true rfl) dX1_shift_97 ⟨Nat.zero_le _, Nat.zero_le _⟩ (fun r9 u9 H locs hu9 hP hD hS => ?_)
            subst hu9
            have hP : va_P D vwCl (wM a cA F 3) H := hP
            have hD : va_D A (wM a cA F 3) := hD
            refine lv_if_ne (tgt := 105) hx hb dX1_shift_100 (by decide) (fun c_100 => (absurd (by decide) c_100 : False).elim) (fun c_100 => ?_)
            refine lv_iconst (v := 0) hx hb dX1_shift_103 (by decide) ?_
            have hk9 : kShift F N z0 z1 z2 z3 = 3 := by rw [kShift, if_pos h1, if_pos h2, if_pos h3, if_pos h4, if_neg h5]
            exact hend 104 ls _ (F, 3) _ _ dX1_shift_104 hP hD hS ⟨hk9.symm, fun h => absurd (hk9.symm.trans h) (by decide), fun _ => rfl⟩
          · skip
            have h5 : F 7 0 < 80 := by rw [hc]; exact nI_lt (a := N) (b := 80) (Nat.lt_of_le_of_ne hN (fun h => c_75 (by rw [hc, h]; rfl))) (by omega)
            refine lv_aload_n hx hb dX1_shift_78 rfl (lv_at hl 2 rfl) ?_
            refine lv_iload_n hx hb dX1_shift_79 rfl (lv_at hl 3 rfl) ?_
            refine lv_iload_n hx hb dX1_shift_80 rfl (lv_at hl 5 rfl) ?_
            refine Rd.callV (rest := [.ref (a 16)]) (q0 := 0) (ci := 1) ⟨hx, hb, hml, hown, hts⟩ (c_X1_hoursOn l D cA a F th N hW z0 z2) (cwV 2 hts gX1_shift_X1_hoursOn rfl rfl rfl (by decide +kernel) ⟨Nat.le_of_ble_eq_true rfl, Nat.le_of_ble_eq_true rfl⟩) hK hP rfl rfl rfl rfl rfl hl.1 (Nat.le_of_ble_eq_true rfl) dX1_shift_81 ⟨Nat.zero_le _, Nat.zero_le _⟩ ?_
            refine lv_iload hx hb dX1_shift_84 (lv_at hl 6 rfl) ?_
            refine lv_iadd hx hb dX1_shift_86 ?_
            refine lv_bipush (v := 24) hx hb dX1_shift_87 (by decide) ?_
            refine lv_icmp_le (tgt := 96) hx hb dX1_shift_89 (by decide) (fun c_89 => ?_) (fun c_89 => ?_)
            · skip
              have h6 : ps (tOn F z0 z2) N + z3 ≤ 24 := c_89
              refine lv_iconst (v := 0) hx hb dX1_shift_96 (by decide) ?_
              refine Wi.callV (rest := []) (q0 := 0) (ci := 1) (wr := []) [0, 1, 2, 3, 4, 5, 6, 7, 8, 9, 10, 11, 12] [] ⟨hx, hb, hml, hown, hts⟩ (c_X1_goes l D cA a F th 0 1 (by decide)) (cwV 1 hts gX1_shift_X1_goes rfl rfl rfl (by decide +kernel) ⟨Nat.le_of_ble_eq_true rfl, Nat.le_of_ble_eq_true rfl⟩) hK hP hD hS hA rfl rfl (by decide) (by decide) (by decide) rfl rfl rfl rfl rfl hl.1 (Nat.le_of_ble_eq_true rfl) dX1_shift_97 ⟨Nat.zero_le _, Nat.zero_le _⟩ (fun r9 u9 H locs hu9 hP hD hS => ?_)
              subst hu9
              have hP : va_P D vwCl (wM a cA F 0) H := hP
              have hD : va_D A (wM a cA F 0) := hD
              refine lv_if_ne (tgt := 105) hx hb dX1_shift_100 (by decide) (fun c_100 => ?_) (fun c_100 => (absurd c_100 (by decide) : False).elim)
              refine lv_aload_n hx hb dX1_shift_105 rfl (lv_at hl 2 rfl) ?_
              refine va_get (D := D) (ci := 1) (v := .ref (a 8)) (C := RX1) (T := TX1) (N := 16) hx hb hts hi hown hK hP 0 rfl rfl 8 (by decide) (hts (.fieldLink RX1 32 "AssignmentHouseModel" "workers" "[I") (by decide +kernel)) (fun _ h9 => h9) rfl dX1_shift_106 ?_
              refine lv_aload_n hx hb dX1_shift_109 rfl (lv_at hl 2 rfl) ?_
              refine va_get (D := D) (ci := 1) (v := .int (F 7 0)) (C := RX1) (T := TX1) (N := 16) hx hb hts hi hown hK hP 0 rfl rfl 7 (by decide) (hts (.fieldLink RX1 60 "AssignmentHouseModel" "shifts" "I") (by decide +kernel)) (fun _ h9 => h9) rfl dX1_shift_110 ?_
              refine lv_iload_n hx hb dX1_shift_113 rfl (lv_at hl 3 rfl) ?_
              refine ri_ast (j := N) (x := z0) hx hb hK hP hD hS 6 rfl (hc) ((nI_ltI (by omega) (by omega)).mp (by rw [← hc]; exact h5)) (by decide) dX1_shift_114 (fun H locs hP hD hS => ?_)
              have hP : va_P D vwCl (wM a cA (fUp F 8 N z0) 0) H := hP
              have hD : va_D A (wM a cA (fUp F 8 N z0) 0) := hD
              refine lv_aload_n hx hb dX1_shift_115 rfl (lv_at hl 2 rfl) ?_
              refine va_get (D := D) (ci := 1) (v := .ref (a 9)) (C := RX1) (T := TX1) (N := 16) hx hb hts hi hown hK hP 0 rfl rfl 9 (by decide) (hts (.fieldLink RX1 35 "AssignmentHouseModel" "sites" "[I") (by decide +kernel)) (fun _ h9 => h9) rfl dX1_shift_116 ?_
              refine lv_aload_n hx hb dX1_shift_119 rfl (lv_at hl 2 rfl) ?_
              refine va_get (D := D) (ci := 1) (v := .int (F 7 0)) (C := RX1) (T := TX1) (N := 16) hx hb hts hi hown hK hP 0 rfl rfl 7 (by decide) (hts (.fieldLink RX1 60 "AssignmentHouseModel" "shifts" "I") (by decide +kernel)) (fun _ h9 => h9) rfl dX1_shift_120 ?_
              refine lv_iload_n hx hb dX1_shift_123 rfl (lv_at hl 4 rfl) ?_
              refine ri_ast (j := N) (x := z1) hx hb hK hP hD hS 7 rfl (hc) ((nI_ltI (by omega) (by omega)).mp (by rw [← hc]; exact h5)) (by decide) dX1_shift_124 (fun H locs hP hD hS => ?_)
              have hP : va_P D vwCl (wM a cA (fUp (fUp F 8 N z0) 9 N z1) 0) H := hP
              have hD : va_D A (wM a cA (fUp (fUp F 8 N z0) 9 N z1) 0) := hD
              refine lv_aload_n hx hb dX1_shift_125 rfl (lv_at hl 2 rfl) ?_
              refine va_get (D := D) (ci := 1) (v := .ref (a 10)) (C := RX1) (T := TX1) (N := 16) hx hb hts hi hown hK hP 0 rfl rfl 10 (by decide) (hts (.fieldLink RX1 38 "AssignmentHouseModel" "days" "[I") (by decide +kernel)) (fun _ h9 => h9) rfl dX1_shift_126 ?_
              refine lv_aload_n hx hb dX1_shift_129 rfl (lv_at hl 2 rfl) ?_
              refine va_get (D := D) (ci := 1) (v := .int (F 7 0)) (C := RX1) (T := TX1) (N := 16) hx hb hts hi hown hK hP 0 rfl rfl 7 (by decide) (hts (.fieldLink RX1 60 "AssignmentHouseModel" "shifts" "I") (by decide +kernel)) (fun _ h9 => h9) rfl dX1_shift_130 ?_
              refine lv_iload_n hx hb dX1_shift_133 rfl (lv_at hl 5 rfl) ?_
              refine ri_ast (j := N) (x := z2) hx hb hK hP hD hS 8 rfl (hc) ((nI_ltI (by omega) (by omega)).mp (by rw [← hc]; exact h5)) (by decide) dX1_shift_134 (fun H locs hP hD hS => ?_)
              have hP : va_P D vwCl (wM a cA (fUp (fUp (fUp F 8 N z0) 9 N z1) 10 N z2) 0) H := hP
              have hD : va_D A (wM a cA (fUp (fUp (fUp F 8 N z0) 9 N z1) 10 N z2) 0) := hD
              refine lv_aload_n hx hb dX1_shift_135 rfl (lv_at hl 2 rfl) ?_
              refine va_get (D := D) (ci := 1) (v := .ref (a 11)) (C := RX1) (T := TX1) (N := 16) hx hb hts hi hown hK hP 0 rfl rfl 11 (by decide) (hts (.fieldLink RX1 41 "AssignmentHouseModel" "hours" "[I") (by decide +kernel)) (fun _ h9 => h9) rfl dX1_shift_136 ?_
              refine lv_aload_n hx hb dX1_shift_139 rfl (lv_at hl 2 rfl) ?_
              refine va_get (D := D) (ci := 1) (v := .int (F 7 0)) (C := RX1) (T := TX1) (N := 16) hx hb hts hi hown hK hP 0 rfl rfl 7 (by decide) (hts (.fieldLink RX1 60 "AssignmentHouseModel" "shifts" "I") (by decide +kernel)) (fun _ h9 => h9) rfl dX1_shift_140 ?_
              refine lv_iload hx hb dX1_shift_143 (lv_at hl 6 rfl) ?_
              refine ri_ast (j := N) (x := z3) hx hb hK hP hD hS 9 rfl (hc) ((nI_ltI (by omega) (by omega)).mp (by rw [← hc]; exact h5)) (by decide) dX1_shift_145 (fun H locs hP hD hS => ?_)
              have hP : va_P D vwCl (wM a cA (fUp (fUp (fUp (fUp F 8 N z0) 9 N z1) 10 N z2) 11 N z3) 0) H := hP
              have hD : va_D A (wM a cA (fUp (fUp (fUp (fUp F 8 N z0) 9 N z1) 10 N z2) 11 N z3) 0) := hD
              refine lv_aload_n hx hb dX1_shift_146 rfl (lv_at hl 2 rfl) ?_
              refine lv_dup hx hb dX1_shift_147 rfl ?_
              refine va_get (D := D) (ci := 1) (v := .int (F 7 0)) (C := RX1) (T := TX1) (N := 16) hx hb hts hi hown hK hP 0 rfl rfl 7 (by decide) (hts (.fieldLink RX1 60 "AssignmentHouseModel" "shifts" "I") (by decide +kernel)) (fun _ h9 => h9) rfl dX1_shift_148 ?_
              refine lv_iconst (v := 1) hx hb dX1_shift_151 (by decide) ?_
              refine lv_iadd hx hb dX1_shift_152 ?_
              refine va_put (D := D) (ci := 1) (v := .int ((F 7 0) + 1)) (ty := .int) (C := RX1) (T := TX1) (N := 16) hx hb hts hi tyX1 tyX1_ok nmX1 hown hK hP hD hS 0 rfl rfl 7 (by decide) (hts (.fieldLink RX1 60 "AssignmentHouseModel" "shifts" "I") (by decide +kernel)) (fun _ h9 => h9) rfl (by decide +kernel) rfl rfl (Nat.le_of_ble_eq_true rfl) dX1_shift_153 (fun H locs hP hD hS => ?_)
              have hP : va_P D vwCl (wM a cA (fUp (fUp (fUp (fUp (fUp F 8 N z0) 9 N z1) 10 N z2) 11 N z3) 7 0 ((F 7 0) + 1)) 0) H := hP
              have hD : va_D A (wM a cA (fUp (fUp (fUp (fUp (fUp F 8 N z0) 9 N z1) 10 N z2) 11 N z3) 7 0 ((F 7 0) + 1)) 0) := hD
              refine lv_aload_n hx hb dX1_shift_156 rfl (lv_at hl 2 rfl) ?_
              refine va_get (D := D) (ci := 1) (v := .int ((F 7 0) + 1)) (C := RX1) (T := TX1) (N := 16) hx hb hts hi hown hK hP 0 rfl rfl 7 (by decide) (hts (.fieldLink RX1 60 "AssignmentHouseModel" "shifts" "I") (by decide +kernel)) (fun _ h9 => h9) rfl dX1_shift_157 ?_
              refine lv_iconst (v := 1) hx hb dX1_shift_160 (by decide) ?_
              refine lv_isub hx hb dX1_shift_161 ?_
              have hk9 : kShift F N z0 z1 z2 z3 = 0 := by rw [kShift, if_pos h1, if_pos h2, if_pos h3, if_pos h4, if_pos h5, if_pos h6]
              exact hend 162 ls _ ((fUp (fUp (fUp (fUp (fUp F 8 N z0) 9 N z1) 10 N z2) 11 N z3) 7 0 ((F 7 0) + 1)), 0) _ _ dX1_shift_162 hP hD hS ⟨hk9.symm, fun _ => ⟨by rw [Int32.add_sub_cancel], rfl⟩, fun h => absurd hk9 h⟩
            · skip
              have h6 : ¬ ps (tOn F z0 z2) N + z3 ≤ 24 := c_89
              refine lv_iconst (v := 3) hx hb dX1_shift_92 (by decide) ?_
              refine lv_goto (tgt := 97) hx hb dX1_shift_93 (by decide) ?_
              refine Wi.callV (rest := []) (q0 := 0) (ci := 1) (wr := []) [0, 1, 2, 3, 4, 5, 6, 7, 8, 9, 10, 11, 12] [] ⟨hx, hb, hml, hown, hts⟩ (c_X1_goes l D cA a F th 3 0 (by decide)) (cwV 1 hts gX1_shift_X1_goes rfl rfl rfl (by decide +kernel) ⟨Nat.le_of_ble_eq_true rfl, Nat.le_of_ble_eq_true rfl⟩) hK hP hD hS hA rfl rfl (by decide) (by decide) (by decide) rfl rfl rfl rfl rfl hl.1 (Nat.le_of_ble_eq_true rfl) dX1_shift_97 ⟨Nat.zero_le _, Nat.zero_le _⟩ (fun r9 u9 H locs hu9 hP hD hS => ?_)
              subst hu9
              have hP : va_P D vwCl (wM a cA F 3) H := hP
              have hD : va_D A (wM a cA F 3) := hD
              refine lv_if_ne (tgt := 105) hx hb dX1_shift_100 (by decide) (fun c_100 => (absurd (by decide) c_100 : False).elim) (fun c_100 => ?_)
              refine lv_iconst (v := 0) hx hb dX1_shift_103 (by decide) ?_
              have hk9 : kShift F N z0 z1 z2 z3 = 3 := by rw [kShift, if_pos h1, if_pos h2, if_pos h3, if_pos h4, if_pos h5, if_neg h6]
              exact hend 104 ls _ (F, 3) _ _ dX1_shift_104 hP hD hS ⟨hk9.symm, fun h => absurd (hk9.symm.trans h) (by decide), fun _ => rfl⟩

set_option maxHeartbeats 4000000 in
set_option maxRecDepth 100000 in
theorem c_X1_correct (l : Launch) (D : va_G) (cA : ClassId) (a : Nat → Nat) (F : Nat → Nat → Int32) (th : Int32) (N : Nat) (hW : wf F N) (z0 z1 : Int32) (hH : hol F N) : Wi l D cA (S := (Nat → Nat → Int32) × Int32) (wM a cA F th) (fun u => wM a cA u.1 u.2) yX1_correct wsX1_correct rmX1_correct [.ref (a 16), .int z0, .int z1] (fun r u => u.2 = kCorrect F N z0 z1 ∧ (kCorrect F N z0 z1 = 0 → r = F 11 z0.toNatClampNeg ∧ u.1 = fUp F 11 z0.toNatClampNeg z1) ∧ (kCorrect F N z0 z1 ≠ 0 → u.1 = F)) := by
  refine Wi.of (cc := cX1_correct) (maxL := 6) (by decide) rfl (Nat.le_of_ble_eq_true rfl) ?_
  intro p e s m args below meth c ls A Q hx hb hts hown hml hK hP hD hA hS hl hend
  have hown : s.vm.findClass RX1 = some m.cls := hown
  have hi : ∀ w ∈ wsX10, w ∈ wsX1_correct := by decide +kernel
  have hl : lv_has ls 6 [(0, .ref (a 16)), (1, .int z0), (2, .int z1)] := hl
  have hN : N ≤ 80 := hW.n
  have hc : F 7 0 = nI N := hW.c
  refine lv_aload_n hx hb dX1_correct_0 rfl (lv_at hl 0 rfl) ?_
  refine lv_aload_n hx hb dX1_correct_1 rfl (lv_at hl 0 rfl) ?_
  refine lv_iload_n hx hb dX1_correct_2 rfl (lv_at hl 1 rfl) ?_
  refine Rd.callV (rest := [.ref (a 16)]) (q0 := 0) (ci := 1) ⟨hx, hb, hml, hown, hts⟩ (c_X1_isShift l D cA a F th N hW z0) (cwV 1 hts gX1_correct_X1_isShift rfl rfl rfl (by decide +kernel) ⟨Nat.le_of_ble_eq_true rfl, Nat.le_of_ble_eq_true rfl⟩) hK hP rfl rfl rfl rfl rfl hl.1 (Nat.le_of_ble_eq_true rfl) dX1_correct_3 ⟨Nat.zero_le _, Nat.zero_le _⟩ ?_
  refine lv_if_ne (tgt := 13) hx hb dX1_correct_6 (by decide) (fun c_6 => ?_) (fun c_6 => ?_)
  · skip
    have h1 : cI z0 (F 7 0) := Classical.byContradiction (fun h => c_6 (if_neg h))
    obtain ⟨hjz0, ejz0⟩ := cI_of h1 (n := N) (hc) (by omega)
    have hwk := hW.wkr hjz0
    have hhr := hW.hrs hjz0
    refine lv_iload_n hx hb dX1_correct_13 rfl (lv_at hl 2 rfl) ?_
    refine lv_iconst (v := 0) hx hb dX1_correct_14 (by decide) ?_
    refine lv_bipush (v := 16) hx hb dX1_correct_15 (by decide) ?_
    refine Rd.callS (rest := [.ref (a 16)]) ⟨hx, hb, hml, hown, hts⟩ (c_X1_isIn l D cA z1 0 16) (va_cwS 3 hts gX1_correct_X1_isIn rfl rfl rfl (by decide +kernel) ⟨Nat.le_of_ble_eq_true rfl, Nat.le_of_ble_eq_true rfl⟩) hK noP rfl rfl hl.1 (Nat.le_of_ble_eq_true rfl) dX1_correct_17 ⟨Nat.zero_le _, Nat.zero_le _⟩ ?_
    refine lv_if_eq (tgt := 27) hx hb dX1_correct_20 (by decide) (fun c_20 => ?_) (fun c_20 => ?_)
    · skip
      have h2 : ¬ cR z1 0 16 := fun h => absurd c_20 (by rw [if_pos h]; decide)
      refine lv_iconst (v := 2) hx hb dX1_correct_27 (by decide) ?_
      refine Wi.callV (rest := []) (q0 := 0) (ci := 1) (wr := []) [0, 1, 2, 3, 4, 5, 6, 7, 8, 9, 10, 11, 12] [] ⟨hx, hb, hml, hown, hts⟩ (c_X1_goes l D cA a F th 2 0 (by decide)) (cwV 1 hts gX1_correct_X1_goes rfl rfl rfl (by decide +kernel) ⟨Nat.le_of_ble_eq_true rfl, Nat.le_of_ble_eq_true rfl⟩) hK hP hD hS hA rfl rfl (by decide) (by decide) (by decide) rfl rfl rfl rfl rfl hl.1 (Nat.le_of_ble_eq_true rfl) dX1_correct_28 ⟨Nat.zero_le _, Nat.zero_le _⟩ (fun r9 u9 H locs hu9 hP hD hS => ?_)
      subst hu9
      have hP : va_P D vwCl (wM a cA F 2) H := hP
      have hD : va_D A (wM a cA F 2) := hD
      refine lv_if_ne (tgt := 36) hx hb dX1_correct_31 (by decide) (fun c_31 => (absurd (by decide) c_31 : False).elim) (fun c_31 => ?_)
      refine lv_iconst (v := 0) hx hb dX1_correct_34 (by decide) ?_
      have hk9 : kCorrect F N z0 z1 = 2 := by rw [kCorrect, if_pos h1, if_neg h2]
      exact hend 35 ls _ (F, 2) _ _ dX1_correct_35 hP hD hS ⟨hk9.symm, fun h => absurd (hk9.symm.trans h) (by decide), fun _ => rfl⟩
    · skip
      have h2 : cR z1 0 16 := Classical.byContradiction (fun h => c_20 (if_neg h))
      obtain ⟨hz1, ez1⟩ := cR_of h2 (n := 16) rfl (by omega)
      refine lv_iconst (v := 0) hx hb dX1_correct_23 (by decide) ?_
      refine lv_goto (tgt := 28) hx hb dX1_correct_24 (by decide) ?_
      refine Wi.callV (rest := []) (q0 := 0) (ci := 1) (wr := []) [0, 1, 2, 3, 4, 5, 6, 7, 8, 9, 10, 11, 12] [] ⟨hx, hb, hml, hown, hts⟩ (c_X1_goes l D cA a F th 0 1 (by decide)) (cwV 1 hts gX1_correct_X1_goes rfl rfl rfl (by decide +kernel) ⟨Nat.le_of_ble_eq_true rfl, Nat.le_of_ble_eq_true rfl⟩) hK hP hD hS hA rfl rfl (by decide) (by decide) (by decide) rfl rfl rfl rfl rfl hl.1 (Nat.le_of_ble_eq_true rfl) dX1_correct_28 ⟨Nat.zero_le _, Nat.zero_le _⟩ (fun r9 u9 H locs hu9 hP hD hS => ?_)
      subst hu9
      have hP : va_P D vwCl (wM a cA F 0) H := hP
      have hD : va_D A (wM a cA F 0) := hD
      refine lv_if_ne (tgt := 36) hx hb dX1_correct_31 (by decide) (fun c_31 => ?_) (fun c_31 => (absurd c_31 (by decide) : False).elim)
      refine lv_aload_n hx hb dX1_correct_36 rfl (lv_at hl 0 rfl) ?_
      refine va_get (D := D) (ci := 1) (v := .ref (a 8)) (C := RX1) (T := TX1) (N := 16) hx hb hts hi hown hK hP 0 rfl rfl 8 (by decide) (hts (.fieldLink RX1 32 "AssignmentHouseModel" "workers" "[I") (by decide +kernel)) (fun _ h9 => h9) rfl dX1_correct_37 ?_
      refine lv_iload_n hx hb dX1_correct_40 rfl (lv_at hl 1 rfl) ?_
      refine ri_ald (j := z0.toNatClampNeg) hx hb hK hP 6 rfl (ejz0) (by omega) (by decide) dX1_correct_41 ?_
      refine lv_istore_n (lv' := [(3, .int (F 8 z0.toNatClampNeg)), (0, .ref (a 16)), (1, .int z0), (2, .int z1)]) hx hb dX1_correct_42 rfl hl (by decide) rfl (fun ls hl => ?_)
      refine lv_iload_n hx hb dX1_correct_43 rfl (lv_at hl 3 rfl) ?_
      refine lv_aload_n hx hb dX1_correct_44 rfl (lv_at hl 1 rfl) ?_
      refine va_get (D := D) (ci := 1) (v := .ref (a 11)) (C := RX1) (T := TX1) (N := 16) hx hb hts hi hown hK hP 0 rfl rfl 11 (by decide) (hts (.fieldLink RX1 41 "AssignmentHouseModel" "hours" "[I") (by decide +kernel)) (fun _ h9 => h9) rfl dX1_correct_45 ?_
      refine lv_iload_n hx hb dX1_correct_48 rfl (lv_at hl 2 rfl) ?_
      refine ri_ald (j := z0.toNatClampNeg) hx hb hK hP 9 rfl (ejz0) (by omega) (by decide) dX1_correct_49 ?_
      refine lv_isub hx hb dX1_correct_50 ?_
      refine lv_istore (lv' := [(4, .int (z1 - (F 11 z0.toNatClampNeg))), (3, .int (F 8 z0.toNatClampNeg)), (0, .ref (a 16)), (1, .int z0), (2, .int z1)]) hx hb dX1_correct_51 hl (by decide) rfl (fun ls hl => ?_)
      refine lv_aload_n hx hb dX1_correct_53 rfl (lv_at hl 2 rfl) ?_
      refine lv_iload_n hx hb dX1_correct_54 rfl (lv_at hl 1 rfl) ?_
      refine lv_aload_n hx hb dX1_correct_55 rfl (lv_at hl 2 rfl) ?_
      refine va_get (D := D) (ci := 1) (v := .ref (a 10)) (C := RX1) (T := TX1) (N := 16) hx hb hts hi hown hK hP 0 rfl rfl 10 (by decide) (hts (.fieldLink RX1 38 "AssignmentHouseModel" "days" "[I") (by decide +kernel)) (fun _ h9 => h9) rfl dX1_correct_56 ?_
      refine lv_iload_n hx hb dX1_correct_59 rfl (lv_at hl 3 rfl) ?_
      refine ri_ald (j := z0.toNatClampNeg) hx hb hK hP 8 rfl (ejz0) (by omega) (by decide) dX1_correct_60 ?_
      refine Rd.callV (rest := []) (q0 := 0) (ci := 1) ⟨hx, hb, hml, hown, hts⟩ (c_X1_hoursOn l D cA a F 0 N hW (F 8 z0.toNatClampNeg) (F 10 z0.toNatClampNeg)) (cwV 2 hts gX1_correct_X1_hoursOn rfl rfl rfl (by decide +kernel) ⟨Nat.le_of_ble_eq_true rfl, Nat.le_of_ble_eq_true rfl⟩) hK hP rfl rfl rfl rfl rfl hl.1 (Nat.le_of_ble_eq_true rfl) dX1_correct_61 ⟨Nat.zero_le _, Nat.zero_le _⟩ ?_
      refine lv_iload hx hb dX1_correct_64 (lv_at hl 0 rfl) ?_
      refine lv_iadd hx hb dX1_correct_66 ?_
      refine lv_bipush (v := 24) hx hb dX1_correct_67 (by decide) ?_
      refine lv_icmp_gt (tgt := 92) hx hb dX1_correct_69 (by decide) (fun c_69 => ?_) (fun c_69 => ?_)
      · skip
        have h3 : ¬ ps (tOn F (F 8 z0.toNatClampNeg) (F 10 z0.toNatClampNeg)) N + (z1 - F 11 z0.toNatClampNeg) ≤ 24 := Int32.not_le.mpr c_69
        refine lv_iconst (v := 1) hx hb dX1_correct_92 (by decide) ?_
        refine lv_goto (tgt := 97) hx hb dX1_correct_93 (by decide) ?_
        refine lv_istore (lv' := [(5, .int 1), (4, .int (z1 - (F 11 z0.toNatClampNeg))), (3, .int (F 8 z0.toNatClampNeg)), (0, .ref (a 16)), (1, .int z0), (2, .int z1)]) hx hb dX1_correct_97 hl (by decide) rfl (fun ls hl => ?_)
        refine lv_aload_n hx hb dX1_correct_99 rfl (lv_at hl 3 rfl) ?_
        refine lv_iload hx hb dX1_correct_100 (lv_at hl 0 rfl) ?_
        refine lv_if_eq (tgt := 109) hx hb dX1_correct_102 (by decide) (fun c_102 => (absurd c_102 (by decide) : False).elim) (fun c_102 => ?_)
        refine lv_iconst (v := 3) hx hb dX1_correct_105 (by decide) ?_
        refine lv_goto (tgt := 110) hx hb dX1_correct_106 (by decide) ?_
        refine Wi.callV (rest := []) (q0 := 0) (ci := 1) (wr := []) [0, 1, 2, 3, 4, 5, 6, 7, 8, 9, 10, 11, 12] [] ⟨hx, hb, hml, hown, hts⟩ (c_X1_goes l D cA a F 0 3 0 (by decide)) (cwV 1 hts gX1_correct_X1_goes rfl rfl rfl (by decide +kernel) ⟨Nat.le_of_ble_eq_true rfl, Nat.le_of_ble_eq_true rfl⟩) hK hP hD hS hA rfl rfl (by decide) (by decide) (by decide) rfl rfl rfl rfl rfl hl.1 (Nat.le_of_ble_eq_true rfl) dX1_correct_110 ⟨Nat.zero_le _, Nat.zero_le _⟩ (fun r9 u9 H locs hu9 hP hD hS => ?_)
        subst hu9
        have hP : va_P D vwCl (wM a cA F 3) H := hP
        have hD : va_D A (wM a cA F 3) := hD
        refine lv_if_ne (tgt := 118) hx hb dX1_correct_113 (by decide) (fun c_113 => (absurd (by decide) c_113 : False).elim) (fun c_113 => ?_)
        refine lv_iconst (v := 0) hx hb dX1_correct_116 (by decide) ?_
        have hk9 : kCorrect F N z0 z1 = 3 := by rw [kCorrect, if_pos h1, if_pos h2, if_neg h3]
        exact hend 117 ls _ (F, 3) _ _ dX1_correct_117 hP hD hS ⟨hk9.symm, fun h => absurd (hk9.symm.trans h) (by decide), fun _ => rfl⟩
      · skip
        have h3 : ps (tOn F (F 8 z0.toNatClampNeg) (F 10 z0.toNatClampNeg)) N + (z1 - F 11 z0.toNatClampNeg) ≤ 24 := Int32.not_lt.mp c_69
        refine lv_aload_n hx hb dX1_correct_72 rfl (lv_at hl 2 rfl) ?_
        refine va_get (D := D) (ci := 1) (v := .ref (a 14)) (C := RX1) (T := TX1) (N := 16) hx hb hts hi hown hK hP 0 rfl rfl 14 (by decide) (hts (.fieldLink RX1 50 "AssignmentHouseModel" "taken" "[I") (by decide +kernel)) (fun _ h9 => h9) rfl dX1_correct_73 ?_
        refine lv_iload_n hx hb dX1_correct_76 rfl (lv_at hl 1 rfl) ?_
        refine ri_ald (j := (F 8 z0.toNatClampNeg).toNatClampNeg) hx hb hK hP 12 rfl (hwk.2) (hwk.1) (by decide) dX1_correct_77 ?_
        refine lv_aload_n hx hb dX1_correct_78 rfl (lv_at hl 2 rfl) ?_
        refine lv_iload_n hx hb dX1_correct_79 rfl (lv_at hl 1 rfl) ?_
        refine Rd.callV (rest := [.int (F 14 (F 8 z0.toNatClampNeg).toNatClampNeg)]) (q0 := 0) (ci := 1) ⟨hx, hb, hml, hown, hts⟩ (c_X1_earned l D cA a F 0 N hW (F 8 z0.toNatClampNeg)) (cwV 1 hts gX1_correct_X1_earned rfl rfl rfl (by decide +kernel) ⟨Nat.le_of_ble_eq_true rfl, Nat.le_of_ble_eq_true rfl⟩) hK hP rfl rfl rfl rfl rfl hl.1 (Nat.le_of_ble_eq_true rfl) dX1_correct_80 ⟨Nat.zero_le _, Nat.zero_le _⟩ ?_
        refine lv_bipush (v := 7) hx hb dX1_correct_83 (by decide) ?_
        refine lv_iload hx hb dX1_correct_85 (lv_at hl 0 rfl) ?_
        refine lv_imul hx hb dX1_correct_87 ?_
        refine lv_iadd hx hb dX1_correct_88 ?_
        refine lv_icmp_le (tgt := 96) hx hb dX1_correct_89 (by decide) (fun c_89 => ?_) (fun c_89 => ?_)
        · skip
          obtain ⟨t9, e9, q1, q2, q3, q4⟩ := hH _ hwk.1
          have hcf : F 14 (F 8 z0.toNatClampNeg).toNatClampNeg ≤ 7 * ps (tHr F (F 8 z0.toNatClampNeg)) N + 7 * (z1 - F 11 z0.toNatClampNeg) ↔ ¬ 7 * ps (tHr F (F 8 z0.toNatClampNeg)) N - F 14 (F 8 z0.toNatClampNeg).toNatClampNeg + 7 * (z1 - F 11 z0.toNatClampNeg) < 0 := corr_iff ((congrArg (fun z => 7 * ps (tHr F z) N) hwk.2).trans q2) q1 ez1 hhr.2 q3 q4 (by omega) hhr.1
          have h4 : ¬ 7 * ps (tHr F (F 8 z0.toNatClampNeg)) N - F 14 (F 8 z0.toNatClampNeg).toNatClampNeg + 7 * (z1 - F 11 z0.toNatClampNeg) < 0 := hcf.mp c_89
          refine lv_iconst (v := 0) hx hb dX1_correct_96 (by decide) ?_
          refine lv_istore (lv' := [(5, .int 0), (4, .int (z1 - (F 11 z0.toNatClampNeg))), (3, .int (F 8 z0.toNatClampNeg)), (0, .ref (a 16)), (1, .int z0), (2, .int z1)]) hx hb dX1_correct_97 hl (by decide) rfl (fun ls hl => ?_)
          refine lv_aload_n hx hb dX1_correct_99 rfl (lv_at hl 3 rfl) ?_
          refine lv_iload hx hb dX1_correct_100 (lv_at hl 0 rfl) ?_
          refine lv_if_eq (tgt := 109) hx hb dX1_correct_102 (by decide) (fun c_102 => ?_) (fun c_102 => (absurd (by decide) c_102 : False).elim)
          refine lv_iconst (v := 0) hx hb dX1_correct_109 (by decide) ?_
          refine Wi.callV (rest := []) (q0 := 0) (ci := 1) (wr := []) [0, 1, 2, 3, 4, 5, 6, 7, 8, 9, 10, 11, 12] [] ⟨hx, hb, hml, hown, hts⟩ (c_X1_goes l D cA a F 0 0 1 (by decide)) (cwV 1 hts gX1_correct_X1_goes rfl rfl rfl (by decide +kernel) ⟨Nat.le_of_ble_eq_true rfl, Nat.le_of_ble_eq_true rfl⟩) hK hP hD hS hA rfl rfl (by decide) (by decide) (by decide) rfl rfl rfl rfl rfl hl.1 (Nat.le_of_ble_eq_true rfl) dX1_correct_110 ⟨Nat.zero_le _, Nat.zero_le _⟩ (fun r9 u9 H locs hu9 hP hD hS => ?_)
          subst hu9
          have hP : va_P D vwCl (wM a cA F 0) H := hP
          have hD : va_D A (wM a cA F 0) := hD
          refine lv_if_ne (tgt := 118) hx hb dX1_correct_113 (by decide) (fun c_113 => ?_) (fun c_113 => (absurd c_113 (by decide) : False).elim)
          refine lv_aload_n hx hb dX1_correct_118 rfl (lv_at hl 3 rfl) ?_
          refine va_get (D := D) (ci := 1) (v := .ref (a 11)) (C := RX1) (T := TX1) (N := 16) hx hb hts hi hown hK hP 0 rfl rfl 11 (by decide) (hts (.fieldLink RX1 41 "AssignmentHouseModel" "hours" "[I") (by decide +kernel)) (fun _ h9 => h9) rfl dX1_correct_119 ?_
          refine lv_iload_n hx hb dX1_correct_122 rfl (lv_at hl 4 rfl) ?_
          refine lv_iload_n hx hb dX1_correct_123 rfl (lv_at hl 5 rfl) ?_
          refine ri_ast (j := z0.toNatClampNeg) (x := z1) hx hb hK hP hD hS 9 rfl (ejz0) (by omega) (by decide) dX1_correct_124 (fun H locs hP hD hS => ?_)
          have hP : va_P D vwCl (wM a cA (fUp F 11 z0.toNatClampNeg z1) 0) H := hP
          have hD : va_D A (wM a cA (fUp F 11 z0.toNatClampNeg z1) 0) := hD
          refine lv_iload_n hx hb dX1_correct_125 rfl (lv_at hl 5 rfl) ?_
          refine lv_iload hx hb dX1_correct_126 (lv_at hl 1 rfl) ?_
          refine lv_isub hx hb dX1_correct_128 ?_
          have hk9 : kCorrect F N z0 z1 = 0 := by rw [kCorrect, if_pos h1, if_pos h2, if_pos h3, if_pos h4]
          exact hend 129 ls _ ((fUp F 11 z0.toNatClampNeg z1), 0) _ _ dX1_correct_129 hP hD hS ⟨hk9.symm, fun _ => ⟨i32_ss _ _, rfl⟩, fun h => absurd hk9 h⟩
        · skip
          obtain ⟨t9, e9, q1, q2, q3, q4⟩ := hH _ hwk.1
          have hcf : F 14 (F 8 z0.toNatClampNeg).toNatClampNeg ≤ 7 * ps (tHr F (F 8 z0.toNatClampNeg)) N + 7 * (z1 - F 11 z0.toNatClampNeg) ↔ ¬ 7 * ps (tHr F (F 8 z0.toNatClampNeg)) N - F 14 (F 8 z0.toNatClampNeg).toNatClampNeg + 7 * (z1 - F 11 z0.toNatClampNeg) < 0 := corr_iff ((congrArg (fun z => 7 * ps (tHr F z) N) hwk.2).trans q2) q1 ez1 hhr.2 q3 q4 (by omega) hhr.1
          have h4 : ¬ ¬ 7 * ps (tHr F (F 8 z0.toNatClampNeg)) N - F 14 (F 8 z0.toNatClampNeg).toNatClampNeg + 7 * (z1 - F 11 z0.toNatClampNeg) < 0 := fun z => c_89 (hcf.mpr z)
          refine lv_iconst (v := 1) hx hb dX1_correct_92 (by decide) ?_
          refine lv_goto (tgt := 97) hx hb dX1_correct_93 (by decide) ?_
          refine lv_istore (lv' := [(5, .int 1), (4, .int (z1 - (F 11 z0.toNatClampNeg))), (3, .int (F 8 z0.toNatClampNeg)), (0, .ref (a 16)), (1, .int z0), (2, .int z1)]) hx hb dX1_correct_97 hl (by decide) rfl (fun ls hl => ?_)
          refine lv_aload_n hx hb dX1_correct_99 rfl (lv_at hl 3 rfl) ?_
          refine lv_iload hx hb dX1_correct_100 (lv_at hl 0 rfl) ?_
          refine lv_if_eq (tgt := 109) hx hb dX1_correct_102 (by decide) (fun c_102 => (absurd c_102 (by decide) : False).elim) (fun c_102 => ?_)
          refine lv_iconst (v := 3) hx hb dX1_correct_105 (by decide) ?_
          refine lv_goto (tgt := 110) hx hb dX1_correct_106 (by decide) ?_
          refine Wi.callV (rest := []) (q0 := 0) (ci := 1) (wr := []) [0, 1, 2, 3, 4, 5, 6, 7, 8, 9, 10, 11, 12] [] ⟨hx, hb, hml, hown, hts⟩ (c_X1_goes l D cA a F 0 3 0 (by decide)) (cwV 1 hts gX1_correct_X1_goes rfl rfl rfl (by decide +kernel) ⟨Nat.le_of_ble_eq_true rfl, Nat.le_of_ble_eq_true rfl⟩) hK hP hD hS hA rfl rfl (by decide) (by decide) (by decide) rfl rfl rfl rfl rfl hl.1 (Nat.le_of_ble_eq_true rfl) dX1_correct_110 ⟨Nat.zero_le _, Nat.zero_le _⟩ (fun r9 u9 H locs hu9 hP hD hS => ?_)
          subst hu9
          have hP : va_P D vwCl (wM a cA F 3) H := hP
          have hD : va_D A (wM a cA F 3) := hD
          refine lv_if_ne (tgt := 118) hx hb dX1_correct_113 (by decide) (fun c_113 => (absurd (by decide) c_113 : False).elim) (fun c_113 => ?_)
          refine lv_iconst (v := 0) hx hb dX1_correct_116 (by decide) ?_
          have hk9 : kCorrect F N z0 z1 = 3 := by rw [kCorrect, if_pos h1, if_pos h2, if_pos h3, if_neg h4]
          exact hend 117 ls _ (F, 3) _ _ dX1_correct_117 hP hD hS ⟨hk9.symm, fun h => absurd (hk9.symm.trans h) (by decide), fun _ => rfl⟩
  · skip
    have h1 : ¬ cI z0 (F 7 0) := fun h => absurd c_6 (by rw [if_pos h]; decide)
    refine lv_iconst (v := 1) hx hb dX1_correct_9 (by decide) ?_
    refine lv_goto (tgt := 28) hx hb dX1_correct_10 (by decide) ?_
    refine Wi.callV (rest := []) (q0 := 0) (ci := 1) (wr := []) [0, 1, 2, 3, 4, 5, 6, 7, 8, 9, 10, 11, 12] [] ⟨hx, hb, hml, hown, hts⟩ (c_X1_goes l D cA a F th 1 0 (by decide)) (cwV 1 hts gX1_correct_X1_goes rfl rfl rfl (by decide +kernel) ⟨Nat.le_of_ble_eq_true rfl, Nat.le_of_ble_eq_true rfl⟩) hK hP hD hS hA rfl rfl (by decide) (by decide) (by decide) rfl rfl rfl rfl rfl hl.1 (Nat.le_of_ble_eq_true rfl) dX1_correct_28 ⟨Nat.zero_le _, Nat.zero_le _⟩ (fun r9 u9 H locs hu9 hP hD hS => ?_)
    subst hu9
    have hP : va_P D vwCl (wM a cA F 1) H := hP
    have hD : va_D A (wM a cA F 1) := hD
    refine lv_if_ne (tgt := 36) hx hb dX1_correct_31 (by decide) (fun c_31 => (absurd (by decide) c_31 : False).elim) (fun c_31 => ?_)
    refine lv_iconst (v := 0) hx hb dX1_correct_34 (by decide) ?_
    have hk9 : kCorrect F N z0 z1 = 1 := by rw [kCorrect, if_neg h1]
    exact hend 35 ls _ (F, 1) _ _ dX1_correct_35 hP hD hS ⟨hk9.symm, fun h => absurd (hk9.symm.trans h) (by decide), fun _ => rfl⟩

set_option maxHeartbeats 4000000 in
set_option maxRecDepth 100000 in
theorem c_X1_takeHoliday (l : Launch) (D : va_G) (cA : ClassId) (a : Nat → Nat) (F : Nat → Nat → Int32) (th : Int32) (N : Nat) (hW : wf F N) (z0 z1 : Int32) : Wi l D cA (S := (Nat → Nat → Int32) × Int32) (wM a cA F th) (fun u => wM a cA u.1 u.2) yX1_takeHoliday wsX1_takeHoliday rmX1_takeHoliday [.ref (a 16), .int z0, .int z1] (fun r u => u.2 = kTake F N z0 z1 ∧ (kTake F N z0 z1 = 0 → r = 7 * ps (tHr F z0) N - F 14 z0.toNatClampNeg - z1 ∧ u.1 = fUp F 14 z0.toNatClampNeg (F 14 z0.toNatClampNeg + z1)) ∧ (kTake F N z0 z1 ≠ 0 → u.1 = F)) := by
  refine Wi.of (cc := cX1_takeHoliday) (maxL := 3) (by decide) rfl (Nat.le_of_ble_eq_true rfl) ?_
  intro p e s m args below meth c ls A Q hx hb hts hown hml hK hP hD hA hS hl hend
  have hown : s.vm.findClass RX1 = some m.cls := hown
  have hi : ∀ w ∈ wsX10, w ∈ wsX1_takeHoliday := by decide +kernel
  have hl : lv_has ls 3 [(0, .ref (a 16)), (1, .int z0), (2, .int z1)] := hl
  have hN : N ≤ 80 := hW.n
  have hc : F 7 0 = nI N := hW.c
  refine lv_aload_n hx hb dX1_takeHoliday_0 rfl (lv_at hl 0 rfl) ?_
  refine lv_iload_n hx hb dX1_takeHoliday_1 rfl (lv_at hl 1 rfl) ?_
  refine Rd.callS (rest := [.ref (a 16)]) ⟨hx, hb, hml, hown, hts⟩ (c_X1_isWorker l D cA z0) (va_cwS 1 hts gX1_takeHoliday_X1_isWorker rfl rfl rfl (by decide +kernel) ⟨Nat.le_of_ble_eq_true rfl, Nat.le_of_ble_eq_true rfl⟩) hK noP rfl rfl hl.1 (Nat.le_of_ble_eq_true rfl) dX1_takeHoliday_2 ⟨Nat.zero_le _, Nat.zero_le _⟩ ?_
  refine lv_if_ne (tgt := 12) hx hb dX1_takeHoliday_5 (by decide) (fun c_5 => ?_) (fun c_5 => ?_)
  · skip
    have h1 : cI z0 6 := Classical.byContradiction (fun h => c_5 (if_neg h))
    obtain ⟨hjz0, ejz0⟩ := cI_of h1 (n := 6) (rfl) (by omega)
    refine lv_iload_n hx hb dX1_takeHoliday_12 rfl (lv_at hl 2 rfl) ?_
    refine lv_iconst (v := 1) hx hb dX1_takeHoliday_13 (by decide) ?_
    refine lv_sipush (v := 10000) hx hb dX1_takeHoliday_14 (by decide) ?_
    refine Rd.callS (rest := [.ref (a 16)]) ⟨hx, hb, hml, hown, hts⟩ (c_X1_isIn l D cA z1 1 10000) (va_cwS 3 hts gX1_takeHoliday_X1_isIn rfl rfl rfl (by decide +kernel) ⟨Nat.le_of_ble_eq_true rfl, Nat.le_of_ble_eq_true rfl⟩) hK noP rfl rfl hl.1 (Nat.le_of_ble_eq_true rfl) dX1_takeHoliday_17 ⟨Nat.zero_le _, Nat.zero_le _⟩ ?_
    refine lv_if_ne (tgt := 27) hx hb dX1_takeHoliday_20 (by decide) (fun c_20 => ?_) (fun c_20 => ?_)
    · skip
      have h2 : cR z1 1 10000 := Classical.byContradiction (fun h => c_20 (if_neg h))
      refine lv_iload_n hx hb dX1_takeHoliday_27 rfl (lv_at hl 2 rfl) ?_
      refine lv_aload_n hx hb dX1_takeHoliday_28 rfl (lv_at hl 0 rfl) ?_
      refine lv_iload_n hx hb dX1_takeHoliday_29 rfl (lv_at hl 1 rfl) ?_
      refine Rd.callV (rest := [.int z1, .ref (a 16)]) (q0 := 0) (ci := 1) ⟨hx, hb, hml, hown, hts⟩ (c_X1_left l D cA a F th N hW z0 z0.toNatClampNeg ejz0 hjz0) (cwV 1 hts gX1_takeHoliday_X1_left rfl rfl rfl (by decide +kernel) ⟨Nat.le_of_ble_eq_true rfl, Nat.le_of_ble_eq_true rfl⟩) hK hP rfl rfl rfl rfl rfl hl.1 (Nat.le_of_ble_eq_true rfl) dX1_takeHoliday_30 ⟨Nat.zero_le _, Nat.zero_le _⟩ ?_
      refine lv_icmp_le (tgt := 40) hx hb dX1_takeHoliday_33 (by decide) (fun c_33 => ?_) (fun c_33 => ?_)
      · skip
        have h3 : z1 ≤ 7 * ps (tHr F z0) N - F 14 z0.toNatClampNeg := c_33
        refine lv_iconst (v := 0) hx hb dX1_takeHoliday_40 (by decide) ?_
        refine Wi.callV (rest := []) (q0 := 0) (ci := 1) (wr := []) [0, 1, 2, 3, 4, 5, 6, 7, 8, 9, 10, 11, 12] [] ⟨hx, hb, hml, hown, hts⟩ (c_X1_goes l D cA a F th 0 1 (by decide)) (cwV 1 hts gX1_takeHoliday_X1_goes rfl rfl rfl (by decide +kernel) ⟨Nat.le_of_ble_eq_true rfl, Nat.le_of_ble_eq_true rfl⟩) hK hP hD hS hA rfl rfl (by decide) (by decide) (by decide) rfl rfl rfl rfl rfl hl.1 (Nat.le_of_ble_eq_true rfl) dX1_takeHoliday_41 ⟨Nat.zero_le _, Nat.zero_le _⟩ (fun r9 u9 H locs hu9 hP hD hS => ?_)
        subst hu9
        have hP : va_P D vwCl (wM a cA F 0) H := hP
        have hD : va_D A (wM a cA F 0) := hD
        refine lv_if_ne (tgt := 49) hx hb dX1_takeHoliday_44 (by decide) (fun c_44 => ?_) (fun c_44 => (absurd c_44 (by decide) : False).elim)
        refine lv_aload_n hx hb dX1_takeHoliday_49 rfl (lv_at hl 0 rfl) ?_
        refine va_get (D := D) (ci := 1) (v := .ref (a 14)) (C := RX1) (T := TX1) (N := 16) hx hb hts hi hown hK hP 0 rfl rfl 14 (by decide) (hts (.fieldLink RX1 50 "AssignmentHouseModel" "taken" "[I") (by decide +kernel)) (fun _ h9 => h9) rfl dX1_takeHoliday_50 ?_
        refine lv_iload_n hx hb dX1_takeHoliday_53 rfl (lv_at hl 1 rfl) ?_
        refine lv_dup2_11 hx hb dX1_takeHoliday_54 rfl rfl ?_
        refine ri_ald (j := z0.toNatClampNeg) hx hb hK hP 12 rfl (ejz0) (by omega) (by decide) dX1_takeHoliday_55 ?_
        refine lv_iload_n hx hb dX1_takeHoliday_56 rfl (lv_at hl 2 rfl) ?_
        refine lv_iadd hx hb dX1_takeHoliday_57 ?_
        refine ri_ast (j := z0.toNatClampNeg) (x := ((F 14 z0.toNatClampNeg) + z1)) hx hb hK hP hD hS 12 rfl (ejz0) (by omega) (by decide) dX1_takeHoliday_58 (fun H locs hP hD hS => ?_)
        have hP : va_P D vwCl (wM a cA (fUp F 14 z0.toNatClampNeg ((F 14 z0.toNatClampNeg) + z1)) 0) H := hP
        have hD : va_D A (wM a cA (fUp F 14 z0.toNatClampNeg ((F 14 z0.toNatClampNeg) + z1)) 0) := hD
        refine lv_aload_n hx hb dX1_takeHoliday_59 rfl (lv_at hl 0 rfl) ?_
        refine lv_iload_n hx hb dX1_takeHoliday_60 rfl (lv_at hl 1 rfl) ?_
        refine Rd.callV (rest := []) (q0 := 0) (ci := 1) ⟨hx, hb, hml, hown, hts⟩ (c_X1_left l D cA a (fUp F 14 z0.toNatClampNeg ((F 14 z0.toNatClampNeg) + z1)) 0 N (wf_up14 hW) z0 z0.toNatClampNeg ejz0 hjz0) (cwV 1 hts gX1_takeHoliday_X1_left rfl rfl rfl (by decide +kernel) ⟨Nat.le_of_ble_eq_true rfl, Nat.le_of_ble_eq_true rfl⟩) hK hP rfl rfl rfl rfl rfl hl.1 (Nat.le_of_ble_eq_true rfl) dX1_takeHoliday_61 ⟨Nat.zero_le _, Nat.zero_le _⟩ ?_
        have hk9 : kTake F N z0 z1 = 0 := by rw [kTake, if_pos h1, if_pos h2, if_pos h3]
        exact hend 64 ls _ ((fUp F 14 z0.toNatClampNeg ((F 14 z0.toNatClampNeg) + z1)), 0) _ _ dX1_takeHoliday_64 hP hD hS ⟨hk9.symm, fun _ => ⟨left_up F N z0.toNatClampNeg z0 z1, rfl⟩, fun h => absurd hk9 h⟩
      · skip
        have h3 : ¬ z1 ≤ 7 * ps (tHr F z0) N - F 14 z0.toNatClampNeg := c_33
        refine lv_iconst (v := 3) hx hb dX1_takeHoliday_36 (by decide) ?_
        refine lv_goto (tgt := 41) hx hb dX1_takeHoliday_37 (by decide) ?_
        refine Wi.callV (rest := []) (q0 := 0) (ci := 1) (wr := []) [0, 1, 2, 3, 4, 5, 6, 7, 8, 9, 10, 11, 12] [] ⟨hx, hb, hml, hown, hts⟩ (c_X1_goes l D cA a F th 3 0 (by decide)) (cwV 1 hts gX1_takeHoliday_X1_goes rfl rfl rfl (by decide +kernel) ⟨Nat.le_of_ble_eq_true rfl, Nat.le_of_ble_eq_true rfl⟩) hK hP hD hS hA rfl rfl (by decide) (by decide) (by decide) rfl rfl rfl rfl rfl hl.1 (Nat.le_of_ble_eq_true rfl) dX1_takeHoliday_41 ⟨Nat.zero_le _, Nat.zero_le _⟩ (fun r9 u9 H locs hu9 hP hD hS => ?_)
        subst hu9
        have hP : va_P D vwCl (wM a cA F 3) H := hP
        have hD : va_D A (wM a cA F 3) := hD
        refine lv_if_ne (tgt := 49) hx hb dX1_takeHoliday_44 (by decide) (fun c_44 => (absurd (by decide) c_44 : False).elim) (fun c_44 => ?_)
        refine lv_iconst (v := 0) hx hb dX1_takeHoliday_47 (by decide) ?_
        have hk9 : kTake F N z0 z1 = 3 := by rw [kTake, if_pos h1, if_pos h2, if_neg h3]
        exact hend 48 ls _ (F, 3) _ _ dX1_takeHoliday_48 hP hD hS ⟨hk9.symm, fun h => absurd (hk9.symm.trans h) (by decide), fun _ => rfl⟩
    · skip
      have h2 : ¬ cR z1 1 10000 := fun h => absurd c_20 (by rw [if_pos h]; decide)
      refine lv_iconst (v := 2) hx hb dX1_takeHoliday_23 (by decide) ?_
      refine lv_goto (tgt := 41) hx hb dX1_takeHoliday_24 (by decide) ?_
      refine Wi.callV (rest := []) (q0 := 0) (ci := 1) (wr := []) [0, 1, 2, 3, 4, 5, 6, 7, 8, 9, 10, 11, 12] [] ⟨hx, hb, hml, hown, hts⟩ (c_X1_goes l D cA a F th 2 0 (by decide)) (cwV 1 hts gX1_takeHoliday_X1_goes rfl rfl rfl (by decide +kernel) ⟨Nat.le_of_ble_eq_true rfl, Nat.le_of_ble_eq_true rfl⟩) hK hP hD hS hA rfl rfl (by decide) (by decide) (by decide) rfl rfl rfl rfl rfl hl.1 (Nat.le_of_ble_eq_true rfl) dX1_takeHoliday_41 ⟨Nat.zero_le _, Nat.zero_le _⟩ (fun r9 u9 H locs hu9 hP hD hS => ?_)
      subst hu9
      have hP : va_P D vwCl (wM a cA F 2) H := hP
      have hD : va_D A (wM a cA F 2) := hD
      refine lv_if_ne (tgt := 49) hx hb dX1_takeHoliday_44 (by decide) (fun c_44 => (absurd (by decide) c_44 : False).elim) (fun c_44 => ?_)
      refine lv_iconst (v := 0) hx hb dX1_takeHoliday_47 (by decide) ?_
      have hk9 : kTake F N z0 z1 = 2 := by rw [kTake, if_pos h1, if_neg h2]
      exact hend 48 ls _ (F, 2) _ _ dX1_takeHoliday_48 hP hD hS ⟨hk9.symm, fun h => absurd (hk9.symm.trans h) (by decide), fun _ => rfl⟩
  · skip
    have h1 : ¬ cI z0 6 := fun h => absurd c_5 (by rw [if_pos h]; decide)
    refine lv_iconst (v := 1) hx hb dX1_takeHoliday_8 (by decide) ?_
    refine lv_goto (tgt := 41) hx hb dX1_takeHoliday_9 (by decide) ?_
    refine Wi.callV (rest := []) (q0 := 0) (ci := 1) (wr := []) [0, 1, 2, 3, 4, 5, 6, 7, 8, 9, 10, 11, 12] [] ⟨hx, hb, hml, hown, hts⟩ (c_X1_goes l D cA a F th 1 0 (by decide)) (cwV 1 hts gX1_takeHoliday_X1_goes rfl rfl rfl (by decide +kernel) ⟨Nat.le_of_ble_eq_true rfl, Nat.le_of_ble_eq_true rfl⟩) hK hP hD hS hA rfl rfl (by decide) (by decide) (by decide) rfl rfl rfl rfl rfl hl.1 (Nat.le_of_ble_eq_true rfl) dX1_takeHoliday_41 ⟨Nat.zero_le _, Nat.zero_le _⟩ (fun r9 u9 H locs hu9 hP hD hS => ?_)
    subst hu9
    have hP : va_P D vwCl (wM a cA F 1) H := hP
    have hD : va_D A (wM a cA F 1) := hD
    refine lv_if_ne (tgt := 49) hx hb dX1_takeHoliday_44 (by decide) (fun c_44 => (absurd (by decide) c_44 : False).elim) (fun c_44 => ?_)
    refine lv_iconst (v := 0) hx hb dX1_takeHoliday_47 (by decide) ?_
    have hk9 : kTake F N z0 z1 = 1 := by rw [kTake, if_neg h1]
    exact hend 48 ls _ (F, 1) _ _ dX1_takeHoliday_48 hP hD hS ⟨hk9.symm, fun h => absurd (hk9.symm.trans h) (by decide), fun _ => rfl⟩

set_option maxHeartbeats 4000000 in
set_option maxRecDepth 100000 in
theorem c_X1_holiday (l : Launch) (D : va_G) (cA : ClassId) (a : Nat → Nat) (F : Nat → Nat → Int32) (th : Int32) (N : Nat) (hW : wf F N) (z0 : Int32) : Wi l D cA (S := (Nat → Nat → Int32) × Int32) (wM a cA F th) (fun u => wM a cA u.1 u.2) yX1_holiday wsX1_holiday rmX1_holiday [.ref (a 16), .int z0] (fun r u => u.2 = kW z0 ∧ (kW z0 = 0 → r = 7 * ps (tHr F z0) N - F 14 z0.toNatClampNeg ∧ u.1 = F) ∧ (kW z0 ≠ 0 → u.1 = F)) := by
  refine Wi.of (cc := cX1_holiday) (maxL := 2) (by decide) rfl (Nat.le_of_ble_eq_true rfl) ?_
  intro p e s m args below meth c ls A Q hx hb hts hown hml hK hP hD hA hS hl hend
  have hown : s.vm.findClass RX1 = some m.cls := hown
  have hl : lv_has ls 2 [(0, .ref (a 16)), (1, .int z0)] := hl
  have hN : N ≤ 80 := hW.n
  have hc : F 7 0 = nI N := hW.c
  refine lv_aload_n hx hb dX1_holiday_0 rfl (lv_at hl 0 rfl) ?_
  refine lv_iload_n hx hb dX1_holiday_1 rfl (lv_at hl 1 rfl) ?_
  refine Rd.callS (rest := [.ref (a 16)]) ⟨hx, hb, hml, hown, hts⟩ (c_X1_isWorker l D cA z0) (va_cwS 1 hts gX1_holiday_X1_isWorker rfl rfl rfl (by decide +kernel) ⟨Nat.le_of_ble_eq_true rfl, Nat.le_of_ble_eq_true rfl⟩) hK noP rfl rfl hl.1 (Nat.le_of_ble_eq_true rfl) dX1_holiday_2 ⟨Nat.zero_le _, Nat.zero_le _⟩ ?_
  refine lv_if_eq (tgt := 12) hx hb dX1_holiday_5 (by decide) (fun c_5 => ?_) (fun c_5 => ?_)
  · skip
    have h1 : ¬ cI z0 6 := fun h => absurd c_5 (by rw [if_pos h]; decide)
    refine lv_iconst (v := 1) hx hb dX1_holiday_12 (by decide) ?_
    refine Wi.callV (rest := []) (q0 := 0) (ci := 1) (wr := []) [0, 1, 2, 3, 4, 5, 6, 7, 8, 9, 10, 11, 12] [] ⟨hx, hb, hml, hown, hts⟩ (c_X1_goes l D cA a F th 1 0 (by decide)) (cwV 1 hts gX1_holiday_X1_goes rfl rfl rfl (by decide +kernel) ⟨Nat.le_of_ble_eq_true rfl, Nat.le_of_ble_eq_true rfl⟩) hK hP hD hS hA rfl rfl (by decide) (by decide) (by decide) rfl rfl rfl rfl rfl hl.1 (Nat.le_of_ble_eq_true rfl) dX1_holiday_13 ⟨Nat.zero_le _, Nat.zero_le _⟩ (fun r9 u9 H locs hu9 hP hD hS => ?_)
    subst hu9
    have hP : va_P D vwCl (wM a cA F 1) H := hP
    have hD : va_D A (wM a cA F 1) := hD
    refine lv_if_eq (tgt := 27) hx hb dX1_holiday_16 (by decide) (fun c_16 => ?_) (fun c_16 => (absurd (by decide) c_16 : False).elim)
    refine lv_iconst (v := 0) hx hb dX1_holiday_27 (by decide) ?_
    have hk9 : kW z0 = 1 := by rw [kW, if_neg h1]
    exact hend 28 ls _ (F, 1) _ _ dX1_holiday_28 hP hD hS ⟨hk9.symm, fun h => absurd (hk9.symm.trans h) (by decide), fun _ => rfl⟩
  · skip
    have h1 : cI z0 6 := Classical.byContradiction (fun h => c_5 (if_neg h))
    obtain ⟨hjz0, ejz0⟩ := cI_of h1 (n := 6) (rfl) (by omega)
    refine lv_iconst (v := 0) hx hb dX1_holiday_8 (by decide) ?_
    refine lv_goto (tgt := 13) hx hb dX1_holiday_9 (by decide) ?_
    refine Wi.callV (rest := []) (q0 := 0) (ci := 1) (wr := []) [0, 1, 2, 3, 4, 5, 6, 7, 8, 9, 10, 11, 12] [] ⟨hx, hb, hml, hown, hts⟩ (c_X1_goes l D cA a F th 0 1 (by decide)) (cwV 1 hts gX1_holiday_X1_goes rfl rfl rfl (by decide +kernel) ⟨Nat.le_of_ble_eq_true rfl, Nat.le_of_ble_eq_true rfl⟩) hK hP hD hS hA rfl rfl (by decide) (by decide) (by decide) rfl rfl rfl rfl rfl hl.1 (Nat.le_of_ble_eq_true rfl) dX1_holiday_13 ⟨Nat.zero_le _, Nat.zero_le _⟩ (fun r9 u9 H locs hu9 hP hD hS => ?_)
    subst hu9
    have hP : va_P D vwCl (wM a cA F 0) H := hP
    have hD : va_D A (wM a cA F 0) := hD
    refine lv_if_eq (tgt := 27) hx hb dX1_holiday_16 (by decide) (fun c_16 => (absurd c_16 (by decide) : False).elim) (fun c_16 => ?_)
    refine lv_aload_n hx hb dX1_holiday_19 rfl (lv_at hl 0 rfl) ?_
    refine lv_iload_n hx hb dX1_holiday_20 rfl (lv_at hl 1 rfl) ?_
    refine Rd.callV (rest := []) (q0 := 0) (ci := 1) ⟨hx, hb, hml, hown, hts⟩ (c_X1_left l D cA a F 0 N hW z0 z0.toNatClampNeg ejz0 hjz0) (cwV 1 hts gX1_holiday_X1_left rfl rfl rfl (by decide +kernel) ⟨Nat.le_of_ble_eq_true rfl, Nat.le_of_ble_eq_true rfl⟩) hK hP rfl rfl rfl rfl rfl hl.1 (Nat.le_of_ble_eq_true rfl) dX1_holiday_21 ⟨Nat.zero_le _, Nat.zero_le _⟩ ?_
    refine lv_goto (tgt := 28) hx hb dX1_holiday_24 (by decide) ?_
    have hk9 : kW z0 = 0 := by rw [kW, if_pos h1]
    exact hend 28 ls _ (F, 0) _ _ dX1_holiday_28 hP hD hS ⟨hk9.symm, fun _ => ⟨rfl, rfl⟩, fun h => absurd hk9 h⟩

set_option maxHeartbeats 4000000 in
set_option maxRecDepth 100000 in
theorem c_X1_shifts (l : Launch) (D : va_G) (cA : ClassId) (a : Nat → Nat) (F : Nat → Nat → Int32) (th : Int32) : Wi l D cA (S := Unit) (wM a cA F th) (fun _ => wM a cA F 0) yX1_shifts wsX1_shifts rmX1_shifts [.ref (a 16)] (fun r _ => r = F 7 0) := by
  refine Wi.of (cc := cX1_shifts) (maxL := 1) (by decide) rfl (Nat.le_of_ble_eq_true rfl) ?_
  intro p e s m args below meth c ls A Q hx hb hts hown hml hK hP hD hA hS hl hend
  have hown : s.vm.findClass RX1 = some m.cls := hown
  have hi : ∀ w ∈ wsX10, w ∈ wsX1_shifts := by decide +kernel
  have hl : lv_has ls 1 [(0, .ref (a 16))] := hl
  refine lv_aload_n hx hb dX1_shifts_0 rfl (lv_at hl 0 rfl) ?_
  refine lv_iconst (v := 0) hx hb dX1_shifts_1 (by decide) ?_
  refine va_put (D := D) (ci := 1) (v := .int 0) (ty := .int) (C := RX1) (T := TX1) (N := 16) hx hb hts hi tyX1 tyX1_ok nmX1 hown hK hP hD hS 0 rfl rfl 15 (by decide) (hts (.fieldLink RX1 53 "AssignmentHouseModel" "thrown" "I") (by decide +kernel)) (fun _ h9 => h9) rfl (by decide +kernel) rfl rfl (Nat.le_of_ble_eq_true rfl) dX1_shifts_2 (fun H locs hP hD hS => ?_)
  have hP : va_P D vwCl (wM a cA F 0) H := hP
  have hD : va_D A (wM a cA F 0) := hD
  refine lv_aload_n hx hb dX1_shifts_5 rfl (lv_at hl 0 rfl) ?_
  refine va_get (D := D) (ci := 1) (v := .int (F 7 0)) (C := RX1) (T := TX1) (N := 16) hx hb hts hi hown hK hP 0 rfl rfl 7 (by decide) (hts (.fieldLink RX1 60 "AssignmentHouseModel" "shifts" "I") (by decide +kernel)) (fun _ h9 => h9) rfl dX1_shifts_6 ?_
  exact hend 9 ls _ (()) _ _ dX1_shifts_9 hP hD hS (rfl)

set_option maxHeartbeats 4000000 in
set_option maxRecDepth 100000 in
theorem c_X1_hours (l : Launch) (D : va_G) (cA : ClassId) (a : Nat → Nat) (F : Nat → Nat → Int32) (th : Int32) (N : Nat) (hW : wf F N) (z0 z1 : Int32) : Wi l D cA (S := (Nat → Nat → Int32) × Int32) (wM a cA F th) (fun u => wM a cA u.1 u.2) yX1_hours wsX1_hours rmX1_hours [.ref (a 16), .int z0, .int z1] (fun r u => u.2 = kWW z0 z1 ∧ (kWW z0 z1 = 0 → r = ps (tWk F z0 z1) N ∧ u.1 = F) ∧ (kWW z0 z1 ≠ 0 → u.1 = F)) := by
  refine Wi.of (cc := cX1_hours) (maxL := 5) (by decide) rfl (Nat.le_of_ble_eq_true rfl) ?_
  intro p e s m args below meth c ls A Q hx hb hts hown hml hK hP hD hA hS hl hend
  have hown : s.vm.findClass RX1 = some m.cls := hown
  have hi : ∀ w ∈ wsX10, w ∈ wsX1_hours := by decide +kernel
  have hl : lv_has ls 5 [(0, .ref (a 16)), (1, .int z0), (2, .int z1)] := hl
  have hN : N ≤ 80 := hW.n
  have hc : F 7 0 = nI N := hW.c
  refine lv_aload_n hx hb dX1_hours_0 rfl (lv_at hl 0 rfl) ?_
  refine lv_iload_n hx hb dX1_hours_1 rfl (lv_at hl 1 rfl) ?_
  refine Rd.callS (rest := [.ref (a 16)]) ⟨hx, hb, hml, hown, hts⟩ (c_X1_isWorker l D cA z0) (va_cwS 1 hts gX1_hours_X1_isWorker rfl rfl rfl (by decide +kernel) ⟨Nat.le_of_ble_eq_true rfl, Nat.le_of_ble_eq_true rfl⟩) hK noP rfl rfl hl.1 (Nat.le_of_ble_eq_true rfl) dX1_hours_2 ⟨Nat.zero_le _, Nat.zero_le _⟩ ?_
  refine lv_if_eq (tgt := 19) hx hb dX1_hours_5 (by decide) (fun c_5 => ?_) (fun c_5 => ?_)
  · skip
    have h1 : ¬ cI z0 6 := fun h => absurd c_5 (by rw [if_pos h]; decide)
    refine lv_iconst (v := 1) hx hb dX1_hours_19 (by decide) ?_
    refine Wi.callV (rest := []) (q0 := 0) (ci := 1) (wr := []) [0, 1, 2, 3, 4, 5, 6, 7, 8, 9, 10, 11, 12] [] ⟨hx, hb, hml, hown, hts⟩ (c_X1_goes l D cA a F th 1 0 (by decide)) (cwV 1 hts gX1_hours_X1_goes rfl rfl rfl (by decide +kernel) ⟨Nat.le_of_ble_eq_true rfl, Nat.le_of_ble_eq_true rfl⟩) hK hP hD hS hA rfl rfl (by decide) (by decide) (by decide) rfl rfl rfl rfl rfl hl.1 (Nat.le_of_ble_eq_true rfl) dX1_hours_20 ⟨Nat.zero_le _, Nat.zero_le _⟩ (fun r9 u9 H locs hu9 hP hD hS => ?_)
    subst hu9
    have hP : va_P D vwCl (wM a cA F 1) H := hP
    have hD : va_D A (wM a cA F 1) := hD
    refine lv_if_ne (tgt := 28) hx hb dX1_hours_23 (by decide) (fun c_23 => (absurd (by decide) c_23 : False).elim) (fun c_23 => ?_)
    refine lv_iconst (v := 0) hx hb dX1_hours_26 (by decide) ?_
    have hk9 : kWW z0 z1 = 1 := by rw [kWW, if_neg h1]
    exact hend 27 ls _ (F, 1) _ _ dX1_hours_27 hP hD hS ⟨hk9.symm, fun h => absurd (hk9.symm.trans h) (by decide), fun _ => rfl⟩
  · skip
    have h1 : cI z0 6 := Classical.byContradiction (fun h => c_5 (if_neg h))
    refine lv_iload_n hx hb dX1_hours_8 rfl (lv_at hl 2 rfl) ?_
    refine Rd.callS (rest := [.ref (a 16)]) ⟨hx, hb, hml, hown, hts⟩ (c_X1_isWeek l D cA z1) (va_cwS 1 hts gX1_hours_X1_isWeek rfl rfl rfl (by decide +kernel) ⟨Nat.le_of_ble_eq_true rfl, Nat.le_of_ble_eq_true rfl⟩) hK noP rfl rfl hl.1 (Nat.le_of_ble_eq_true rfl) dX1_hours_9 ⟨Nat.zero_le _, Nat.zero_le _⟩ ?_
    refine lv_if_eq (tgt := 19) hx hb dX1_hours_12 (by decide) (fun c_12 => ?_) (fun c_12 => ?_)
    · skip
      have h2 : ¬ cI z1 20 := fun h => absurd c_12 (by rw [if_pos h]; decide)
      refine lv_iconst (v := 1) hx hb dX1_hours_19 (by decide) ?_
      refine Wi.callV (rest := []) (q0 := 0) (ci := 1) (wr := []) [0, 1, 2, 3, 4, 5, 6, 7, 8, 9, 10, 11, 12] [] ⟨hx, hb, hml, hown, hts⟩ (c_X1_goes l D cA a F th 1 0 (by decide)) (cwV 1 hts gX1_hours_X1_goes rfl rfl rfl (by decide +kernel) ⟨Nat.le_of_ble_eq_true rfl, Nat.le_of_ble_eq_true rfl⟩) hK hP hD hS hA rfl rfl (by decide) (by decide) (by decide) rfl rfl rfl rfl rfl hl.1 (Nat.le_of_ble_eq_true rfl) dX1_hours_20 ⟨Nat.zero_le _, Nat.zero_le _⟩ (fun r9 u9 H locs hu9 hP hD hS => ?_)
      subst hu9
      have hP : va_P D vwCl (wM a cA F 1) H := hP
      have hD : va_D A (wM a cA F 1) := hD
      refine lv_if_ne (tgt := 28) hx hb dX1_hours_23 (by decide) (fun c_23 => (absurd (by decide) c_23 : False).elim) (fun c_23 => ?_)
      refine lv_iconst (v := 0) hx hb dX1_hours_26 (by decide) ?_
      have hk9 : kWW z0 z1 = 1 := by rw [kWW, if_pos h1, if_neg h2]
      exact hend 27 ls _ (F, 1) _ _ dX1_hours_27 hP hD hS ⟨hk9.symm, fun h => absurd (hk9.symm.trans h) (by decide), fun _ => rfl⟩
    · skip
      have h2 : cI z1 20 := Classical.byContradiction (fun h => c_12 (if_neg h))
      refine lv_iconst (v := 0) hx hb dX1_hours_15 (by decide) ?_
      refine lv_goto (tgt := 20) hx hb dX1_hours_16 (by decide) ?_
      refine Wi.callV (rest := []) (q0 := 0) (ci := 1) (wr := []) [0, 1, 2, 3, 4, 5, 6, 7, 8, 9, 10, 11, 12] [] ⟨hx, hb, hml, hown, hts⟩ (c_X1_goes l D cA a F th 0 1 (by decide)) (cwV 1 hts gX1_hours_X1_goes rfl rfl rfl (by decide +kernel) ⟨Nat.le_of_ble_eq_true rfl, Nat.le_of_ble_eq_true rfl⟩) hK hP hD hS hA rfl rfl (by decide) (by decide) (by decide) rfl rfl rfl rfl rfl hl.1 (Nat.le_of_ble_eq_true rfl) dX1_hours_20 ⟨Nat.zero_le _, Nat.zero_le _⟩ (fun r9 u9 H locs hu9 hP hD hS => ?_)
      subst hu9
      have hP : va_P D vwCl (wM a cA F 0) H := hP
      have hD : va_D A (wM a cA F 0) := hD
      refine lv_if_ne (tgt := 28) hx hb dX1_hours_23 (by decide) (fun c_23 => ?_) (fun c_23 => (absurd c_23 (by decide) : False).elim)
      refine lv_iconst (v := 0) hx hb dX1_hours_28 (by decide) ?_
      refine lv_istore_n (lv' := [(3, .int 0), (0, .ref (a 16)), (1, .int z0), (2, .int z1)]) hx hb dX1_hours_29 rfl hl (by decide) rfl (fun ls hl => ?_)
      refine lv_iconst (v := 0) hx hb dX1_hours_30 (by decide) ?_
      refine lv_istore (lv' := [(4, .int 0), (3, .int 0), (0, .ref (a 16)), (1, .int z0), (2, .int z1)]) hx hb dX1_hours_31 hl (by decide) rfl (fun ls hl => ?_)
      have K_33 : ∀ (n i : Nat) (x3 : Int32) (H : Heap) (locs : List Loc) (ls : Array Slot), i + n = N → x3 = ps (tWk F z0 z1) i → va_P D vwCl (wM a cA F 0) H → va_D A (wM a cA F 0) → va_S A s.heap H locs → lv_has ls 5 [(0, .ref (a 16)), (1, .int z0), (2, .int z1), (3, .int x3), (4, .int (nI i))] → W p l e rmX1_hours s m args below meth c H locs 0 0 Q (F0 m 33 ls []) := by
        intro n
        induction n with
        | zero =>
          intro i x3  H locs ls hin_33 ex3  hP hD hS hl
          have hiN : i = N := by omega
          refine lv_iload hx hb dX1_hours_33 (lv_at hl 4 rfl) ?_
          refine lv_aload_n hx hb dX1_hours_35 rfl (lv_at hl 0 rfl) ?_
          refine va_get (D := D) (ci := 1) (v := .int (F 7 0)) (C := RX1) (T := TX1) (N := 16) hx hb hts hi hown hK hP 0 rfl rfl 7 (by decide) (hts (.fieldLink RX1 60 "AssignmentHouseModel" "shifts" "I") (by decide +kernel)) (fun _ h9 => h9) rfl dX1_hours_36 ?_
          refine lv_icmp_ge (tgt := 87) hx hb dX1_hours_39 (by decide) (fun c_39 => ?_) (fun c_39 => (absurd (((br_ge hc (by omega) (by omega : i ≤ N)).mpr hiN)) c_39 : False).elim)
          refine lv_iload_n hx hb dX1_hours_87 rfl (lv_at hl 3 rfl) ?_
          have hk9 : kWW z0 z1 = 0 := by rw [kWW, if_pos h1, if_pos h2]
          exact hend 88 ls _ (F, 0) _ _ dX1_hours_88 hP hD hS ⟨hk9.symm, fun _ => ⟨by rw [ex3, hiN], rfl⟩, fun h => absurd hk9 h⟩
        | succ n ih_33 =>
          intro i x3  H locs ls hin_33 ex3  hP hD hS hl
          have hiN : i < N := by omega
          refine lv_iload hx hb dX1_hours_33 (lv_at hl 4 rfl) ?_
          refine lv_aload_n hx hb dX1_hours_35 rfl (lv_at hl 0 rfl) ?_
          refine va_get (D := D) (ci := 1) (v := .int (F 7 0)) (C := RX1) (T := TX1) (N := 16) hx hb hts hi hown hK hP 0 rfl rfl 7 (by decide) (hts (.fieldLink RX1 60 "AssignmentHouseModel" "shifts" "I") (by decide +kernel)) (fun _ h9 => h9) rfl dX1_hours_36 ?_
          refine lv_icmp_ge (tgt := 87) hx hb dX1_hours_39 (by decide) (fun c_39 => (absurd (((br_ge hc (by omega) (by omega : i ≤ N)).mp c_39)) (by omega) : False).elim) (fun c_39 => ?_)
          refine lv_iload_n hx hb dX1_hours_42 rfl (lv_at hl 3 rfl) ?_
          refine lv_aload_n hx hb dX1_hours_43 rfl (lv_at hl 0 rfl) ?_
          refine va_get (D := D) (ci := 1) (v := .ref (a 8)) (C := RX1) (T := TX1) (N := 16) hx hb hts hi hown hK hP 0 rfl rfl 8 (by decide) (hts (.fieldLink RX1 32 "AssignmentHouseModel" "workers" "[I") (by decide +kernel)) (fun _ h9 => h9) rfl dX1_hours_44 ?_
          refine lv_iload hx hb dX1_hours_47 (lv_at hl 4 rfl) ?_
          refine ri_ald (j := i) hx hb hK hP 6 rfl (rfl) (by omega) (by decide) dX1_hours_49 ?_
          refine lv_iload_n hx hb dX1_hours_50 rfl (lv_at hl 1 rfl) ?_
          refine lv_icmp_ne (tgt := 78) hx hb dX1_hours_51 (by decide) (fun c_51 => ?_) (fun c_51 => ?_)
          · skip
            refine lv_iconst (v := 0) hx hb dX1_hours_78 (by decide) ?_
            refine lv_iadd hx hb dX1_hours_79 ?_
            refine lv_istore_n (lv' := [(3, .int (x3 + 0)), (0, .ref (a 16)), (1, .int z0), (2, .int z1), (4, .int (nI i))]) hx hb dX1_hours_80 rfl hl (by decide) rfl (fun ls hl => ?_)
            refine lv_iinc (v := (nI (i + 1))) (lv' := [(4, .int (nI (i + 1))), (3, .int (x3 + 0)), (0, .ref (a 16)), (1, .int z0), (2, .int z1)]) hx hb dX1_hours_81 hl (k := 4) rfl (nI_1 i) (by decide) rfl (fun ls hl => ?_)
            refine lv_goto (tgt := 33) hx hb dX1_hours_84 (by decide) ?_
            exact ih_33 (i + 1) _  _ _ ls (by omega) (by rw [ps_s, ex3]; unfold tWk; rw [if_neg (fun h => c_51 h.1)])  hP hD hS (lv_sub hl [2, 3, 4, 1, 0] rfl)
          · skip
            refine lv_aload_n hx hb dX1_hours_54 rfl (lv_at hl 0 rfl) ?_
            refine va_get (D := D) (ci := 1) (v := .ref (a 10)) (C := RX1) (T := TX1) (N := 16) hx hb hts hi hown hK hP 0 rfl rfl 10 (by decide) (hts (.fieldLink RX1 38 "AssignmentHouseModel" "days" "[I") (by decide +kernel)) (fun _ h9 => h9) rfl dX1_hours_55 ?_
            refine lv_iload hx hb dX1_hours_58 (lv_at hl 4 rfl) ?_
            refine ri_ald (j := i) hx hb hK hP 8 rfl (rfl) (by omega) (by decide) dX1_hours_60 ?_
            refine lv_bipush (v := 7) hx hb dX1_hours_61 (by decide) ?_
            refine lv_idiv hx hb dX1_hours_63 (by decide) ?_
            refine lv_iload_n hx hb dX1_hours_64 rfl (lv_at hl 2 rfl) ?_
            refine lv_icmp_ne (tgt := 78) hx hb dX1_hours_65 (by decide) (fun c_65 => ?_) (fun c_65 => ?_)
            · skip
              refine lv_iconst (v := 0) hx hb dX1_hours_78 (by decide) ?_
              refine lv_iadd hx hb dX1_hours_79 ?_
              refine lv_istore_n (lv' := [(3, .int (x3 + 0)), (0, .ref (a 16)), (1, .int z0), (2, .int z1), (4, .int (nI i))]) hx hb dX1_hours_80 rfl hl (by decide) rfl (fun ls hl => ?_)
              refine lv_iinc (v := (nI (i + 1))) (lv' := [(4, .int (nI (i + 1))), (3, .int (x3 + 0)), (0, .ref (a 16)), (1, .int z0), (2, .int z1)]) hx hb dX1_hours_81 hl (k := 4) rfl (nI_1 i) (by decide) rfl (fun ls hl => ?_)
              refine lv_goto (tgt := 33) hx hb dX1_hours_84 (by decide) ?_
              exact ih_33 (i + 1) _  _ _ ls (by omega) (by rw [ps_s, ex3]; unfold tWk; rw [if_neg (fun h => c_65 h.2)])  hP hD hS (lv_sub hl [2, 3, 4, 1, 0] rfl)
            · skip
              refine lv_aload_n hx hb dX1_hours_68 rfl (lv_at hl 0 rfl) ?_
              refine va_get (D := D) (ci := 1) (v := .ref (a 11)) (C := RX1) (T := TX1) (N := 16) hx hb hts hi hown hK hP 0 rfl rfl 11 (by decide) (hts (.fieldLink RX1 41 "AssignmentHouseModel" "hours" "[I") (by decide +kernel)) (fun _ h9 => h9) rfl dX1_hours_69 ?_
              refine lv_iload hx hb dX1_hours_72 (lv_at hl 4 rfl) ?_
              refine ri_ald (j := i) hx hb hK hP 9 rfl (rfl) (by omega) (by decide) dX1_hours_74 ?_
              refine lv_goto (tgt := 79) hx hb dX1_hours_75 (by decide) ?_
              refine lv_iadd hx hb dX1_hours_79 ?_
              refine lv_istore_n (lv' := [(3, .int (x3 + (F 11 i))), (0, .ref (a 16)), (1, .int z0), (2, .int z1), (4, .int (nI i))]) hx hb dX1_hours_80 rfl hl (by decide) rfl (fun ls hl => ?_)
              refine lv_iinc (v := (nI (i + 1))) (lv' := [(4, .int (nI (i + 1))), (3, .int (x3 + (F 11 i))), (0, .ref (a 16)), (1, .int z0), (2, .int z1)]) hx hb dX1_hours_81 hl (k := 4) rfl (nI_1 i) (by decide) rfl (fun ls hl => ?_)
              refine lv_goto (tgt := 33) hx hb dX1_hours_84 (by decide) ?_
              exact ih_33 (i + 1) _  _ _ ls (by omega) (by rw [ps_s, ex3]; unfold tWk; rw [if_pos ⟨c_51, c_65⟩])  hP hD hS (lv_sub hl [2, 3, 4, 1, 0] rfl)
      exact K_33 N 0 _  _ _ ls (by omega) (rfl)  hP hD hS (lv_sub hl [2, 3, 4, 1, 0] rfl)

set_option maxHeartbeats 4000000 in
set_option maxRecDepth 100000 in
theorem c_X1_overtime (l : Launch) (D : va_G) (cA : ClassId) (a : Nat → Nat) (F : Nat → Nat → Int32) (th : Int32) (N : Nat) (hW : wf F N) (z0 : Int32) : Wi l D cA (S := (Nat → Nat → Int32) × Int32) (wM a cA F th) (fun u => wM a cA u.1 u.2) yX1_overtime wsX1_overtime rmX1_overtime [.ref (a 16), .int z0] (fun r u => u.2 = kSh F z0 ∧ (kSh F z0 = 0 → r = sOv F N z0.toNatClampNeg ∧ u.1 = F) ∧ (kSh F z0 ≠ 0 → u.1 = F)) := by
  refine Wi.of (cc := cX1_overtime) (maxL := 2) (by decide) rfl (Nat.le_of_ble_eq_true rfl) ?_
  intro p e s m args below meth c ls A Q hx hb hts hown hml hK hP hD hA hS hl hend
  have hown : s.vm.findClass RX1 = some m.cls := hown
  have hl : lv_has ls 2 [(0, .ref (a 16)), (1, .int z0)] := hl
  have hN : N ≤ 80 := hW.n
  have hc : F 7 0 = nI N := hW.c
  refine lv_aload_n hx hb dX1_overtime_0 rfl (lv_at hl 0 rfl) ?_
  refine lv_aload_n hx hb dX1_overtime_1 rfl (lv_at hl 0 rfl) ?_
  refine lv_iload_n hx hb dX1_overtime_2 rfl (lv_at hl 1 rfl) ?_
  refine Rd.callV (rest := [.ref (a 16)]) (q0 := 0) (ci := 1) ⟨hx, hb, hml, hown, hts⟩ (c_X1_isShift l D cA a F th N hW z0) (cwV 1 hts gX1_overtime_X1_isShift rfl rfl rfl (by decide +kernel) ⟨Nat.le_of_ble_eq_true rfl, Nat.le_of_ble_eq_true rfl⟩) hK hP rfl rfl rfl rfl rfl hl.1 (Nat.le_of_ble_eq_true rfl) dX1_overtime_3 ⟨Nat.zero_le _, Nat.zero_le _⟩ ?_
  refine lv_if_eq (tgt := 13) hx hb dX1_overtime_6 (by decide) (fun c_6 => ?_) (fun c_6 => ?_)
  · skip
    have h1 : ¬ cI z0 (F 7 0) := fun h => absurd c_6 (by rw [if_pos h]; decide)
    refine lv_iconst (v := 1) hx hb dX1_overtime_13 (by decide) ?_
    refine Wi.callV (rest := []) (q0 := 0) (ci := 1) (wr := []) [0, 1, 2, 3, 4, 5, 6, 7, 8, 9, 10, 11, 12] [] ⟨hx, hb, hml, hown, hts⟩ (c_X1_goes l D cA a F th 1 0 (by decide)) (cwV 1 hts gX1_overtime_X1_goes rfl rfl rfl (by decide +kernel) ⟨Nat.le_of_ble_eq_true rfl, Nat.le_of_ble_eq_true rfl⟩) hK hP hD hS hA rfl rfl (by decide) (by decide) (by decide) rfl rfl rfl rfl rfl hl.1 (Nat.le_of_ble_eq_true rfl) dX1_overtime_14 ⟨Nat.zero_le _, Nat.zero_le _⟩ (fun r9 u9 H locs hu9 hP hD hS => ?_)
    subst hu9
    have hP : va_P D vwCl (wM a cA F 1) H := hP
    have hD : va_D A (wM a cA F 1) := hD
    refine lv_if_eq (tgt := 28) hx hb dX1_overtime_17 (by decide) (fun c_17 => ?_) (fun c_17 => (absurd (by decide) c_17 : False).elim)
    refine lv_iconst (v := 0) hx hb dX1_overtime_28 (by decide) ?_
    have hk9 : kSh F z0 = 1 := by rw [kSh, if_neg h1]
    exact hend 29 ls _ (F, 1) _ _ dX1_overtime_29 hP hD hS ⟨hk9.symm, fun h => absurd (hk9.symm.trans h) (by decide), fun _ => rfl⟩
  · skip
    have h1 : cI z0 (F 7 0) := Classical.byContradiction (fun h => c_6 (if_neg h))
    obtain ⟨hjz0, ejz0⟩ := cI_of h1 (n := N) (hc) (by omega)
    refine lv_iconst (v := 0) hx hb dX1_overtime_9 (by decide) ?_
    refine lv_goto (tgt := 14) hx hb dX1_overtime_10 (by decide) ?_
    refine Wi.callV (rest := []) (q0 := 0) (ci := 1) (wr := []) [0, 1, 2, 3, 4, 5, 6, 7, 8, 9, 10, 11, 12] [] ⟨hx, hb, hml, hown, hts⟩ (c_X1_goes l D cA a F th 0 1 (by decide)) (cwV 1 hts gX1_overtime_X1_goes rfl rfl rfl (by decide +kernel) ⟨Nat.le_of_ble_eq_true rfl, Nat.le_of_ble_eq_true rfl⟩) hK hP hD hS hA rfl rfl (by decide) (by decide) (by decide) rfl rfl rfl rfl rfl hl.1 (Nat.le_of_ble_eq_true rfl) dX1_overtime_14 ⟨Nat.zero_le _, Nat.zero_le _⟩ (fun r9 u9 H locs hu9 hP hD hS => ?_)
    subst hu9
    have hP : va_P D vwCl (wM a cA F 0) H := hP
    have hD : va_D A (wM a cA F 0) := hD
    refine lv_if_eq (tgt := 28) hx hb dX1_overtime_17 (by decide) (fun c_17 => (absurd c_17 (by decide) : False).elim) (fun c_17 => ?_)
    refine lv_aload_n hx hb dX1_overtime_20 rfl (lv_at hl 0 rfl) ?_
    refine lv_iload_n hx hb dX1_overtime_21 rfl (lv_at hl 1 rfl) ?_
    refine Rd.callV (rest := []) (q0 := 0) (ci := 1) ⟨hx, hb, hml, hown, hts⟩ (c_X1_over l D cA a F 0 N hW z0 z0.toNatClampNeg ejz0 hjz0) (cwV 1 hts gX1_overtime_X1_over rfl rfl rfl (by decide +kernel) ⟨Nat.le_of_ble_eq_true rfl, Nat.le_of_ble_eq_true rfl⟩) hK hP rfl rfl rfl rfl rfl hl.1 (Nat.le_of_ble_eq_true rfl) dX1_overtime_22 ⟨Nat.zero_le _, Nat.zero_le _⟩ ?_
    refine lv_goto (tgt := 29) hx hb dX1_overtime_25 (by decide) ?_
    have hk9 : kSh F z0 = 0 := by rw [kSh, if_pos h1]
    exact hend 29 ls _ (F, 0) _ _ dX1_overtime_29 hP hD hS ⟨hk9.symm, fun _ => ⟨rfl, rfl⟩, fun h => absurd hk9 h⟩

set_option maxHeartbeats 4000000 in
set_option maxRecDepth 100000 in
theorem c_X1_payOf (l : Launch) (D : va_G) (cA : ClassId) (a : Nat → Nat) (F : Nat → Nat → Int32) (th : Int32) (N : Nat) (hW : wf F N) (z0 : Int32) : Wi l D cA (S := (Nat → Nat → Int32) × Int32) (wM a cA F th) (fun u => wM a cA u.1 u.2) yX1_payOf wsX1_payOf rmX1_payOf [.ref (a 16), .int z0] (fun r u => u.2 = kSh F z0 ∧ (kSh F z0 = 0 → r = sPy F N z0.toNatClampNeg ∧ u.1 = F) ∧ (kSh F z0 ≠ 0 → u.1 = F)) := by
  refine Wi.of (cc := cX1_payOf) (maxL := 2) (by decide) rfl (Nat.le_of_ble_eq_true rfl) ?_
  intro p e s m args below meth c ls A Q hx hb hts hown hml hK hP hD hA hS hl hend
  have hown : s.vm.findClass RX1 = some m.cls := hown
  have hl : lv_has ls 2 [(0, .ref (a 16)), (1, .int z0)] := hl
  have hN : N ≤ 80 := hW.n
  have hc : F 7 0 = nI N := hW.c
  refine lv_aload_n hx hb dX1_payOf_0 rfl (lv_at hl 0 rfl) ?_
  refine lv_aload_n hx hb dX1_payOf_1 rfl (lv_at hl 0 rfl) ?_
  refine lv_iload_n hx hb dX1_payOf_2 rfl (lv_at hl 1 rfl) ?_
  refine Rd.callV (rest := [.ref (a 16)]) (q0 := 0) (ci := 1) ⟨hx, hb, hml, hown, hts⟩ (c_X1_isShift l D cA a F th N hW z0) (cwV 1 hts gX1_payOf_X1_isShift rfl rfl rfl (by decide +kernel) ⟨Nat.le_of_ble_eq_true rfl, Nat.le_of_ble_eq_true rfl⟩) hK hP rfl rfl rfl rfl rfl hl.1 (Nat.le_of_ble_eq_true rfl) dX1_payOf_3 ⟨Nat.zero_le _, Nat.zero_le _⟩ ?_
  refine lv_if_eq (tgt := 13) hx hb dX1_payOf_6 (by decide) (fun c_6 => ?_) (fun c_6 => ?_)
  · skip
    have h1 : ¬ cI z0 (F 7 0) := fun h => absurd c_6 (by rw [if_pos h]; decide)
    refine lv_iconst (v := 1) hx hb dX1_payOf_13 (by decide) ?_
    refine Wi.callV (rest := []) (q0 := 0) (ci := 1) (wr := []) [0, 1, 2, 3, 4, 5, 6, 7, 8, 9, 10, 11, 12] [] ⟨hx, hb, hml, hown, hts⟩ (c_X1_goes l D cA a F th 1 0 (by decide)) (cwV 1 hts gX1_payOf_X1_goes rfl rfl rfl (by decide +kernel) ⟨Nat.le_of_ble_eq_true rfl, Nat.le_of_ble_eq_true rfl⟩) hK hP hD hS hA rfl rfl (by decide) (by decide) (by decide) rfl rfl rfl rfl rfl hl.1 (Nat.le_of_ble_eq_true rfl) dX1_payOf_14 ⟨Nat.zero_le _, Nat.zero_le _⟩ (fun r9 u9 H locs hu9 hP hD hS => ?_)
    subst hu9
    have hP : va_P D vwCl (wM a cA F 1) H := hP
    have hD : va_D A (wM a cA F 1) := hD
    refine lv_if_eq (tgt := 28) hx hb dX1_payOf_17 (by decide) (fun c_17 => ?_) (fun c_17 => (absurd (by decide) c_17 : False).elim)
    refine lv_iconst (v := 0) hx hb dX1_payOf_28 (by decide) ?_
    have hk9 : kSh F z0 = 1 := by rw [kSh, if_neg h1]
    exact hend 29 ls _ (F, 1) _ _ dX1_payOf_29 hP hD hS ⟨hk9.symm, fun h => absurd (hk9.symm.trans h) (by decide), fun _ => rfl⟩
  · skip
    have h1 : cI z0 (F 7 0) := Classical.byContradiction (fun h => c_6 (if_neg h))
    obtain ⟨hjz0, ejz0⟩ := cI_of h1 (n := N) (hc) (by omega)
    refine lv_iconst (v := 0) hx hb dX1_payOf_9 (by decide) ?_
    refine lv_goto (tgt := 14) hx hb dX1_payOf_10 (by decide) ?_
    refine Wi.callV (rest := []) (q0 := 0) (ci := 1) (wr := []) [0, 1, 2, 3, 4, 5, 6, 7, 8, 9, 10, 11, 12] [] ⟨hx, hb, hml, hown, hts⟩ (c_X1_goes l D cA a F th 0 1 (by decide)) (cwV 1 hts gX1_payOf_X1_goes rfl rfl rfl (by decide +kernel) ⟨Nat.le_of_ble_eq_true rfl, Nat.le_of_ble_eq_true rfl⟩) hK hP hD hS hA rfl rfl (by decide) (by decide) (by decide) rfl rfl rfl rfl rfl hl.1 (Nat.le_of_ble_eq_true rfl) dX1_payOf_14 ⟨Nat.zero_le _, Nat.zero_le _⟩ (fun r9 u9 H locs hu9 hP hD hS => ?_)
    subst hu9
    have hP : va_P D vwCl (wM a cA F 0) H := hP
    have hD : va_D A (wM a cA F 0) := hD
    refine lv_if_eq (tgt := 28) hx hb dX1_payOf_17 (by decide) (fun c_17 => (absurd c_17 (by decide) : False).elim) (fun c_17 => ?_)
    refine lv_aload_n hx hb dX1_payOf_20 rfl (lv_at hl 0 rfl) ?_
    refine lv_iload_n hx hb dX1_payOf_21 rfl (lv_at hl 1 rfl) ?_
    refine Rd.callV (rest := []) (q0 := 0) (ci := 1) ⟨hx, hb, hml, hown, hts⟩ (c_X1_payFor l D cA a F 0 N hW z0 z0.toNatClampNeg ejz0 hjz0) (cwV 1 hts gX1_payOf_X1_payFor rfl rfl rfl (by decide +kernel) ⟨Nat.le_of_ble_eq_true rfl, Nat.le_of_ble_eq_true rfl⟩) hK hP rfl rfl rfl rfl rfl hl.1 (Nat.le_of_ble_eq_true rfl) dX1_payOf_22 ⟨Nat.zero_le _, Nat.zero_le _⟩ ?_
    refine lv_goto (tgt := 29) hx hb dX1_payOf_25 (by decide) ?_
    have hk9 : kSh F z0 = 0 := by rw [kSh, if_pos h1]
    exact hend 29 ls _ (F, 0) _ _ dX1_payOf_29 hP hD hS ⟨hk9.symm, fun _ => ⟨rfl, rfl⟩, fun h => absurd hk9 h⟩

set_option maxHeartbeats 4000000 in
set_option maxRecDepth 100000 in
theorem c_X1_chargeOf (l : Launch) (D : va_G) (cA : ClassId) (a : Nat → Nat) (F : Nat → Nat → Int32) (th : Int32) (N : Nat) (hW : wf F N) (z0 : Int32) : Wi l D cA (S := (Nat → Nat → Int32) × Int32) (wM a cA F th) (fun u => wM a cA u.1 u.2) yX1_chargeOf wsX1_chargeOf rmX1_chargeOf [.ref (a 16), .int z0] (fun r u => u.2 = kSh F z0 ∧ (kSh F z0 = 0 → r = sCh F N z0.toNatClampNeg ∧ u.1 = F) ∧ (kSh F z0 ≠ 0 → u.1 = F)) := by
  refine Wi.of (cc := cX1_chargeOf) (maxL := 2) (by decide) rfl (Nat.le_of_ble_eq_true rfl) ?_
  intro p e s m args below meth c ls A Q hx hb hts hown hml hK hP hD hA hS hl hend
  have hown : s.vm.findClass RX1 = some m.cls := hown
  have hl : lv_has ls 2 [(0, .ref (a 16)), (1, .int z0)] := hl
  have hN : N ≤ 80 := hW.n
  have hc : F 7 0 = nI N := hW.c
  refine lv_aload_n hx hb dX1_chargeOf_0 rfl (lv_at hl 0 rfl) ?_
  refine lv_aload_n hx hb dX1_chargeOf_1 rfl (lv_at hl 0 rfl) ?_
  refine lv_iload_n hx hb dX1_chargeOf_2 rfl (lv_at hl 1 rfl) ?_
  refine Rd.callV (rest := [.ref (a 16)]) (q0 := 0) (ci := 1) ⟨hx, hb, hml, hown, hts⟩ (c_X1_isShift l D cA a F th N hW z0) (cwV 1 hts gX1_chargeOf_X1_isShift rfl rfl rfl (by decide +kernel) ⟨Nat.le_of_ble_eq_true rfl, Nat.le_of_ble_eq_true rfl⟩) hK hP rfl rfl rfl rfl rfl hl.1 (Nat.le_of_ble_eq_true rfl) dX1_chargeOf_3 ⟨Nat.zero_le _, Nat.zero_le _⟩ ?_
  refine lv_if_eq (tgt := 13) hx hb dX1_chargeOf_6 (by decide) (fun c_6 => ?_) (fun c_6 => ?_)
  · skip
    have h1 : ¬ cI z0 (F 7 0) := fun h => absurd c_6 (by rw [if_pos h]; decide)
    refine lv_iconst (v := 1) hx hb dX1_chargeOf_13 (by decide) ?_
    refine Wi.callV (rest := []) (q0 := 0) (ci := 1) (wr := []) [0, 1, 2, 3, 4, 5, 6, 7, 8, 9, 10, 11, 12] [] ⟨hx, hb, hml, hown, hts⟩ (c_X1_goes l D cA a F th 1 0 (by decide)) (cwV 1 hts gX1_chargeOf_X1_goes rfl rfl rfl (by decide +kernel) ⟨Nat.le_of_ble_eq_true rfl, Nat.le_of_ble_eq_true rfl⟩) hK hP hD hS hA rfl rfl (by decide) (by decide) (by decide) rfl rfl rfl rfl rfl hl.1 (Nat.le_of_ble_eq_true rfl) dX1_chargeOf_14 ⟨Nat.zero_le _, Nat.zero_le _⟩ (fun r9 u9 H locs hu9 hP hD hS => ?_)
    subst hu9
    have hP : va_P D vwCl (wM a cA F 1) H := hP
    have hD : va_D A (wM a cA F 1) := hD
    refine lv_if_eq (tgt := 28) hx hb dX1_chargeOf_17 (by decide) (fun c_17 => ?_) (fun c_17 => (absurd (by decide) c_17 : False).elim)
    refine lv_iconst (v := 0) hx hb dX1_chargeOf_28 (by decide) ?_
    have hk9 : kSh F z0 = 1 := by rw [kSh, if_neg h1]
    exact hend 29 ls _ (F, 1) _ _ dX1_chargeOf_29 hP hD hS ⟨hk9.symm, fun h => absurd (hk9.symm.trans h) (by decide), fun _ => rfl⟩
  · skip
    have h1 : cI z0 (F 7 0) := Classical.byContradiction (fun h => c_6 (if_neg h))
    obtain ⟨hjz0, ejz0⟩ := cI_of h1 (n := N) (hc) (by omega)
    refine lv_iconst (v := 0) hx hb dX1_chargeOf_9 (by decide) ?_
    refine lv_goto (tgt := 14) hx hb dX1_chargeOf_10 (by decide) ?_
    refine Wi.callV (rest := []) (q0 := 0) (ci := 1) (wr := []) [0, 1, 2, 3, 4, 5, 6, 7, 8, 9, 10, 11, 12] [] ⟨hx, hb, hml, hown, hts⟩ (c_X1_goes l D cA a F th 0 1 (by decide)) (cwV 1 hts gX1_chargeOf_X1_goes rfl rfl rfl (by decide +kernel) ⟨Nat.le_of_ble_eq_true rfl, Nat.le_of_ble_eq_true rfl⟩) hK hP hD hS hA rfl rfl (by decide) (by decide) (by decide) rfl rfl rfl rfl rfl hl.1 (Nat.le_of_ble_eq_true rfl) dX1_chargeOf_14 ⟨Nat.zero_le _, Nat.zero_le _⟩ (fun r9 u9 H locs hu9 hP hD hS => ?_)
    subst hu9
    have hP : va_P D vwCl (wM a cA F 0) H := hP
    have hD : va_D A (wM a cA F 0) := hD
    refine lv_if_eq (tgt := 28) hx hb dX1_chargeOf_17 (by decide) (fun c_17 => (absurd c_17 (by decide) : False).elim) (fun c_17 => ?_)
    refine lv_aload_n hx hb dX1_chargeOf_20 rfl (lv_at hl 0 rfl) ?_
    refine lv_iload_n hx hb dX1_chargeOf_21 rfl (lv_at hl 1 rfl) ?_
    refine Rd.callV (rest := []) (q0 := 0) (ci := 1) ⟨hx, hb, hml, hown, hts⟩ (c_X1_chargeFor l D cA a F 0 N hW z0 z0.toNatClampNeg ejz0 hjz0) (cwV 1 hts gX1_chargeOf_X1_chargeFor rfl rfl rfl (by decide +kernel) ⟨Nat.le_of_ble_eq_true rfl, Nat.le_of_ble_eq_true rfl⟩) hK hP rfl rfl rfl rfl rfl hl.1 (Nat.le_of_ble_eq_true rfl) dX1_chargeOf_22 ⟨Nat.zero_le _, Nat.zero_le _⟩ ?_
    refine lv_goto (tgt := 29) hx hb dX1_chargeOf_25 (by decide) ?_
    have hk9 : kSh F z0 = 0 := by rw [kSh, if_pos h1]
    exact hend 29 ls _ (F, 0) _ _ dX1_chargeOf_29 hP hD hS ⟨hk9.symm, fun _ => ⟨rfl, rfl⟩, fun h => absurd hk9 h⟩

set_option maxHeartbeats 4000000 in
set_option maxRecDepth 100000 in
theorem c_X1_hasEqual (l : Launch) (D : va_G) (cA : ClassId) (a : Nat → Nat) (F : Nat → Nat → Int32) (th : Int32) (N : Nat) (hW : wf F N) (z0 z1 z2 : Int32) : Wi l D cA (S := (Nat → Nat → Int32) × Int32) (wM a cA F th) (fun u => wM a cA u.1 u.2) yX1_hasEqual wsX1_hasEqual rmX1_hasEqual [.ref (a 16), .int z0, .int z1, .int z2] (fun r u => u.2 = kWSW z0 z1 z2 ∧ (kWSW z0 z1 z2 = 0 → r = (if F 5 0 ≤ sEqV F N z0 z1 z2.toNatClampNeg then 1 else 0) ∧ u.1 = F) ∧ (kWSW z0 z1 z2 ≠ 0 → u.1 = F)) := by
  refine Wi.ofz (cc := cX1_hasEqual) (maxL := 4) (by decide) rfl (Nat.le_of_ble_eq_true rfl) ?_
  intro p e s m args below meth c ls A Q hx hb hts hown hml hK hP hD hA hS hl hend
  have hown : s.vm.findClass RX1 = some m.cls := hown
  have hl : lv_has ls 4 [(0, .ref (a 16)), (1, .int z0), (2, .int z1), (3, .int z2)] := hl
  have hN : N ≤ 80 := hW.n
  have hc : F 7 0 = nI N := hW.c
  refine lv_aload_n hx hb dX1_hasEqual_0 rfl (lv_at hl 0 rfl) ?_
  refine lv_iload_n hx hb dX1_hasEqual_1 rfl (lv_at hl 1 rfl) ?_
  refine Rd.callS (rest := [.ref (a 16)]) ⟨hx, hb, hml, hown, hts⟩ (c_X1_isWorker l D cA z0) (va_cwS 1 hts gX1_hasEqual_X1_isWorker rfl rfl rfl (by decide +kernel) ⟨Nat.le_of_ble_eq_true rfl, Nat.le_of_ble_eq_true rfl⟩) hK noP rfl rfl hl.1 (Nat.le_of_ble_eq_true rfl) dX1_hasEqual_2 ⟨Nat.zero_le _, Nat.zero_le _⟩ ?_
  refine lv_if_eq (tgt := 26) hx hb dX1_hasEqual_5 (by decide) (fun c_5 => ?_) (fun c_5 => ?_)
  · skip
    have h1 : ¬ cI z0 6 := fun h => absurd c_5 (by rw [if_pos h]; decide)
    refine lv_iconst (v := 1) hx hb dX1_hasEqual_26 (by decide) ?_
    refine Wi.callV (rest := []) (q0 := 0) (ci := 1) (wr := []) [0, 1, 2, 3, 4, 5, 6, 7, 8, 9, 10, 11, 12] [] ⟨hx, hb, hml, hown, hts⟩ (c_X1_goes l D cA a F th 1 0 (by decide)) (cwV 1 hts gX1_hasEqual_X1_goes rfl rfl rfl (by decide +kernel) ⟨Nat.le_of_ble_eq_true rfl, Nat.le_of_ble_eq_true rfl⟩) hK hP hD hS hA rfl rfl (by decide) (by decide) (by decide) rfl rfl rfl rfl rfl hl.1 (Nat.le_of_ble_eq_true rfl) dX1_hasEqual_27 ⟨Nat.zero_le _, Nat.zero_le _⟩ (fun r9 u9 H locs hu9 hP hD hS => ?_)
    subst hu9
    have hP : va_P D vwCl (wM a cA F 1) H := hP
    have hD : va_D A (wM a cA F 1) := hD
    refine lv_if_eq (tgt := 47) hx hb dX1_hasEqual_30 (by decide) (fun c_30 => ?_) (fun c_30 => (absurd (by decide) c_30 : False).elim)
    refine lv_iconst (v := 0) hx hb dX1_hasEqual_47 (by decide) ?_
    have hk9 : kWSW z0 z1 z2 = 1 := by rw [kWSW, if_neg h1]
    exact hend 48 ls _ (F, 1) _ _ dX1_hasEqual_48 hP hD hS ⟨hk9.symm, fun h => absurd (hk9.symm.trans h) (by decide), fun _ => rfl⟩ (Or.inl rfl)
  · skip
    have h1 : cI z0 6 := Classical.byContradiction (fun h => c_5 (if_neg h))
    refine lv_iload_n hx hb dX1_hasEqual_8 rfl (lv_at hl 2 rfl) ?_
    refine Rd.callS (rest := [.ref (a 16)]) ⟨hx, hb, hml, hown, hts⟩ (c_X1_isSite l D cA z1) (va_cwS 1 hts gX1_hasEqual_X1_isSite rfl rfl rfl (by decide +kernel) ⟨Nat.le_of_ble_eq_true rfl, Nat.le_of_ble_eq_true rfl⟩) hK noP rfl rfl hl.1 (Nat.le_of_ble_eq_true rfl) dX1_hasEqual_9 ⟨Nat.zero_le _, Nat.zero_le _⟩ ?_
    refine lv_if_eq (tgt := 26) hx hb dX1_hasEqual_12 (by decide) (fun c_12 => ?_) (fun c_12 => ?_)
    · skip
      have h2 : ¬ cI z1 4 := fun h => absurd c_12 (by rw [if_pos h]; decide)
      refine lv_iconst (v := 1) hx hb dX1_hasEqual_26 (by decide) ?_
      refine Wi.callV (rest := []) (q0 := 0) (ci := 1) (wr := []) [0, 1, 2, 3, 4, 5, 6, 7, 8, 9, 10, 11, 12] [] ⟨hx, hb, hml, hown, hts⟩ (c_X1_goes l D cA a F th 1 0 (by decide)) (cwV 1 hts gX1_hasEqual_X1_goes rfl rfl rfl (by decide +kernel) ⟨Nat.le_of_ble_eq_true rfl, Nat.le_of_ble_eq_true rfl⟩) hK hP hD hS hA rfl rfl (by decide) (by decide) (by decide) rfl rfl rfl rfl rfl hl.1 (Nat.le_of_ble_eq_true rfl) dX1_hasEqual_27 ⟨Nat.zero_le _, Nat.zero_le _⟩ (fun r9 u9 H locs hu9 hP hD hS => ?_)
      subst hu9
      have hP : va_P D vwCl (wM a cA F 1) H := hP
      have hD : va_D A (wM a cA F 1) := hD
      refine lv_if_eq (tgt := 47) hx hb dX1_hasEqual_30 (by decide) (fun c_30 => ?_) (fun c_30 => (absurd (by decide) c_30 : False).elim)
      refine lv_iconst (v := 0) hx hb dX1_hasEqual_47 (by decide) ?_
      have hk9 : kWSW z0 z1 z2 = 1 := by rw [kWSW, if_pos h1, if_neg h2]
      exact hend 48 ls _ (F, 1) _ _ dX1_hasEqual_48 hP hD hS ⟨hk9.symm, fun h => absurd (hk9.symm.trans h) (by decide), fun _ => rfl⟩ (Or.inl rfl)
    · skip
      have h2 : cI z1 4 := Classical.byContradiction (fun h => c_12 (if_neg h))
      refine lv_iload_n hx hb dX1_hasEqual_15 rfl (lv_at hl 3 rfl) ?_
      refine Rd.callS (rest := [.ref (a 16)]) ⟨hx, hb, hml, hown, hts⟩ (c_X1_isWeek l D cA z2) (va_cwS 1 hts gX1_hasEqual_X1_isWeek rfl rfl rfl (by decide +kernel) ⟨Nat.le_of_ble_eq_true rfl, Nat.le_of_ble_eq_true rfl⟩) hK noP rfl rfl hl.1 (Nat.le_of_ble_eq_true rfl) dX1_hasEqual_16 ⟨Nat.zero_le _, Nat.zero_le _⟩ ?_
      refine lv_if_eq (tgt := 26) hx hb dX1_hasEqual_19 (by decide) (fun c_19 => ?_) (fun c_19 => ?_)
      · skip
        have h3 : ¬ cI z2 20 := fun h => absurd c_19 (by rw [if_pos h]; decide)
        refine lv_iconst (v := 1) hx hb dX1_hasEqual_26 (by decide) ?_
        refine Wi.callV (rest := []) (q0 := 0) (ci := 1) (wr := []) [0, 1, 2, 3, 4, 5, 6, 7, 8, 9, 10, 11, 12] [] ⟨hx, hb, hml, hown, hts⟩ (c_X1_goes l D cA a F th 1 0 (by decide)) (cwV 1 hts gX1_hasEqual_X1_goes rfl rfl rfl (by decide +kernel) ⟨Nat.le_of_ble_eq_true rfl, Nat.le_of_ble_eq_true rfl⟩) hK hP hD hS hA rfl rfl (by decide) (by decide) (by decide) rfl rfl rfl rfl rfl hl.1 (Nat.le_of_ble_eq_true rfl) dX1_hasEqual_27 ⟨Nat.zero_le _, Nat.zero_le _⟩ (fun r9 u9 H locs hu9 hP hD hS => ?_)
        subst hu9
        have hP : va_P D vwCl (wM a cA F 1) H := hP
        have hD : va_D A (wM a cA F 1) := hD
        refine lv_if_eq (tgt := 47) hx hb dX1_hasEqual_30 (by decide) (fun c_30 => ?_) (fun c_30 => (absurd (by decide) c_30 : False).elim)
        refine lv_iconst (v := 0) hx hb dX1_hasEqual_47 (by decide) ?_
        have hk9 : kWSW z0 z1 z2 = 1 := by rw [kWSW, if_pos h1, if_pos h2, if_neg h3]
        exact hend 48 ls _ (F, 1) _ _ dX1_hasEqual_48 hP hD hS ⟨hk9.symm, fun h => absurd (hk9.symm.trans h) (by decide), fun _ => rfl⟩ (Or.inl rfl)
      · skip
        have h3 : cI z2 20 := Classical.byContradiction (fun h => c_19 (if_neg h))
        obtain ⟨hjz2, ejz2⟩ := cI_of h3 (n := 20) (rfl) (by omega)
        refine lv_iconst (v := 0) hx hb dX1_hasEqual_22 (by decide) ?_
        refine lv_goto (tgt := 27) hx hb dX1_hasEqual_23 (by decide) ?_
        refine Wi.callV (rest := []) (q0 := 0) (ci := 1) (wr := []) [0, 1, 2, 3, 4, 5, 6, 7, 8, 9, 10, 11, 12] [] ⟨hx, hb, hml, hown, hts⟩ (c_X1_goes l D cA a F th 0 1 (by decide)) (cwV 1 hts gX1_hasEqual_X1_goes rfl rfl rfl (by decide +kernel) ⟨Nat.le_of_ble_eq_true rfl, Nat.le_of_ble_eq_true rfl⟩) hK hP hD hS hA rfl rfl (by decide) (by decide) (by decide) rfl rfl rfl rfl rfl hl.1 (Nat.le_of_ble_eq_true rfl) dX1_hasEqual_27 ⟨Nat.zero_le _, Nat.zero_le _⟩ (fun r9 u9 H locs hu9 hP hD hS => ?_)
        subst hu9
        have hP : va_P D vwCl (wM a cA F 0) H := hP
        have hD : va_D A (wM a cA F 0) := hD
        refine lv_if_eq (tgt := 47) hx hb dX1_hasEqual_30 (by decide) (fun c_30 => (absurd c_30 (by decide) : False).elim) (fun c_30 => ?_)
        refine lv_aload_n hx hb dX1_hasEqual_33 rfl (lv_at hl 0 rfl) ?_
        refine lv_iload_n hx hb dX1_hasEqual_34 rfl (lv_at hl 1 rfl) ?_
        refine lv_iload_n hx hb dX1_hasEqual_35 rfl (lv_at hl 2 rfl) ?_
        refine lv_iload_n hx hb dX1_hasEqual_36 rfl (lv_at hl 3 rfl) ?_
        refine Rd.callV (rest := []) (q0 := 0) (ci := 1) ⟨hx, hb, hml, hown, hts⟩ (c_X1_isEqual l D cA a F 0 N hW z0 z1 z2 z2.toNatClampNeg ejz2 (by omega)) (cwV 3 hts gX1_hasEqual_X1_isEqual rfl rfl rfl (by decide +kernel) ⟨Nat.le_of_ble_eq_true rfl, Nat.le_of_ble_eq_true rfl⟩) hK hP rfl rfl rfl rfl rfl hl.1 (Nat.le_of_ble_eq_true rfl) dX1_hasEqual_37 ⟨Nat.zero_le _, Nat.zero_le _⟩ ?_
        refine lv_if_eq (tgt := 47) hx hb dX1_hasEqual_40 (by decide) (fun c_40 => ?_) (fun c_40 => ?_)
        · skip
          have hq : ¬ F 5 0 ≤ sEqV F N z0 z1 z2.toNatClampNeg := fun h => absurd c_40 (by rw [if_pos h]; decide)
          refine lv_iconst (v := 0) hx hb dX1_hasEqual_47 (by decide) ?_
          have hk9 : kWSW z0 z1 z2 = 0 := by rw [kWSW, if_pos h1, if_pos h2, if_pos h3]
          exact hend 48 ls _ (F, 0) _ _ dX1_hasEqual_48 hP hD hS ⟨hk9.symm, fun _ => ⟨by rw [if_neg hq], rfl⟩, fun h => absurd hk9 h⟩ (Or.inl rfl)
        · skip
          have hq : F 5 0 ≤ sEqV F N z0 z1 z2.toNatClampNeg := Classical.byContradiction (fun h => c_40 (if_neg h))
          refine lv_iconst (v := 1) hx hb dX1_hasEqual_43 (by decide) ?_
          refine lv_goto (tgt := 48) hx hb dX1_hasEqual_44 (by decide) ?_
          have hk9 : kWSW z0 z1 z2 = 0 := by rw [kWSW, if_pos h1, if_pos h2, if_pos h3]
          exact hend 48 ls _ (F, 0) _ _ dX1_hasEqual_48 hP hD hS ⟨hk9.symm, fun _ => ⟨by rw [if_pos hq], rfl⟩, fun h => absurd hk9 h⟩ (Or.inr rfl)

set_option maxHeartbeats 4000000 in
set_option maxRecDepth 100000 in
theorem c_X1_pay (l : Launch) (D : va_G) (cA : ClassId) (a : Nat → Nat) (F : Nat → Nat → Int32) (th : Int32) (N : Nat) (hW : wf F N) (z0 z1 : Int32) : Wi l D cA (S := (Nat → Nat → Int32) × Int32) (wM a cA F th) (fun u => wM a cA u.1 u.2) yX1_pay wsX1_pay rmX1_pay [.ref (a 16), .int z0, .int z1] (fun r u => u.2 = kWW z0 z1 ∧ (kWW z0 z1 = 0 → r = ps (tPw F N z0 z1) N ∧ u.1 = F) ∧ (kWW z0 z1 ≠ 0 → u.1 = F)) := by
  refine Wi.of (cc := cX1_pay) (maxL := 3) (by decide) rfl (Nat.le_of_ble_eq_true rfl) ?_
  intro p e s m args below meth c ls A Q hx hb hts hown hml hK hP hD hA hS hl hend
  have hown : s.vm.findClass RX1 = some m.cls := hown
  have hl : lv_has ls 3 [(0, .ref (a 16)), (1, .int z0), (2, .int z1)] := hl
  have hN : N ≤ 80 := hW.n
  have hc : F 7 0 = nI N := hW.c
  refine lv_aload_n hx hb dX1_pay_0 rfl (lv_at hl 0 rfl) ?_
  refine lv_iload_n hx hb dX1_pay_1 rfl (lv_at hl 1 rfl) ?_
  refine Rd.callS (rest := [.ref (a 16)]) ⟨hx, hb, hml, hown, hts⟩ (c_X1_isWorker l D cA z0) (va_cwS 1 hts gX1_pay_X1_isWorker rfl rfl rfl (by decide +kernel) ⟨Nat.le_of_ble_eq_true rfl, Nat.le_of_ble_eq_true rfl⟩) hK noP rfl rfl hl.1 (Nat.le_of_ble_eq_true rfl) dX1_pay_2 ⟨Nat.zero_le _, Nat.zero_le _⟩ ?_
  refine lv_if_eq (tgt := 19) hx hb dX1_pay_5 (by decide) (fun c_5 => ?_) (fun c_5 => ?_)
  · skip
    have h1 : ¬ cI z0 6 := fun h => absurd c_5 (by rw [if_pos h]; decide)
    refine lv_iconst (v := 1) hx hb dX1_pay_19 (by decide) ?_
    refine Wi.callV (rest := []) (q0 := 0) (ci := 1) (wr := []) [0, 1, 2, 3, 4, 5, 6, 7, 8, 9, 10, 11, 12] [] ⟨hx, hb, hml, hown, hts⟩ (c_X1_goes l D cA a F th 1 0 (by decide)) (cwV 1 hts gX1_pay_X1_goes rfl rfl rfl (by decide +kernel) ⟨Nat.le_of_ble_eq_true rfl, Nat.le_of_ble_eq_true rfl⟩) hK hP hD hS hA rfl rfl (by decide) (by decide) (by decide) rfl rfl rfl rfl rfl hl.1 (Nat.le_of_ble_eq_true rfl) dX1_pay_20 ⟨Nat.zero_le _, Nat.zero_le _⟩ (fun r9 u9 H locs hu9 hP hD hS => ?_)
    subst hu9
    have hP : va_P D vwCl (wM a cA F 1) H := hP
    have hD : va_D A (wM a cA F 1) := hD
    refine lv_if_eq (tgt := 35) hx hb dX1_pay_23 (by decide) (fun c_23 => ?_) (fun c_23 => (absurd (by decide) c_23 : False).elim)
    refine lv_iconst (v := 0) hx hb dX1_pay_35 (by decide) ?_
    have hk9 : kWW z0 z1 = 1 := by rw [kWW, if_neg h1]
    exact hend 36 ls _ (F, 1) _ _ dX1_pay_36 hP hD hS ⟨hk9.symm, fun h => absurd (hk9.symm.trans h) (by decide), fun _ => rfl⟩
  · skip
    have h1 : cI z0 6 := Classical.byContradiction (fun h => c_5 (if_neg h))
    obtain ⟨hjz0, ejz0⟩ := cI_of h1 (n := 6) (rfl) (by omega)
    refine lv_iload_n hx hb dX1_pay_8 rfl (lv_at hl 2 rfl) ?_
    refine Rd.callS (rest := [.ref (a 16)]) ⟨hx, hb, hml, hown, hts⟩ (c_X1_isWeek l D cA z1) (va_cwS 1 hts gX1_pay_X1_isWeek rfl rfl rfl (by decide +kernel) ⟨Nat.le_of_ble_eq_true rfl, Nat.le_of_ble_eq_true rfl⟩) hK noP rfl rfl hl.1 (Nat.le_of_ble_eq_true rfl) dX1_pay_9 ⟨Nat.zero_le _, Nat.zero_le _⟩ ?_
    refine lv_if_eq (tgt := 19) hx hb dX1_pay_12 (by decide) (fun c_12 => ?_) (fun c_12 => ?_)
    · skip
      have h2 : ¬ cI z1 20 := fun h => absurd c_12 (by rw [if_pos h]; decide)
      refine lv_iconst (v := 1) hx hb dX1_pay_19 (by decide) ?_
      refine Wi.callV (rest := []) (q0 := 0) (ci := 1) (wr := []) [0, 1, 2, 3, 4, 5, 6, 7, 8, 9, 10, 11, 12] [] ⟨hx, hb, hml, hown, hts⟩ (c_X1_goes l D cA a F th 1 0 (by decide)) (cwV 1 hts gX1_pay_X1_goes rfl rfl rfl (by decide +kernel) ⟨Nat.le_of_ble_eq_true rfl, Nat.le_of_ble_eq_true rfl⟩) hK hP hD hS hA rfl rfl (by decide) (by decide) (by decide) rfl rfl rfl rfl rfl hl.1 (Nat.le_of_ble_eq_true rfl) dX1_pay_20 ⟨Nat.zero_le _, Nat.zero_le _⟩ (fun r9 u9 H locs hu9 hP hD hS => ?_)
      subst hu9
      have hP : va_P D vwCl (wM a cA F 1) H := hP
      have hD : va_D A (wM a cA F 1) := hD
      refine lv_if_eq (tgt := 35) hx hb dX1_pay_23 (by decide) (fun c_23 => ?_) (fun c_23 => (absurd (by decide) c_23 : False).elim)
      refine lv_iconst (v := 0) hx hb dX1_pay_35 (by decide) ?_
      have hk9 : kWW z0 z1 = 1 := by rw [kWW, if_pos h1, if_neg h2]
      exact hend 36 ls _ (F, 1) _ _ dX1_pay_36 hP hD hS ⟨hk9.symm, fun h => absurd (hk9.symm.trans h) (by decide), fun _ => rfl⟩
    · skip
      have h2 : cI z1 20 := Classical.byContradiction (fun h => c_12 (if_neg h))
      obtain ⟨hjz1, ejz1⟩ := cI_of h2 (n := 20) (rfl) (by omega)
      refine lv_iconst (v := 0) hx hb dX1_pay_15 (by decide) ?_
      refine lv_goto (tgt := 20) hx hb dX1_pay_16 (by decide) ?_
      refine Wi.callV (rest := []) (q0 := 0) (ci := 1) (wr := []) [0, 1, 2, 3, 4, 5, 6, 7, 8, 9, 10, 11, 12] [] ⟨hx, hb, hml, hown, hts⟩ (c_X1_goes l D cA a F th 0 1 (by decide)) (cwV 1 hts gX1_pay_X1_goes rfl rfl rfl (by decide +kernel) ⟨Nat.le_of_ble_eq_true rfl, Nat.le_of_ble_eq_true rfl⟩) hK hP hD hS hA rfl rfl (by decide) (by decide) (by decide) rfl rfl rfl rfl rfl hl.1 (Nat.le_of_ble_eq_true rfl) dX1_pay_20 ⟨Nat.zero_le _, Nat.zero_le _⟩ (fun r9 u9 H locs hu9 hP hD hS => ?_)
      subst hu9
      have hP : va_P D vwCl (wM a cA F 0) H := hP
      have hD : va_D A (wM a cA F 0) := hD
      refine lv_if_eq (tgt := 35) hx hb dX1_pay_23 (by decide) (fun c_23 => (absurd c_23 (by decide) : False).elim) (fun c_23 => ?_)
      refine lv_aload_n hx hb dX1_pay_26 rfl (lv_at hl 0 rfl) ?_
      refine lv_iload_n hx hb dX1_pay_27 rfl (lv_at hl 1 rfl) ?_
      refine lv_iload_n hx hb dX1_pay_28 rfl (lv_at hl 2 rfl) ?_
      refine Rd.callV (rest := []) (q0 := 0) (ci := 1) ⟨hx, hb, hml, hown, hts⟩ (c_X1_payIn l D cA a F 0 N hW z0 z1) (cwV 2 hts gX1_pay_X1_payIn rfl rfl rfl (by decide +kernel) ⟨Nat.le_of_ble_eq_true rfl, Nat.le_of_ble_eq_true rfl⟩) hK hP rfl rfl rfl rfl rfl hl.1 (Nat.le_of_ble_eq_true rfl) dX1_pay_29 ⟨Nat.zero_le _, Nat.zero_le _⟩ ?_
      refine lv_goto (tgt := 36) hx hb dX1_pay_32 (by decide) ?_
      have hk9 : kWW z0 z1 = 0 := by rw [kWW, if_pos h1, if_pos h2]
      exact hend 36 ls _ (F, 0) _ _ dX1_pay_36 hP hD hS ⟨hk9.symm, fun _ => ⟨rfl, rfl⟩, fun h => absurd hk9 h⟩

set_option maxHeartbeats 4000000 in
set_option maxRecDepth 100000 in
theorem c_X1_payByHours (l : Launch) (D : va_G) (cA : ClassId) (a : Nat → Nat) (F : Nat → Nat → Int32) (th : Int32) (N : Nat) (hW : wf F N) (z0 z1 : Int32) : Wi l D cA (S := (Nat → Nat → Int32) × Int32) (wM a cA F th) (fun u => wM a cA u.1 u.2) yX1_payByHours wsX1_payByHours rmX1_payByHours [.ref (a 16), .int z0, .int z1] (fun r u => u.2 = kWW z0 z1 ∧ (kWW z0 z1 = 0 → r = ps (tPw F N z0 z1) N ∧ u.1 = F) ∧ (kWW z0 z1 ≠ 0 → u.1 = F)) := by
  refine Wi.of (cc := cX1_payByHours) (maxL := 3) (by decide) rfl (Nat.le_of_ble_eq_true rfl) ?_
  intro p e s m args below meth c ls A Q hx hb hts hown hml hK hP hD hA hS hl hend
  have hown : s.vm.findClass RX1 = some m.cls := hown
  have hl : lv_has ls 3 [(0, .ref (a 16)), (1, .int z0), (2, .int z1)] := hl
  have hN : N ≤ 80 := hW.n
  have hc : F 7 0 = nI N := hW.c
  refine lv_aload_n hx hb dX1_payByHours_0 rfl (lv_at hl 0 rfl) ?_
  refine lv_iload_n hx hb dX1_payByHours_1 rfl (lv_at hl 1 rfl) ?_
  refine Rd.callS (rest := [.ref (a 16)]) ⟨hx, hb, hml, hown, hts⟩ (c_X1_isWorker l D cA z0) (va_cwS 1 hts gX1_payByHours_X1_isWorker rfl rfl rfl (by decide +kernel) ⟨Nat.le_of_ble_eq_true rfl, Nat.le_of_ble_eq_true rfl⟩) hK noP rfl rfl hl.1 (Nat.le_of_ble_eq_true rfl) dX1_payByHours_2 ⟨Nat.zero_le _, Nat.zero_le _⟩ ?_
  refine lv_if_eq (tgt := 19) hx hb dX1_payByHours_5 (by decide) (fun c_5 => ?_) (fun c_5 => ?_)
  · skip
    have h1 : ¬ cI z0 6 := fun h => absurd c_5 (by rw [if_pos h]; decide)
    refine lv_iconst (v := 1) hx hb dX1_payByHours_19 (by decide) ?_
    refine Wi.callV (rest := []) (q0 := 0) (ci := 1) (wr := []) [0, 1, 2, 3, 4, 5, 6, 7, 8, 9, 10, 11, 12] [] ⟨hx, hb, hml, hown, hts⟩ (c_X1_goes l D cA a F th 1 0 (by decide)) (cwV 1 hts gX1_payByHours_X1_goes rfl rfl rfl (by decide +kernel) ⟨Nat.le_of_ble_eq_true rfl, Nat.le_of_ble_eq_true rfl⟩) hK hP hD hS hA rfl rfl (by decide) (by decide) (by decide) rfl rfl rfl rfl rfl hl.1 (Nat.le_of_ble_eq_true rfl) dX1_payByHours_20 ⟨Nat.zero_le _, Nat.zero_le _⟩ (fun r9 u9 H locs hu9 hP hD hS => ?_)
    subst hu9
    have hP : va_P D vwCl (wM a cA F 1) H := hP
    have hD : va_D A (wM a cA F 1) := hD
    refine lv_if_eq (tgt := 35) hx hb dX1_payByHours_23 (by decide) (fun c_23 => ?_) (fun c_23 => (absurd (by decide) c_23 : False).elim)
    refine lv_iconst (v := 0) hx hb dX1_payByHours_35 (by decide) ?_
    have hk9 : kWW z0 z1 = 1 := by rw [kWW, if_neg h1]
    exact hend 36 ls _ (F, 1) _ _ dX1_payByHours_36 hP hD hS ⟨hk9.symm, fun h => absurd (hk9.symm.trans h) (by decide), fun _ => rfl⟩
  · skip
    have h1 : cI z0 6 := Classical.byContradiction (fun h => c_5 (if_neg h))
    obtain ⟨hjz0, ejz0⟩ := cI_of h1 (n := 6) (rfl) (by omega)
    refine lv_iload_n hx hb dX1_payByHours_8 rfl (lv_at hl 2 rfl) ?_
    refine Rd.callS (rest := [.ref (a 16)]) ⟨hx, hb, hml, hown, hts⟩ (c_X1_isWeek l D cA z1) (va_cwS 1 hts gX1_payByHours_X1_isWeek rfl rfl rfl (by decide +kernel) ⟨Nat.le_of_ble_eq_true rfl, Nat.le_of_ble_eq_true rfl⟩) hK noP rfl rfl hl.1 (Nat.le_of_ble_eq_true rfl) dX1_payByHours_9 ⟨Nat.zero_le _, Nat.zero_le _⟩ ?_
    refine lv_if_eq (tgt := 19) hx hb dX1_payByHours_12 (by decide) (fun c_12 => ?_) (fun c_12 => ?_)
    · skip
      have h2 : ¬ cI z1 20 := fun h => absurd c_12 (by rw [if_pos h]; decide)
      refine lv_iconst (v := 1) hx hb dX1_payByHours_19 (by decide) ?_
      refine Wi.callV (rest := []) (q0 := 0) (ci := 1) (wr := []) [0, 1, 2, 3, 4, 5, 6, 7, 8, 9, 10, 11, 12] [] ⟨hx, hb, hml, hown, hts⟩ (c_X1_goes l D cA a F th 1 0 (by decide)) (cwV 1 hts gX1_payByHours_X1_goes rfl rfl rfl (by decide +kernel) ⟨Nat.le_of_ble_eq_true rfl, Nat.le_of_ble_eq_true rfl⟩) hK hP hD hS hA rfl rfl (by decide) (by decide) (by decide) rfl rfl rfl rfl rfl hl.1 (Nat.le_of_ble_eq_true rfl) dX1_payByHours_20 ⟨Nat.zero_le _, Nat.zero_le _⟩ (fun r9 u9 H locs hu9 hP hD hS => ?_)
      subst hu9
      have hP : va_P D vwCl (wM a cA F 1) H := hP
      have hD : va_D A (wM a cA F 1) := hD
      refine lv_if_eq (tgt := 35) hx hb dX1_payByHours_23 (by decide) (fun c_23 => ?_) (fun c_23 => (absurd (by decide) c_23 : False).elim)
      refine lv_iconst (v := 0) hx hb dX1_payByHours_35 (by decide) ?_
      have hk9 : kWW z0 z1 = 1 := by rw [kWW, if_pos h1, if_neg h2]
      exact hend 36 ls _ (F, 1) _ _ dX1_payByHours_36 hP hD hS ⟨hk9.symm, fun h => absurd (hk9.symm.trans h) (by decide), fun _ => rfl⟩
    · skip
      have h2 : cI z1 20 := Classical.byContradiction (fun h => c_12 (if_neg h))
      obtain ⟨hjz1, ejz1⟩ := cI_of h2 (n := 20) (rfl) (by omega)
      refine lv_iconst (v := 0) hx hb dX1_payByHours_15 (by decide) ?_
      refine lv_goto (tgt := 20) hx hb dX1_payByHours_16 (by decide) ?_
      refine Wi.callV (rest := []) (q0 := 0) (ci := 1) (wr := []) [0, 1, 2, 3, 4, 5, 6, 7, 8, 9, 10, 11, 12] [] ⟨hx, hb, hml, hown, hts⟩ (c_X1_goes l D cA a F th 0 1 (by decide)) (cwV 1 hts gX1_payByHours_X1_goes rfl rfl rfl (by decide +kernel) ⟨Nat.le_of_ble_eq_true rfl, Nat.le_of_ble_eq_true rfl⟩) hK hP hD hS hA rfl rfl (by decide) (by decide) (by decide) rfl rfl rfl rfl rfl hl.1 (Nat.le_of_ble_eq_true rfl) dX1_payByHours_20 ⟨Nat.zero_le _, Nat.zero_le _⟩ (fun r9 u9 H locs hu9 hP hD hS => ?_)
      subst hu9
      have hP : va_P D vwCl (wM a cA F 0) H := hP
      have hD : va_D A (wM a cA F 0) := hD
      refine lv_if_eq (tgt := 35) hx hb dX1_payByHours_23 (by decide) (fun c_23 => (absurd c_23 (by decide) : False).elim) (fun c_23 => ?_)
      refine lv_aload_n hx hb dX1_payByHours_26 rfl (lv_at hl 0 rfl) ?_
      refine lv_iload_n hx hb dX1_payByHours_27 rfl (lv_at hl 1 rfl) ?_
      refine lv_iload_n hx hb dX1_payByHours_28 rfl (lv_at hl 2 rfl) ?_
      refine Rd.callV (rest := []) (q0 := 0) (ci := 1) ⟨hx, hb, hml, hown, hts⟩ (c_X1_payIn l D cA a F 0 N hW z0 z1) (cwV 2 hts gX1_payByHours_X1_payIn rfl rfl rfl (by decide +kernel) ⟨Nat.le_of_ble_eq_true rfl, Nat.le_of_ble_eq_true rfl⟩) hK hP rfl rfl rfl rfl rfl hl.1 (Nat.le_of_ble_eq_true rfl) dX1_payByHours_29 ⟨Nat.zero_le _, Nat.zero_le _⟩ ?_
      refine lv_goto (tgt := 36) hx hb dX1_payByHours_32 (by decide) ?_
      have hk9 : kWW z0 z1 = 0 := by rw [kWW, if_pos h1, if_pos h2]
      exact hend 36 ls _ (F, 0) _ _ dX1_payByHours_36 hP hD hS ⟨hk9.symm, fun _ => ⟨rfl, rfl⟩, fun h => absurd hk9 h⟩

set_option maxHeartbeats 4000000 in
set_option maxRecDepth 100000 in
theorem c_X1_paid (l : Launch) (D : va_G) (cA : ClassId) (a : Nat → Nat) (F : Nat → Nat → Int32) (th : Int32) (N : Nat) (hW : wf F N) (z0 z1 : Int32) : Wi l D cA (S := (Nat → Nat → Int32) × Int32) (wM a cA F th) (fun u => wM a cA u.1 u.2) yX1_paid wsX1_paid rmX1_paid [.ref (a 16), .int z0, .int z1] (fun r u => u.2 = kWW z0 z1 ∧ (kWW z0 z1 = 0 → r = F 12 (z0.toNatClampNeg * 20 + z1.toNatClampNeg) ∧ u.1 = F) ∧ (kWW z0 z1 ≠ 0 → u.1 = F)) := by
  refine Wi.of (cc := cX1_paid) (maxL := 3) (by decide) rfl (Nat.le_of_ble_eq_true rfl) ?_
  intro p e s m args below meth c ls A Q hx hb hts hown hml hK hP hD hA hS hl hend
  have hown : s.vm.findClass RX1 = some m.cls := hown
  have hi : ∀ w ∈ wsX10, w ∈ wsX1_paid := by decide +kernel
  have hl : lv_has ls 3 [(0, .ref (a 16)), (1, .int z0), (2, .int z1)] := hl
  have hN : N ≤ 80 := hW.n
  have hc : F 7 0 = nI N := hW.c
  refine lv_aload_n hx hb dX1_paid_0 rfl (lv_at hl 0 rfl) ?_
  refine lv_iload_n hx hb dX1_paid_1 rfl (lv_at hl 1 rfl) ?_
  refine Rd.callS (rest := [.ref (a 16)]) ⟨hx, hb, hml, hown, hts⟩ (c_X1_isWorker l D cA z0) (va_cwS 1 hts gX1_paid_X1_isWorker rfl rfl rfl (by decide +kernel) ⟨Nat.le_of_ble_eq_true rfl, Nat.le_of_ble_eq_true rfl⟩) hK noP rfl rfl hl.1 (Nat.le_of_ble_eq_true rfl) dX1_paid_2 ⟨Nat.zero_le _, Nat.zero_le _⟩ ?_
  refine lv_if_eq (tgt := 19) hx hb dX1_paid_5 (by decide) (fun c_5 => ?_) (fun c_5 => ?_)
  · skip
    have h1 : ¬ cI z0 6 := fun h => absurd c_5 (by rw [if_pos h]; decide)
    refine lv_iconst (v := 1) hx hb dX1_paid_19 (by decide) ?_
    refine Wi.callV (rest := []) (q0 := 0) (ci := 1) (wr := []) [0, 1, 2, 3, 4, 5, 6, 7, 8, 9, 10, 11, 12] [] ⟨hx, hb, hml, hown, hts⟩ (c_X1_goes l D cA a F th 1 0 (by decide)) (cwV 1 hts gX1_paid_X1_goes rfl rfl rfl (by decide +kernel) ⟨Nat.le_of_ble_eq_true rfl, Nat.le_of_ble_eq_true rfl⟩) hK hP hD hS hA rfl rfl (by decide) (by decide) (by decide) rfl rfl rfl rfl rfl hl.1 (Nat.le_of_ble_eq_true rfl) dX1_paid_20 ⟨Nat.zero_le _, Nat.zero_le _⟩ (fun r9 u9 H locs hu9 hP hD hS => ?_)
    subst hu9
    have hP : va_P D vwCl (wM a cA F 1) H := hP
    have hD : va_D A (wM a cA F 1) := hD
    refine lv_if_eq (tgt := 40) hx hb dX1_paid_23 (by decide) (fun c_23 => ?_) (fun c_23 => (absurd (by decide) c_23 : False).elim)
    refine lv_iconst (v := 0) hx hb dX1_paid_40 (by decide) ?_
    have hk9 : kWW z0 z1 = 1 := by rw [kWW, if_neg h1]
    exact hend 41 ls _ (F, 1) _ _ dX1_paid_41 hP hD hS ⟨hk9.symm, fun h => absurd (hk9.symm.trans h) (by decide), fun _ => rfl⟩
  · skip
    have h1 : cI z0 6 := Classical.byContradiction (fun h => c_5 (if_neg h))
    obtain ⟨hjz0, ejz0⟩ := cI_of h1 (n := 6) (rfl) (by omega)
    refine lv_iload_n hx hb dX1_paid_8 rfl (lv_at hl 2 rfl) ?_
    refine Rd.callS (rest := [.ref (a 16)]) ⟨hx, hb, hml, hown, hts⟩ (c_X1_isWeek l D cA z1) (va_cwS 1 hts gX1_paid_X1_isWeek rfl rfl rfl (by decide +kernel) ⟨Nat.le_of_ble_eq_true rfl, Nat.le_of_ble_eq_true rfl⟩) hK noP rfl rfl hl.1 (Nat.le_of_ble_eq_true rfl) dX1_paid_9 ⟨Nat.zero_le _, Nat.zero_le _⟩ ?_
    refine lv_if_eq (tgt := 19) hx hb dX1_paid_12 (by decide) (fun c_12 => ?_) (fun c_12 => ?_)
    · skip
      have h2 : ¬ cI z1 20 := fun h => absurd c_12 (by rw [if_pos h]; decide)
      refine lv_iconst (v := 1) hx hb dX1_paid_19 (by decide) ?_
      refine Wi.callV (rest := []) (q0 := 0) (ci := 1) (wr := []) [0, 1, 2, 3, 4, 5, 6, 7, 8, 9, 10, 11, 12] [] ⟨hx, hb, hml, hown, hts⟩ (c_X1_goes l D cA a F th 1 0 (by decide)) (cwV 1 hts gX1_paid_X1_goes rfl rfl rfl (by decide +kernel) ⟨Nat.le_of_ble_eq_true rfl, Nat.le_of_ble_eq_true rfl⟩) hK hP hD hS hA rfl rfl (by decide) (by decide) (by decide) rfl rfl rfl rfl rfl hl.1 (Nat.le_of_ble_eq_true rfl) dX1_paid_20 ⟨Nat.zero_le _, Nat.zero_le _⟩ (fun r9 u9 H locs hu9 hP hD hS => ?_)
      subst hu9
      have hP : va_P D vwCl (wM a cA F 1) H := hP
      have hD : va_D A (wM a cA F 1) := hD
      refine lv_if_eq (tgt := 40) hx hb dX1_paid_23 (by decide) (fun c_23 => ?_) (fun c_23 => (absurd (by decide) c_23 : False).elim)
      refine lv_iconst (v := 0) hx hb dX1_paid_40 (by decide) ?_
      have hk9 : kWW z0 z1 = 1 := by rw [kWW, if_pos h1, if_neg h2]
      exact hend 41 ls _ (F, 1) _ _ dX1_paid_41 hP hD hS ⟨hk9.symm, fun h => absurd (hk9.symm.trans h) (by decide), fun _ => rfl⟩
    · skip
      have h2 : cI z1 20 := Classical.byContradiction (fun h => c_12 (if_neg h))
      obtain ⟨hjz1, ejz1⟩ := cI_of h2 (n := 20) (rfl) (by omega)
      refine lv_iconst (v := 0) hx hb dX1_paid_15 (by decide) ?_
      refine lv_goto (tgt := 20) hx hb dX1_paid_16 (by decide) ?_
      refine Wi.callV (rest := []) (q0 := 0) (ci := 1) (wr := []) [0, 1, 2, 3, 4, 5, 6, 7, 8, 9, 10, 11, 12] [] ⟨hx, hb, hml, hown, hts⟩ (c_X1_goes l D cA a F th 0 1 (by decide)) (cwV 1 hts gX1_paid_X1_goes rfl rfl rfl (by decide +kernel) ⟨Nat.le_of_ble_eq_true rfl, Nat.le_of_ble_eq_true rfl⟩) hK hP hD hS hA rfl rfl (by decide) (by decide) (by decide) rfl rfl rfl rfl rfl hl.1 (Nat.le_of_ble_eq_true rfl) dX1_paid_20 ⟨Nat.zero_le _, Nat.zero_le _⟩ (fun r9 u9 H locs hu9 hP hD hS => ?_)
      subst hu9
      have hP : va_P D vwCl (wM a cA F 0) H := hP
      have hD : va_D A (wM a cA F 0) := hD
      refine lv_if_eq (tgt := 40) hx hb dX1_paid_23 (by decide) (fun c_23 => (absurd c_23 (by decide) : False).elim) (fun c_23 => ?_)
      refine lv_aload_n hx hb dX1_paid_26 rfl (lv_at hl 0 rfl) ?_
      refine va_get (D := D) (ci := 1) (v := .ref (a 12)) (C := RX1) (T := TX1) (N := 16) hx hb hts hi hown hK hP 0 rfl rfl 12 (by decide) (hts (.fieldLink RX1 44 "AssignmentHouseModel" "paid" "[I") (by decide +kernel)) (fun _ h9 => h9) rfl dX1_paid_27 ?_
      refine lv_bipush (v := 20) hx hb dX1_paid_30 (by decide) ?_
      refine lv_iload_n hx hb dX1_paid_32 rfl (lv_at hl 1 rfl) ?_
      refine lv_imul hx hb dX1_paid_33 ?_
      refine lv_iload_n hx hb dX1_paid_34 rfl (lv_at hl 2 rfl) ?_
      refine lv_iadd hx hb dX1_paid_35 ?_
      refine ri_ald (j := (z0.toNatClampNeg * 20 + z1.toNatClampNeg)) hx hb hK hP 10 rfl (ix20' ejz0 ejz1) (by omega) (by decide) dX1_paid_36 ?_
      refine lv_goto (tgt := 41) hx hb dX1_paid_37 (by decide) ?_
      have hk9 : kWW z0 z1 = 0 := by rw [kWW, if_pos h1, if_pos h2]
      exact hend 41 ls _ (F, 0) _ _ dX1_paid_41 hP hD hS ⟨hk9.symm, fun _ => ⟨rfl, rfl⟩, fun h => absurd hk9 h⟩

set_option maxHeartbeats 4000000 in
set_option maxRecDepth 100000 in
theorem c_X1_billed (l : Launch) (D : va_G) (cA : ClassId) (a : Nat → Nat) (F : Nat → Nat → Int32) (th : Int32) (N : Nat) (hW : wf F N) (z0 z1 : Int32) : Wi l D cA (S := (Nat → Nat → Int32) × Int32) (wM a cA F th) (fun u => wM a cA u.1 u.2) yX1_billed wsX1_billed rmX1_billed [.ref (a 16), .int z0, .int z1] (fun r u => u.2 = kSW z0 z1 ∧ (kSW z0 z1 = 0 → r = F 13 (z0.toNatClampNeg * 20 + z1.toNatClampNeg) ∧ u.1 = F) ∧ (kSW z0 z1 ≠ 0 → u.1 = F)) := by
  refine Wi.of (cc := cX1_billed) (maxL := 3) (by decide) rfl (Nat.le_of_ble_eq_true rfl) ?_
  intro p e s m args below meth c ls A Q hx hb hts hown hml hK hP hD hA hS hl hend
  have hown : s.vm.findClass RX1 = some m.cls := hown
  have hi : ∀ w ∈ wsX10, w ∈ wsX1_billed := by decide +kernel
  have hl : lv_has ls 3 [(0, .ref (a 16)), (1, .int z0), (2, .int z1)] := hl
  have hN : N ≤ 80 := hW.n
  have hc : F 7 0 = nI N := hW.c
  refine lv_aload_n hx hb dX1_billed_0 rfl (lv_at hl 0 rfl) ?_
  refine lv_iload_n hx hb dX1_billed_1 rfl (lv_at hl 1 rfl) ?_
  refine Rd.callS (rest := [.ref (a 16)]) ⟨hx, hb, hml, hown, hts⟩ (c_X1_isSite l D cA z0) (va_cwS 1 hts gX1_billed_X1_isSite rfl rfl rfl (by decide +kernel) ⟨Nat.le_of_ble_eq_true rfl, Nat.le_of_ble_eq_true rfl⟩) hK noP rfl rfl hl.1 (Nat.le_of_ble_eq_true rfl) dX1_billed_2 ⟨Nat.zero_le _, Nat.zero_le _⟩ ?_
  refine lv_if_eq (tgt := 19) hx hb dX1_billed_5 (by decide) (fun c_5 => ?_) (fun c_5 => ?_)
  · skip
    have h1 : ¬ cI z0 4 := fun h => absurd c_5 (by rw [if_pos h]; decide)
    refine lv_iconst (v := 1) hx hb dX1_billed_19 (by decide) ?_
    refine Wi.callV (rest := []) (q0 := 0) (ci := 1) (wr := []) [0, 1, 2, 3, 4, 5, 6, 7, 8, 9, 10, 11, 12] [] ⟨hx, hb, hml, hown, hts⟩ (c_X1_goes l D cA a F th 1 0 (by decide)) (cwV 1 hts gX1_billed_X1_goes rfl rfl rfl (by decide +kernel) ⟨Nat.le_of_ble_eq_true rfl, Nat.le_of_ble_eq_true rfl⟩) hK hP hD hS hA rfl rfl (by decide) (by decide) (by decide) rfl rfl rfl rfl rfl hl.1 (Nat.le_of_ble_eq_true rfl) dX1_billed_20 ⟨Nat.zero_le _, Nat.zero_le _⟩ (fun r9 u9 H locs hu9 hP hD hS => ?_)
    subst hu9
    have hP : va_P D vwCl (wM a cA F 1) H := hP
    have hD : va_D A (wM a cA F 1) := hD
    refine lv_if_eq (tgt := 40) hx hb dX1_billed_23 (by decide) (fun c_23 => ?_) (fun c_23 => (absurd (by decide) c_23 : False).elim)
    refine lv_iconst (v := 0) hx hb dX1_billed_40 (by decide) ?_
    have hk9 : kSW z0 z1 = 1 := by rw [kSW, if_neg h1]
    exact hend 41 ls _ (F, 1) _ _ dX1_billed_41 hP hD hS ⟨hk9.symm, fun h => absurd (hk9.symm.trans h) (by decide), fun _ => rfl⟩
  · skip
    have h1 : cI z0 4 := Classical.byContradiction (fun h => c_5 (if_neg h))
    obtain ⟨hjz0, ejz0⟩ := cI_of h1 (n := 4) (rfl) (by omega)
    refine lv_iload_n hx hb dX1_billed_8 rfl (lv_at hl 2 rfl) ?_
    refine Rd.callS (rest := [.ref (a 16)]) ⟨hx, hb, hml, hown, hts⟩ (c_X1_isWeek l D cA z1) (va_cwS 1 hts gX1_billed_X1_isWeek rfl rfl rfl (by decide +kernel) ⟨Nat.le_of_ble_eq_true rfl, Nat.le_of_ble_eq_true rfl⟩) hK noP rfl rfl hl.1 (Nat.le_of_ble_eq_true rfl) dX1_billed_9 ⟨Nat.zero_le _, Nat.zero_le _⟩ ?_
    refine lv_if_eq (tgt := 19) hx hb dX1_billed_12 (by decide) (fun c_12 => ?_) (fun c_12 => ?_)
    · skip
      have h2 : ¬ cI z1 20 := fun h => absurd c_12 (by rw [if_pos h]; decide)
      refine lv_iconst (v := 1) hx hb dX1_billed_19 (by decide) ?_
      refine Wi.callV (rest := []) (q0 := 0) (ci := 1) (wr := []) [0, 1, 2, 3, 4, 5, 6, 7, 8, 9, 10, 11, 12] [] ⟨hx, hb, hml, hown, hts⟩ (c_X1_goes l D cA a F th 1 0 (by decide)) (cwV 1 hts gX1_billed_X1_goes rfl rfl rfl (by decide +kernel) ⟨Nat.le_of_ble_eq_true rfl, Nat.le_of_ble_eq_true rfl⟩) hK hP hD hS hA rfl rfl (by decide) (by decide) (by decide) rfl rfl rfl rfl rfl hl.1 (Nat.le_of_ble_eq_true rfl) dX1_billed_20 ⟨Nat.zero_le _, Nat.zero_le _⟩ (fun r9 u9 H locs hu9 hP hD hS => ?_)
      subst hu9
      have hP : va_P D vwCl (wM a cA F 1) H := hP
      have hD : va_D A (wM a cA F 1) := hD
      refine lv_if_eq (tgt := 40) hx hb dX1_billed_23 (by decide) (fun c_23 => ?_) (fun c_23 => (absurd (by decide) c_23 : False).elim)
      refine lv_iconst (v := 0) hx hb dX1_billed_40 (by decide) ?_
      have hk9 : kSW z0 z1 = 1 := by rw [kSW, if_pos h1, if_neg h2]
      exact hend 41 ls _ (F, 1) _ _ dX1_billed_41 hP hD hS ⟨hk9.symm, fun h => absurd (hk9.symm.trans h) (by decide), fun _ => rfl⟩
    · skip
      have h2 : cI z1 20 := Classical.byContradiction (fun h => c_12 (if_neg h))
      obtain ⟨hjz1, ejz1⟩ := cI_of h2 (n := 20) (rfl) (by omega)
      refine lv_iconst (v := 0) hx hb dX1_billed_15 (by decide) ?_
      refine lv_goto (tgt := 20) hx hb dX1_billed_16 (by decide) ?_
      refine Wi.callV (rest := []) (q0 := 0) (ci := 1) (wr := []) [0, 1, 2, 3, 4, 5, 6, 7, 8, 9, 10, 11, 12] [] ⟨hx, hb, hml, hown, hts⟩ (c_X1_goes l D cA a F th 0 1 (by decide)) (cwV 1 hts gX1_billed_X1_goes rfl rfl rfl (by decide +kernel) ⟨Nat.le_of_ble_eq_true rfl, Nat.le_of_ble_eq_true rfl⟩) hK hP hD hS hA rfl rfl (by decide) (by decide) (by decide) rfl rfl rfl rfl rfl hl.1 (Nat.le_of_ble_eq_true rfl) dX1_billed_20 ⟨Nat.zero_le _, Nat.zero_le _⟩ (fun r9 u9 H locs hu9 hP hD hS => ?_)
      subst hu9
      have hP : va_P D vwCl (wM a cA F 0) H := hP
      have hD : va_D A (wM a cA F 0) := hD
      refine lv_if_eq (tgt := 40) hx hb dX1_billed_23 (by decide) (fun c_23 => (absurd c_23 (by decide) : False).elim) (fun c_23 => ?_)
      refine lv_aload_n hx hb dX1_billed_26 rfl (lv_at hl 0 rfl) ?_
      refine va_get (D := D) (ci := 1) (v := .ref (a 13)) (C := RX1) (T := TX1) (N := 16) hx hb hts hi hown hK hP 0 rfl rfl 13 (by decide) (hts (.fieldLink RX1 47 "AssignmentHouseModel" "billed" "[I") (by decide +kernel)) (fun _ h9 => h9) rfl dX1_billed_27 ?_
      refine lv_bipush (v := 20) hx hb dX1_billed_30 (by decide) ?_
      refine lv_iload_n hx hb dX1_billed_32 rfl (lv_at hl 1 rfl) ?_
      refine lv_imul hx hb dX1_billed_33 ?_
      refine lv_iload_n hx hb dX1_billed_34 rfl (lv_at hl 2 rfl) ?_
      refine lv_iadd hx hb dX1_billed_35 ?_
      refine ri_ald (j := (z0.toNatClampNeg * 20 + z1.toNatClampNeg)) hx hb hK hP 11 rfl (ix20' ejz0 ejz1) (by omega) (by decide) dX1_billed_36 ?_
      refine lv_goto (tgt := 41) hx hb dX1_billed_37 (by decide) ?_
      have hk9 : kSW z0 z1 = 0 := by rw [kSW, if_pos h1, if_pos h2]
      exact hend 41 ls _ (F, 0) _ _ dX1_billed_41 hP hD hS ⟨hk9.symm, fun _ => ⟨rfl, rfl⟩, fun h => absurd hk9 h⟩

set_option maxHeartbeats 4000000 in
set_option maxRecDepth 100000 in
theorem c_X1_owing (l : Launch) (D : va_G) (cA : ClassId) (a : Nat → Nat) (F : Nat → Nat → Int32) (th : Int32) (N : Nat) (hW : wf F N) (z0 z1 : Int32) : Wi l D cA (S := (Nat → Nat → Int32) × Int32) (wM a cA F th) (fun u => wM a cA u.1 u.2) yX1_owing wsX1_owing rmX1_owing [.ref (a 16), .int z0, .int z1] (fun r u => u.2 = kWW z0 z1 ∧ (kWW z0 z1 = 0 → r = ps (tPw F N z0 z1) N - F 12 (z0.toNatClampNeg * 20 + z1.toNatClampNeg) ∧ u.1 = F) ∧ (kWW z0 z1 ≠ 0 → u.1 = F)) := by
  refine Wi.of (cc := cX1_owing) (maxL := 3) (by decide) rfl (Nat.le_of_ble_eq_true rfl) ?_
  intro p e s m args below meth c ls A Q hx hb hts hown hml hK hP hD hA hS hl hend
  have hown : s.vm.findClass RX1 = some m.cls := hown
  have hi : ∀ w ∈ wsX10, w ∈ wsX1_owing := by decide +kernel
  have hl : lv_has ls 3 [(0, .ref (a 16)), (1, .int z0), (2, .int z1)] := hl
  have hN : N ≤ 80 := hW.n
  have hc : F 7 0 = nI N := hW.c
  refine lv_aload_n hx hb dX1_owing_0 rfl (lv_at hl 0 rfl) ?_
  refine lv_iload_n hx hb dX1_owing_1 rfl (lv_at hl 1 rfl) ?_
  refine Rd.callS (rest := [.ref (a 16)]) ⟨hx, hb, hml, hown, hts⟩ (c_X1_isWorker l D cA z0) (va_cwS 1 hts gX1_owing_X1_isWorker rfl rfl rfl (by decide +kernel) ⟨Nat.le_of_ble_eq_true rfl, Nat.le_of_ble_eq_true rfl⟩) hK noP rfl rfl hl.1 (Nat.le_of_ble_eq_true rfl) dX1_owing_2 ⟨Nat.zero_le _, Nat.zero_le _⟩ ?_
  refine lv_if_eq (tgt := 19) hx hb dX1_owing_5 (by decide) (fun c_5 => ?_) (fun c_5 => ?_)
  · skip
    have h1 : ¬ cI z0 6 := fun h => absurd c_5 (by rw [if_pos h]; decide)
    refine lv_iconst (v := 1) hx hb dX1_owing_19 (by decide) ?_
    refine Wi.callV (rest := []) (q0 := 0) (ci := 1) (wr := []) [0, 1, 2, 3, 4, 5, 6, 7, 8, 9, 10, 11, 12] [] ⟨hx, hb, hml, hown, hts⟩ (c_X1_goes l D cA a F th 1 0 (by decide)) (cwV 1 hts gX1_owing_X1_goes rfl rfl rfl (by decide +kernel) ⟨Nat.le_of_ble_eq_true rfl, Nat.le_of_ble_eq_true rfl⟩) hK hP hD hS hA rfl rfl (by decide) (by decide) (by decide) rfl rfl rfl rfl rfl hl.1 (Nat.le_of_ble_eq_true rfl) dX1_owing_20 ⟨Nat.zero_le _, Nat.zero_le _⟩ (fun r9 u9 H locs hu9 hP hD hS => ?_)
    subst hu9
    have hP : va_P D vwCl (wM a cA F 1) H := hP
    have hD : va_D A (wM a cA F 1) := hD
    refine lv_if_eq (tgt := 47) hx hb dX1_owing_23 (by decide) (fun c_23 => ?_) (fun c_23 => (absurd (by decide) c_23 : False).elim)
    refine lv_iconst (v := 0) hx hb dX1_owing_47 (by decide) ?_
    have hk9 : kWW z0 z1 = 1 := by rw [kWW, if_neg h1]
    exact hend 48 ls _ (F, 1) _ _ dX1_owing_48 hP hD hS ⟨hk9.symm, fun h => absurd (hk9.symm.trans h) (by decide), fun _ => rfl⟩
  · skip
    have h1 : cI z0 6 := Classical.byContradiction (fun h => c_5 (if_neg h))
    obtain ⟨hjz0, ejz0⟩ := cI_of h1 (n := 6) (rfl) (by omega)
    refine lv_iload_n hx hb dX1_owing_8 rfl (lv_at hl 2 rfl) ?_
    refine Rd.callS (rest := [.ref (a 16)]) ⟨hx, hb, hml, hown, hts⟩ (c_X1_isWeek l D cA z1) (va_cwS 1 hts gX1_owing_X1_isWeek rfl rfl rfl (by decide +kernel) ⟨Nat.le_of_ble_eq_true rfl, Nat.le_of_ble_eq_true rfl⟩) hK noP rfl rfl hl.1 (Nat.le_of_ble_eq_true rfl) dX1_owing_9 ⟨Nat.zero_le _, Nat.zero_le _⟩ ?_
    refine lv_if_eq (tgt := 19) hx hb dX1_owing_12 (by decide) (fun c_12 => ?_) (fun c_12 => ?_)
    · skip
      have h2 : ¬ cI z1 20 := fun h => absurd c_12 (by rw [if_pos h]; decide)
      refine lv_iconst (v := 1) hx hb dX1_owing_19 (by decide) ?_
      refine Wi.callV (rest := []) (q0 := 0) (ci := 1) (wr := []) [0, 1, 2, 3, 4, 5, 6, 7, 8, 9, 10, 11, 12] [] ⟨hx, hb, hml, hown, hts⟩ (c_X1_goes l D cA a F th 1 0 (by decide)) (cwV 1 hts gX1_owing_X1_goes rfl rfl rfl (by decide +kernel) ⟨Nat.le_of_ble_eq_true rfl, Nat.le_of_ble_eq_true rfl⟩) hK hP hD hS hA rfl rfl (by decide) (by decide) (by decide) rfl rfl rfl rfl rfl hl.1 (Nat.le_of_ble_eq_true rfl) dX1_owing_20 ⟨Nat.zero_le _, Nat.zero_le _⟩ (fun r9 u9 H locs hu9 hP hD hS => ?_)
      subst hu9
      have hP : va_P D vwCl (wM a cA F 1) H := hP
      have hD : va_D A (wM a cA F 1) := hD
      refine lv_if_eq (tgt := 47) hx hb dX1_owing_23 (by decide) (fun c_23 => ?_) (fun c_23 => (absurd (by decide) c_23 : False).elim)
      refine lv_iconst (v := 0) hx hb dX1_owing_47 (by decide) ?_
      have hk9 : kWW z0 z1 = 1 := by rw [kWW, if_pos h1, if_neg h2]
      exact hend 48 ls _ (F, 1) _ _ dX1_owing_48 hP hD hS ⟨hk9.symm, fun h => absurd (hk9.symm.trans h) (by decide), fun _ => rfl⟩
    · skip
      have h2 : cI z1 20 := Classical.byContradiction (fun h => c_12 (if_neg h))
      obtain ⟨hjz1, ejz1⟩ := cI_of h2 (n := 20) (rfl) (by omega)
      refine lv_iconst (v := 0) hx hb dX1_owing_15 (by decide) ?_
      refine lv_goto (tgt := 20) hx hb dX1_owing_16 (by decide) ?_
      refine Wi.callV (rest := []) (q0 := 0) (ci := 1) (wr := []) [0, 1, 2, 3, 4, 5, 6, 7, 8, 9, 10, 11, 12] [] ⟨hx, hb, hml, hown, hts⟩ (c_X1_goes l D cA a F th 0 1 (by decide)) (cwV 1 hts gX1_owing_X1_goes rfl rfl rfl (by decide +kernel) ⟨Nat.le_of_ble_eq_true rfl, Nat.le_of_ble_eq_true rfl⟩) hK hP hD hS hA rfl rfl (by decide) (by decide) (by decide) rfl rfl rfl rfl rfl hl.1 (Nat.le_of_ble_eq_true rfl) dX1_owing_20 ⟨Nat.zero_le _, Nat.zero_le _⟩ (fun r9 u9 H locs hu9 hP hD hS => ?_)
      subst hu9
      have hP : va_P D vwCl (wM a cA F 0) H := hP
      have hD : va_D A (wM a cA F 0) := hD
      refine lv_if_eq (tgt := 47) hx hb dX1_owing_23 (by decide) (fun c_23 => (absurd c_23 (by decide) : False).elim) (fun c_23 => ?_)
      refine lv_aload_n hx hb dX1_owing_26 rfl (lv_at hl 0 rfl) ?_
      refine lv_iload_n hx hb dX1_owing_27 rfl (lv_at hl 1 rfl) ?_
      refine lv_iload_n hx hb dX1_owing_28 rfl (lv_at hl 2 rfl) ?_
      refine Rd.callV (rest := []) (q0 := 0) (ci := 1) ⟨hx, hb, hml, hown, hts⟩ (c_X1_payIn l D cA a F 0 N hW z0 z1) (cwV 2 hts gX1_owing_X1_payIn rfl rfl rfl (by decide +kernel) ⟨Nat.le_of_ble_eq_true rfl, Nat.le_of_ble_eq_true rfl⟩) hK hP rfl rfl rfl rfl rfl hl.1 (Nat.le_of_ble_eq_true rfl) dX1_owing_29 ⟨Nat.zero_le _, Nat.zero_le _⟩ ?_
      refine lv_aload_n hx hb dX1_owing_32 rfl (lv_at hl 0 rfl) ?_
      refine va_get (D := D) (ci := 1) (v := .ref (a 12)) (C := RX1) (T := TX1) (N := 16) hx hb hts hi hown hK hP 0 rfl rfl 12 (by decide) (hts (.fieldLink RX1 44 "AssignmentHouseModel" "paid" "[I") (by decide +kernel)) (fun _ h9 => h9) rfl dX1_owing_33 ?_
      refine lv_bipush (v := 20) hx hb dX1_owing_36 (by decide) ?_
      refine lv_iload_n hx hb dX1_owing_38 rfl (lv_at hl 1 rfl) ?_
      refine lv_imul hx hb dX1_owing_39 ?_
      refine lv_iload_n hx hb dX1_owing_40 rfl (lv_at hl 2 rfl) ?_
      refine lv_iadd hx hb dX1_owing_41 ?_
      refine ri_ald (j := (z0.toNatClampNeg * 20 + z1.toNatClampNeg)) hx hb hK hP 10 rfl (ix20' ejz0 ejz1) (by omega) (by decide) dX1_owing_42 ?_
      refine lv_isub hx hb dX1_owing_43 ?_
      refine lv_goto (tgt := 48) hx hb dX1_owing_44 (by decide) ?_
      have hk9 : kWW z0 z1 = 0 := by rw [kWW, if_pos h1, if_pos h2]
      exact hend 48 ls _ (F, 0) _ _ dX1_owing_48 hP hD hS ⟨hk9.symm, fun _ => ⟨rfl, rfl⟩, fun h => absurd hk9 h⟩

set_option maxHeartbeats 4000000 in
set_option maxRecDepth 100000 in
theorem c_X1_toBill (l : Launch) (D : va_G) (cA : ClassId) (a : Nat → Nat) (F : Nat → Nat → Int32) (th : Int32) (N : Nat) (hW : wf F N) (z0 z1 : Int32) : Wi l D cA (S := (Nat → Nat → Int32) × Int32) (wM a cA F th) (fun u => wM a cA u.1 u.2) yX1_toBill wsX1_toBill rmX1_toBill [.ref (a 16), .int z0, .int z1] (fun r u => u.2 = kSW z0 z1 ∧ (kSW z0 z1 = 0 → r = ps (tCt F N z0 z1) N - F 13 (z0.toNatClampNeg * 20 + z1.toNatClampNeg) ∧ u.1 = F) ∧ (kSW z0 z1 ≠ 0 → u.1 = F)) := by
  refine Wi.of (cc := cX1_toBill) (maxL := 3) (by decide) rfl (Nat.le_of_ble_eq_true rfl) ?_
  intro p e s m args below meth c ls A Q hx hb hts hown hml hK hP hD hA hS hl hend
  have hown : s.vm.findClass RX1 = some m.cls := hown
  have hi : ∀ w ∈ wsX10, w ∈ wsX1_toBill := by decide +kernel
  have hl : lv_has ls 3 [(0, .ref (a 16)), (1, .int z0), (2, .int z1)] := hl
  have hN : N ≤ 80 := hW.n
  have hc : F 7 0 = nI N := hW.c
  refine lv_aload_n hx hb dX1_toBill_0 rfl (lv_at hl 0 rfl) ?_
  refine lv_iload_n hx hb dX1_toBill_1 rfl (lv_at hl 1 rfl) ?_
  refine Rd.callS (rest := [.ref (a 16)]) ⟨hx, hb, hml, hown, hts⟩ (c_X1_isSite l D cA z0) (va_cwS 1 hts gX1_toBill_X1_isSite rfl rfl rfl (by decide +kernel) ⟨Nat.le_of_ble_eq_true rfl, Nat.le_of_ble_eq_true rfl⟩) hK noP rfl rfl hl.1 (Nat.le_of_ble_eq_true rfl) dX1_toBill_2 ⟨Nat.zero_le _, Nat.zero_le _⟩ ?_
  refine lv_if_eq (tgt := 19) hx hb dX1_toBill_5 (by decide) (fun c_5 => ?_) (fun c_5 => ?_)
  · skip
    have h1 : ¬ cI z0 4 := fun h => absurd c_5 (by rw [if_pos h]; decide)
    refine lv_iconst (v := 1) hx hb dX1_toBill_19 (by decide) ?_
    refine Wi.callV (rest := []) (q0 := 0) (ci := 1) (wr := []) [0, 1, 2, 3, 4, 5, 6, 7, 8, 9, 10, 11, 12] [] ⟨hx, hb, hml, hown, hts⟩ (c_X1_goes l D cA a F th 1 0 (by decide)) (cwV 1 hts gX1_toBill_X1_goes rfl rfl rfl (by decide +kernel) ⟨Nat.le_of_ble_eq_true rfl, Nat.le_of_ble_eq_true rfl⟩) hK hP hD hS hA rfl rfl (by decide) (by decide) (by decide) rfl rfl rfl rfl rfl hl.1 (Nat.le_of_ble_eq_true rfl) dX1_toBill_20 ⟨Nat.zero_le _, Nat.zero_le _⟩ (fun r9 u9 H locs hu9 hP hD hS => ?_)
    subst hu9
    have hP : va_P D vwCl (wM a cA F 1) H := hP
    have hD : va_D A (wM a cA F 1) := hD
    refine lv_if_eq (tgt := 47) hx hb dX1_toBill_23 (by decide) (fun c_23 => ?_) (fun c_23 => (absurd (by decide) c_23 : False).elim)
    refine lv_iconst (v := 0) hx hb dX1_toBill_47 (by decide) ?_
    have hk9 : kSW z0 z1 = 1 := by rw [kSW, if_neg h1]
    exact hend 48 ls _ (F, 1) _ _ dX1_toBill_48 hP hD hS ⟨hk9.symm, fun h => absurd (hk9.symm.trans h) (by decide), fun _ => rfl⟩
  · skip
    have h1 : cI z0 4 := Classical.byContradiction (fun h => c_5 (if_neg h))
    obtain ⟨hjz0, ejz0⟩ := cI_of h1 (n := 4) (rfl) (by omega)
    refine lv_iload_n hx hb dX1_toBill_8 rfl (lv_at hl 2 rfl) ?_
    refine Rd.callS (rest := [.ref (a 16)]) ⟨hx, hb, hml, hown, hts⟩ (c_X1_isWeek l D cA z1) (va_cwS 1 hts gX1_toBill_X1_isWeek rfl rfl rfl (by decide +kernel) ⟨Nat.le_of_ble_eq_true rfl, Nat.le_of_ble_eq_true rfl⟩) hK noP rfl rfl hl.1 (Nat.le_of_ble_eq_true rfl) dX1_toBill_9 ⟨Nat.zero_le _, Nat.zero_le _⟩ ?_
    refine lv_if_eq (tgt := 19) hx hb dX1_toBill_12 (by decide) (fun c_12 => ?_) (fun c_12 => ?_)
    · skip
      have h2 : ¬ cI z1 20 := fun h => absurd c_12 (by rw [if_pos h]; decide)
      refine lv_iconst (v := 1) hx hb dX1_toBill_19 (by decide) ?_
      refine Wi.callV (rest := []) (q0 := 0) (ci := 1) (wr := []) [0, 1, 2, 3, 4, 5, 6, 7, 8, 9, 10, 11, 12] [] ⟨hx, hb, hml, hown, hts⟩ (c_X1_goes l D cA a F th 1 0 (by decide)) (cwV 1 hts gX1_toBill_X1_goes rfl rfl rfl (by decide +kernel) ⟨Nat.le_of_ble_eq_true rfl, Nat.le_of_ble_eq_true rfl⟩) hK hP hD hS hA rfl rfl (by decide) (by decide) (by decide) rfl rfl rfl rfl rfl hl.1 (Nat.le_of_ble_eq_true rfl) dX1_toBill_20 ⟨Nat.zero_le _, Nat.zero_le _⟩ (fun r9 u9 H locs hu9 hP hD hS => ?_)
      subst hu9
      have hP : va_P D vwCl (wM a cA F 1) H := hP
      have hD : va_D A (wM a cA F 1) := hD
      refine lv_if_eq (tgt := 47) hx hb dX1_toBill_23 (by decide) (fun c_23 => ?_) (fun c_23 => (absurd (by decide) c_23 : False).elim)
      refine lv_iconst (v := 0) hx hb dX1_toBill_47 (by decide) ?_
      have hk9 : kSW z0 z1 = 1 := by rw [kSW, if_pos h1, if_neg h2]
      exact hend 48 ls _ (F, 1) _ _ dX1_toBill_48 hP hD hS ⟨hk9.symm, fun h => absurd (hk9.symm.trans h) (by decide), fun _ => rfl⟩
    · skip
      have h2 : cI z1 20 := Classical.byContradiction (fun h => c_12 (if_neg h))
      obtain ⟨hjz1, ejz1⟩ := cI_of h2 (n := 20) (rfl) (by omega)
      refine lv_iconst (v := 0) hx hb dX1_toBill_15 (by decide) ?_
      refine lv_goto (tgt := 20) hx hb dX1_toBill_16 (by decide) ?_
      refine Wi.callV (rest := []) (q0 := 0) (ci := 1) (wr := []) [0, 1, 2, 3, 4, 5, 6, 7, 8, 9, 10, 11, 12] [] ⟨hx, hb, hml, hown, hts⟩ (c_X1_goes l D cA a F th 0 1 (by decide)) (cwV 1 hts gX1_toBill_X1_goes rfl rfl rfl (by decide +kernel) ⟨Nat.le_of_ble_eq_true rfl, Nat.le_of_ble_eq_true rfl⟩) hK hP hD hS hA rfl rfl (by decide) (by decide) (by decide) rfl rfl rfl rfl rfl hl.1 (Nat.le_of_ble_eq_true rfl) dX1_toBill_20 ⟨Nat.zero_le _, Nat.zero_le _⟩ (fun r9 u9 H locs hu9 hP hD hS => ?_)
      subst hu9
      have hP : va_P D vwCl (wM a cA F 0) H := hP
      have hD : va_D A (wM a cA F 0) := hD
      refine lv_if_eq (tgt := 47) hx hb dX1_toBill_23 (by decide) (fun c_23 => (absurd c_23 (by decide) : False).elim) (fun c_23 => ?_)
      refine lv_aload_n hx hb dX1_toBill_26 rfl (lv_at hl 0 rfl) ?_
      refine lv_iload_n hx hb dX1_toBill_27 rfl (lv_at hl 1 rfl) ?_
      refine lv_iload_n hx hb dX1_toBill_28 rfl (lv_at hl 2 rfl) ?_
      refine Rd.callV (rest := []) (q0 := 0) (ci := 1) ⟨hx, hb, hml, hown, hts⟩ (c_X1_chargesIn l D cA a F 0 N hW z0 z1) (cwV 2 hts gX1_toBill_X1_chargesIn rfl rfl rfl (by decide +kernel) ⟨Nat.le_of_ble_eq_true rfl, Nat.le_of_ble_eq_true rfl⟩) hK hP rfl rfl rfl rfl rfl hl.1 (Nat.le_of_ble_eq_true rfl) dX1_toBill_29 ⟨Nat.zero_le _, Nat.zero_le _⟩ ?_
      refine lv_aload_n hx hb dX1_toBill_32 rfl (lv_at hl 0 rfl) ?_
      refine va_get (D := D) (ci := 1) (v := .ref (a 13)) (C := RX1) (T := TX1) (N := 16) hx hb hts hi hown hK hP 0 rfl rfl 13 (by decide) (hts (.fieldLink RX1 47 "AssignmentHouseModel" "billed" "[I") (by decide +kernel)) (fun _ h9 => h9) rfl dX1_toBill_33 ?_
      refine lv_bipush (v := 20) hx hb dX1_toBill_36 (by decide) ?_
      refine lv_iload_n hx hb dX1_toBill_38 rfl (lv_at hl 1 rfl) ?_
      refine lv_imul hx hb dX1_toBill_39 ?_
      refine lv_iload_n hx hb dX1_toBill_40 rfl (lv_at hl 2 rfl) ?_
      refine lv_iadd hx hb dX1_toBill_41 ?_
      refine ri_ald (j := (z0.toNatClampNeg * 20 + z1.toNatClampNeg)) hx hb hK hP 11 rfl (ix20' ejz0 ejz1) (by omega) (by decide) dX1_toBill_42 ?_
      refine lv_isub hx hb dX1_toBill_43 ?_
      refine lv_goto (tgt := 48) hx hb dX1_toBill_44 (by decide) ?_
      have hk9 : kSW z0 z1 = 0 := by rw [kSW, if_pos h1, if_pos h2]
      exact hend 48 ls _ (F, 0) _ _ dX1_toBill_48 hP hD hS ⟨hk9.symm, fun _ => ⟨rfl, rfl⟩, fun h => absurd hk9 h⟩

set_option maxHeartbeats 4000000 in
set_option maxRecDepth 100000 in
theorem c_X1_run (l : Launch) (D : va_G) (cA : ClassId) (a : Nat → Nat) (F : Nat → Nat → Int32) (th : Int32) (N : Nat) (hW : wf F N) (z0 : Int32) : Wi l D cA (S := (Nat → Nat → Int32) × Int32) (wM a cA F th) (fun u => wM a cA u.1 u.2) yX1_run wsX1_run rmX1_run [.ref (a 16), .int z0] (fun r u => u.2 = kWk z0 ∧ (kWk z0 = 0 → r = sRun F N z0.toNatClampNeg ∧ u.1 = runB F N z0.toNatClampNeg 4) ∧ (kWk z0 ≠ 0 → u.1 = F)) := by
  refine Wi.of (cc := cX1_run) (maxL := 5) (by decide) rfl (Nat.le_of_ble_eq_true rfl) ?_
  intro p e s m args below meth c ls A Q hx hb hts hown hml hK hP hD hA hS hl hend
  have hown : s.vm.findClass RX1 = some m.cls := hown
  have hi : ∀ w ∈ wsX10, w ∈ wsX1_run := by decide +kernel
  have hl : lv_has ls 5 [(0, .ref (a 16)), (1, .int z0)] := hl
  have hN : N ≤ 80 := hW.n
  have hc : F 7 0 = nI N := hW.c
  have h6 : (6 : Int32) = nI 6 := rfl
  have h4 : (4 : Int32) = nI 4 := rfl
  refine lv_aload_n hx hb dX1_run_0 rfl (lv_at hl 0 rfl) ?_
  refine lv_iload_n hx hb dX1_run_1 rfl (lv_at hl 1 rfl) ?_
  refine Rd.callS (rest := [.ref (a 16)]) ⟨hx, hb, hml, hown, hts⟩ (c_X1_isWeek l D cA z0) (va_cwS 1 hts gX1_run_X1_isWeek rfl rfl rfl (by decide +kernel) ⟨Nat.le_of_ble_eq_true rfl, Nat.le_of_ble_eq_true rfl⟩) hK noP rfl rfl hl.1 (Nat.le_of_ble_eq_true rfl) dX1_run_2 ⟨Nat.zero_le _, Nat.zero_le _⟩ ?_
  refine lv_if_eq (tgt := 12) hx hb dX1_run_5 (by decide) (fun c_5 => ?_) (fun c_5 => ?_)
  · skip
    have h1 : ¬ cI z0 20 := fun h => absurd c_5 (by rw [if_pos h]; decide)
    refine lv_iconst (v := 1) hx hb dX1_run_12 (by decide) ?_
    refine Wi.callV (rest := []) (q0 := 0) (ci := 1) (wr := []) [0, 1, 2, 3, 4, 5, 6, 7, 8, 9, 10, 11, 12] [] ⟨hx, hb, hml, hown, hts⟩ (c_X1_goes l D cA a F th 1 0 (by decide)) (cwV 1 hts gX1_run_X1_goes rfl rfl rfl (by decide +kernel) ⟨Nat.le_of_ble_eq_true rfl, Nat.le_of_ble_eq_true rfl⟩) hK hP hD hS hA rfl rfl (by decide) (by decide) (by decide) rfl rfl rfl rfl rfl hl.1 (Nat.le_of_ble_eq_true rfl) dX1_run_13 ⟨Nat.zero_le _, Nat.zero_le _⟩ (fun r9 u9 H locs hu9 hP hD hS => ?_)
    subst hu9
    have hP : va_P D vwCl (wM a cA F 1) H := hP
    have hD : va_D A (wM a cA F 1) := hD
    refine lv_if_ne (tgt := 21) hx hb dX1_run_16 (by decide) (fun c_16 => (absurd (by decide) c_16 : False).elim) (fun c_16 => ?_)
    refine lv_iconst (v := 0) hx hb dX1_run_19 (by decide) ?_
    have hk9 : kWk z0 = 1 := by rw [kWk, if_neg h1]
    exact hend 20 ls _ (F, 1) _ _ dX1_run_20 hP hD hS ⟨hk9.symm, fun h => absurd (hk9.symm.trans h) (by decide), fun _ => rfl⟩
  · skip
    have h1 : cI z0 20 := Classical.byContradiction (fun h => c_5 (if_neg h))
    obtain ⟨hjz0, ejz0⟩ := cI_of h1 (n := 20) (rfl) (by omega)
    refine lv_iconst (v := 0) hx hb dX1_run_8 (by decide) ?_
    refine lv_goto (tgt := 13) hx hb dX1_run_9 (by decide) ?_
    refine Wi.callV (rest := []) (q0 := 0) (ci := 1) (wr := []) [0, 1, 2, 3, 4, 5, 6, 7, 8, 9, 10, 11, 12] [] ⟨hx, hb, hml, hown, hts⟩ (c_X1_goes l D cA a F th 0 1 (by decide)) (cwV 1 hts gX1_run_X1_goes rfl rfl rfl (by decide +kernel) ⟨Nat.le_of_ble_eq_true rfl, Nat.le_of_ble_eq_true rfl⟩) hK hP hD hS hA rfl rfl (by decide) (by decide) (by decide) rfl rfl rfl rfl rfl hl.1 (Nat.le_of_ble_eq_true rfl) dX1_run_13 ⟨Nat.zero_le _, Nat.zero_le _⟩ (fun r9 u9 H locs hu9 hP hD hS => ?_)
    subst hu9
    have hP : va_P D vwCl (wM a cA F 0) H := hP
    have hD : va_D A (wM a cA F 0) := hD
    refine lv_if_ne (tgt := 21) hx hb dX1_run_16 (by decide) (fun c_16 => ?_) (fun c_16 => (absurd c_16 (by decide) : False).elim)
    refine lv_iconst (v := 0) hx hb dX1_run_21 (by decide) ?_
    refine lv_istore_n (lv' := [(2, .int 0), (0, .ref (a 16)), (1, .int z0)]) hx hb dX1_run_22 rfl hl (by decide) rfl (fun ls hl => ?_)
    refine lv_iconst (v := 0) hx hb dX1_run_23 (by decide) ?_
    refine lv_istore_n (lv' := [(3, .int 0), (2, .int 0), (0, .ref (a 16)), (1, .int z0)]) hx hb dX1_run_24 rfl hl (by decide) rfl (fun ls hl => ?_)
    have K_25 : ∀ (n i : Nat) (x2 : Int32) (H : Heap) (locs : List Loc) (ls : Array Slot), i + n = 6 → x2 = ps (fun i => pW F N z0.toNatClampNeg i - F 12 (i * 20 + z0.toNatClampNeg)) i → va_P D vwCl (wM a cA (runP F N z0.toNatClampNeg i) 0) H → va_D A (wM a cA (runP F N z0.toNatClampNeg i) 0) → va_S A s.heap H locs → lv_has ls 5 [(0, .ref (a 16)), (1, .int z0), (2, .int x2), (3, .int (nI i))] → W p l e rmX1_run s m args below meth c H locs 0 0 Q (F0 m 25 ls []) := by
      intro n
      induction n with
      | zero =>
        intro i x2  H locs ls hin_25 ex2  hP hD hS hl
        have hiN : i = 6 := by omega
        have e9 : i = 6 := hiN
        have hP : va_P D vwCl (wM a cA (runP F N z0.toNatClampNeg 6) 0) H := by rw [← hiN]; exact hP
        have hD : va_D A (wM a cA (runP F N z0.toNatClampNeg 6) 0) := by rw [← hiN]; exact hD
        refine lv_iload_n hx hb dX1_run_25 rfl (lv_at hl 3 rfl) ?_
        refine lv_bipush (v := 6) hx hb dX1_run_26 (by decide) ?_
        refine lv_icmp_ge (tgt := 75) hx hb dX1_run_28 (by decide) (fun c_28 => ?_) (fun c_28 => (absurd (((br_ge h6 (by omega) (by omega : i ≤ 6)).mpr hiN)) c_28 : False).elim)
        refine lv_iconst (v := 0) hx hb dX1_run_75 (by decide) ?_
        refine lv_istore_n (lv' := [(3, .int 0), (0, .ref (a 16)), (1, .int z0), (2, .int x2)]) hx hb dX1_run_76 rfl hl (by decide) rfl (fun ls hl => ?_)
        have K_77 : ∀ (n i : Nat) (H : Heap) (locs : List Loc) (ls : Array Slot), i + n = 4 → va_P D vwCl (wM a cA (runB F N z0.toNatClampNeg i) 0) H → va_D A (wM a cA (runB F N z0.toNatClampNeg i) 0) → va_S A s.heap H locs → lv_has ls 5 [(0, .ref (a 16)), (1, .int z0), (2, .int x2), (3, .int (nI i))] → W p l e rmX1_run s m args below meth c H locs 0 0 Q (F0 m 77 ls []) := by
          intro n
          induction n with
          | zero =>
            intro i   H locs ls hin_77   hP hD hS hl
            have hiN : i = 4 := by omega
            have hP : va_P D vwCl (wM a cA (runB F N z0.toNatClampNeg 4) 0) H := by rw [← hiN]; exact hP
            have hD : va_D A (wM a cA (runB F N z0.toNatClampNeg 4) 0) := by rw [← hiN]; exact hD
            refine lv_iload_n hx hb dX1_run_77 rfl (lv_at hl 3 rfl) ?_
            refine lv_iconst (v := 4) hx hb dX1_run_78 (by decide) ?_
            refine lv_icmp_ge (tgt := 105) hx hb dX1_run_79 (by decide) (fun c_79 => ?_) (fun c_79 => (absurd (((br_ge h4 (by omega) (by omega : i ≤ 4)).mpr hiN)) c_79 : False).elim)
            refine lv_iload_n hx hb dX1_run_105 rfl (lv_at hl 2 rfl) ?_
            have hk9 : kWk z0 = 0 := by rw [kWk, if_pos h1]
            exact hend 106 ls _ ((runB F N z0.toNatClampNeg 4), 0) _ _ dX1_run_106 hP hD hS ⟨hk9.symm, fun _ => ⟨by rw [ex2, e9]; rfl, rfl⟩, fun h => absurd hk9 h⟩
          | succ n ih_77 =>
            intro i   H locs ls hin_77   hP hD hS hl
            have hiN : i < 4 := by omega
            refine lv_iload_n hx hb dX1_run_77 rfl (lv_at hl 3 rfl) ?_
            refine lv_iconst (v := 4) hx hb dX1_run_78 (by decide) ?_
            refine lv_icmp_ge (tgt := 105) hx hb dX1_run_79 (by decide) (fun c_79 => (absurd (((br_ge h4 (by omega) (by omega : i ≤ 4)).mp c_79)) (by omega) : False).elim) (fun c_79 => ?_)
            refine lv_aload_n hx hb dX1_run_82 rfl (lv_at hl 0 rfl) ?_
            refine va_get (D := D) (ci := 1) (v := .ref (a 13)) (C := RX1) (T := TX1) (N := 16) hx hb hts hi hown hK hP 0 rfl rfl 13 (by decide) (hts (.fieldLink RX1 47 "AssignmentHouseModel" "billed" "[I") (by decide +kernel)) (fun _ h9 => h9) rfl dX1_run_83 ?_
            refine lv_bipush (v := 20) hx hb dX1_run_86 (by decide) ?_
            refine lv_iload_n hx hb dX1_run_88 rfl (lv_at hl 3 rfl) ?_
            refine lv_imul hx hb dX1_run_89 ?_
            refine lv_iload_n hx hb dX1_run_90 rfl (lv_at hl 1 rfl) ?_
            refine lv_iadd hx hb dX1_run_91 ?_
            refine lv_aload_n hx hb dX1_run_92 rfl (lv_at hl 0 rfl) ?_
            refine lv_iload_n hx hb dX1_run_93 rfl (lv_at hl 3 rfl) ?_
            refine lv_iload_n hx hb dX1_run_94 rfl (lv_at hl 1 rfl) ?_
            refine Rd.callV (rest := [.int ((20 * (nI i)) + z0), .ref (a 13)]) (q0 := 0) (ci := 1) ⟨hx, hb, hml, hown, hts⟩ (c_X1_chargesIn l D cA a (runB F N z0.toNatClampNeg i) 0 N ((runB_agr F N z0.toNatClampNeg i).wf hW) (nI i) z0) (cwV 2 hts gX1_run_X1_chargesIn rfl rfl rfl (by decide +kernel) ⟨Nat.le_of_ble_eq_true rfl, Nat.le_of_ble_eq_true rfl⟩) hK hP rfl rfl rfl rfl rfl hl.1 (Nat.le_of_ble_eq_true rfl) dX1_run_95 ⟨Nat.zero_le _, Nat.zero_le _⟩ ?_
            rw [runB_chg (F := F) (N := N) (k := z0.toNatClampNeg) (i := i) ejz0 i rfl]
            refine ri_ast (j := (i * 20 + z0.toNatClampNeg)) (x := (cS F N z0.toNatClampNeg i)) hx hb hK hP hD hS 11 rfl (ix20' rfl ejz0) (by omega) (by decide) dX1_run_98 (fun H locs hP hD hS => ?_)
            have hP : va_P D vwCl (wM a cA (fUp (runB F N z0.toNatClampNeg i) 13 (i * 20 + z0.toNatClampNeg) (cS F N z0.toNatClampNeg i)) 0) H := hP
            have hD : va_D A (wM a cA (fUp (runB F N z0.toNatClampNeg i) 13 (i * 20 + z0.toNatClampNeg) (cS F N z0.toNatClampNeg i)) 0) := hD
            refine lv_iinc (v := (nI (i + 1))) (lv' := [(3, .int (nI (i + 1))), (0, .ref (a 16)), (1, .int z0), (2, .int x2)]) hx hb dX1_run_99 hl (k := 3) rfl (nI_1 i) (by decide) rfl (fun ls hl => ?_)
            refine lv_goto (tgt := 77) hx hb dX1_run_102 (by decide) ?_
            exact ih_77 (i + 1)   _ _ ls (by omega)   hP hD hS (lv_sub hl [1, 2, 3, 0] rfl)
        exact K_77 4 0   _ _ ls (by omega)   hP hD hS (lv_sub hl [1, 2, 3, 0] rfl)
      | succ n ih_25 =>
        intro i x2  H locs ls hin_25 ex2  hP hD hS hl
        have hiN : i < 6 := by omega
        refine lv_iload_n hx hb dX1_run_25 rfl (lv_at hl 3 rfl) ?_
        refine lv_bipush (v := 6) hx hb dX1_run_26 (by decide) ?_
        refine lv_icmp_ge (tgt := 75) hx hb dX1_run_28 (by decide) (fun c_28 => (absurd (((br_ge h6 (by omega) (by omega : i ≤ 6)).mp c_28)) (by omega) : False).elim) (fun c_28 => ?_)
        refine lv_aload_n hx hb dX1_run_31 rfl (lv_at hl 0 rfl) ?_
        refine lv_iload_n hx hb dX1_run_32 rfl (lv_at hl 3 rfl) ?_
        refine lv_iload_n hx hb dX1_run_33 rfl (lv_at hl 1 rfl) ?_
        refine Rd.callV (rest := []) (q0 := 0) (ci := 1) ⟨hx, hb, hml, hown, hts⟩ (c_X1_payIn l D cA a (runP F N z0.toNatClampNeg i) 0 N ((runP_agr F N z0.toNatClampNeg i).wf hW) (nI i) z0) (cwV 2 hts gX1_run_X1_payIn rfl rfl rfl (by decide +kernel) ⟨Nat.le_of_ble_eq_true rfl, Nat.le_of_ble_eq_true rfl⟩) hK hP rfl rfl rfl rfl rfl hl.1 (Nat.le_of_ble_eq_true rfl) dX1_run_34 ⟨Nat.zero_le _, Nat.zero_le _⟩ ?_
        rw [runP_pay (F := F) (N := N) (k := z0.toNatClampNeg) (i := i) ejz0 i rfl]
        refine lv_istore (lv' := [(4, .int (pW F N z0.toNatClampNeg i)), (0, .ref (a 16)), (1, .int z0), (2, .int x2), (3, .int (nI i))]) hx hb dX1_run_37 hl (by decide) rfl (fun ls hl => ?_)
        refine lv_iload_n hx hb dX1_run_39 rfl (lv_at hl 3 rfl) ?_
        refine lv_iload hx hb dX1_run_40 (lv_at hl 0 rfl) ?_
        refine lv_aload_n hx hb dX1_run_42 rfl (lv_at hl 1 rfl) ?_
        refine va_get (D := D) (ci := 1) (v := .ref (a 12)) (C := RX1) (T := TX1) (N := 16) hx hb hts hi hown hK hP 0 rfl rfl 12 (by decide) (hts (.fieldLink RX1 44 "AssignmentHouseModel" "paid" "[I") (by decide +kernel)) (fun _ h9 => h9) rfl dX1_run_43 ?_
        refine lv_bipush (v := 20) hx hb dX1_run_46 (by decide) ?_
        refine lv_iload_n hx hb dX1_run_48 rfl (lv_at hl 4 rfl) ?_
        refine lv_imul hx hb dX1_run_49 ?_
        refine lv_iload_n hx hb dX1_run_50 rfl (lv_at hl 2 rfl) ?_
        refine lv_iadd hx hb dX1_run_51 ?_
        refine ri_ald (j := (i * 20 + z0.toNatClampNeg)) hx hb hK hP 10 rfl (ix20' rfl ejz0) (by omega) (by decide) dX1_run_52 ?_
        refine lv_isub hx hb dX1_run_53 ?_
        refine lv_iadd hx hb dX1_run_54 ?_
        refine lv_istore_n (lv' := [(2, .int (x2 + ((pW F N z0.toNatClampNeg i) - ((runP F N z0.toNatClampNeg i) 12 (i * 20 + z0.toNatClampNeg))))), (4, .int (pW F N z0.toNatClampNeg i)), (0, .ref (a 16)), (1, .int z0), (3, .int (nI i))]) hx hb dX1_run_55 rfl hl (by decide) rfl (fun ls hl => ?_)
        refine lv_aload_n hx hb dX1_run_56 rfl (lv_at hl 2 rfl) ?_
        refine va_get (D := D) (ci := 1) (v := .ref (a 12)) (C := RX1) (T := TX1) (N := 16) hx hb hts hi hown hK hP 0 rfl rfl 12 (by decide) (hts (.fieldLink RX1 44 "AssignmentHouseModel" "paid" "[I") (by decide +kernel)) (fun _ h9 => h9) rfl dX1_run_57 ?_
        refine lv_bipush (v := 20) hx hb dX1_run_60 (by decide) ?_
        refine lv_iload_n hx hb dX1_run_62 rfl (lv_at hl 4 rfl) ?_
        refine lv_imul hx hb dX1_run_63 ?_
        refine lv_iload_n hx hb dX1_run_64 rfl (lv_at hl 3 rfl) ?_
        refine lv_iadd hx hb dX1_run_65 ?_
        refine lv_iload hx hb dX1_run_66 (lv_at hl 1 rfl) ?_
        refine ri_ast (j := (i * 20 + z0.toNatClampNeg)) (x := (pW F N z0.toNatClampNeg i)) hx hb hK hP hD hS 10 rfl (ix20' rfl ejz0) (by omega) (by decide) dX1_run_68 (fun H locs hP hD hS => ?_)
        have hP : va_P D vwCl (wM a cA (fUp (runP F N z0.toNatClampNeg i) 12 (i * 20 + z0.toNatClampNeg) (pW F N z0.toNatClampNeg i)) 0) H := hP
        have hD : va_D A (wM a cA (fUp (runP F N z0.toNatClampNeg i) 12 (i * 20 + z0.toNatClampNeg) (pW F N z0.toNatClampNeg i)) 0) := hD
        refine lv_iinc (v := (nI (i + 1))) (lv' := [(3, .int (nI (i + 1))), (2, .int (x2 + ((pW F N z0.toNatClampNeg i) - ((runP F N z0.toNatClampNeg i) 12 (i * 20 + z0.toNatClampNeg))))), (4, .int (pW F N z0.toNatClampNeg i)), (0, .ref (a 16)), (1, .int z0)]) hx hb dX1_run_69 hl (k := 4) rfl (nI_1 i) (by decide) rfl (fun ls hl => ?_)
        refine lv_goto (tgt := 25) hx hb dX1_run_72 (by decide) ?_
        exact ih_25 (i + 1) _  _ _ ls (by omega) (by rw [ps_s, ex2, runP_at F N z0.toNatClampNeg i i (Nat.le_refl i)])  hP hD hS (lv_sub hl [3, 4, 1, 0] rfl)
    exact K_25 6 0 _  _ _ ls (by omega) (rfl)  hP hD hS (lv_sub hl [2, 3, 1, 0] rfl)


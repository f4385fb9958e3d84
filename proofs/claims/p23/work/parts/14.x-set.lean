/-! the class: the setters; by program (wip/whole/gen) -/
abbrev rmX0_setRates : Room := { frames := 2, cells := 0, slots := 0, locals := 42 }
abbrev rbX0_setRates : Room := { frames := 7, cells := 1, slots := 6, locals := 112 }
abbrev rmX0_setMargins : Room := { frames := 2, cells := 0, slots := 0, locals := 42 }
abbrev rbX0_setMargins : Room := { frames := 7, cells := 1, slots := 6, locals := 112 }
abbrev rmX0_setEqual : Room := { frames := 2, cells := 0, slots := 0, locals := 42 }
abbrev rbX0_setEqual : Room := { frames := 7, cells := 1, slots := 6, locals := 112 }
set_option maxHeartbeats 4000000 in
set_option maxRecDepth 100000 in
theorem c_X0_setRates (l : Launch) (D : va_G) (cA : ClassId) (a : Nat → Nat) (F : Nat → Nat → Int32) (g : Nat → Int32) (N : Nat) (hW : wf F N) (z0 z1 z2 : Int32) (h1 : cI z0 4) (h2 : cR z1 1 10000) (h3 : cR z2 z1 10000) : Wv l D cA (S := Unit) (wX a cA F g) (fun _ => wX a cA (fUp (fUp F 0 z0.toNatClampNeg z1) 1 z0.toNatClampNeg z2) g) yX0_setRates wsX0_setRates rmX0_setRates [.ref (a 16), .int z0, .int z1, .int z2] (fun _ => True) := by
  refine Wv.of (cc := cX0_setRates) (maxL := 4) (by decide) rfl (Nat.le_of_ble_eq_true rfl) ?_
  intro p e s m args below meth c ls A Q hx hb hts hown hml hK hP hD hA hS hl hend
  have hown : s.vm.findClass RX0 = some m.cls := hown
  have hi : ∀ w ∈ wsX00, w ∈ wsX0_setRates := by decide +kernel
  have hl : lv_has ls 4 [(0, .ref (a 16)), (1, .int z0), (2, .int z1), (3, .int z2)] := hl
  have hN : N ≤ 80 := hW.n
  have hc : F 7 0 = nI N := hW.c
  obtain ⟨hjz0, ejz0⟩ := cI_of h1 (n := 4) (rfl) (by omega)
  refine lv_iload_n hx hb dX0_setRates_0 rfl (lv_at hl 1 rfl) ?_
  refine lv_iconst (v := 4) hx hb dX0_setRates_1 (by decide) ?_
  refine Ru.callS (rest := []) ⟨hx, hb, hml, hown, hts⟩ (c_X0_needOneOf l D cA z0 4 h1.1 h1.2) (va_cwS 2 hts gX0_setRates_X0_needOneOf rfl rfl rfl (by decide +kernel) ⟨Nat.le_of_ble_eq_true rfl, Nat.le_of_ble_eq_true rfl⟩) hK noP rfl rfl hl.1 (Nat.le_of_ble_eq_true rfl) dX0_setRates_2 ⟨Nat.zero_le _, Nat.zero_le _⟩ ?_
  refine lv_iload_n hx hb dX0_setRates_5 rfl (lv_at hl 2 rfl) ?_
  refine lv_iconst (v := 1) hx hb dX0_setRates_6 (by decide) ?_
  refine lv_sipush (v := 10000) hx hb dX0_setRates_7 (by decide) ?_
  refine Ru.callS (rest := []) ⟨hx, hb, hml, hown, hts⟩ (c_X0_needRange l D cA z1 1 10000 h2.1 h2.2) (va_cwS 3 hts gX0_setRates_X0_needRange rfl rfl rfl (by decide +kernel) ⟨Nat.le_of_ble_eq_true rfl, Nat.le_of_ble_eq_true rfl⟩) hK noP rfl rfl hl.1 (Nat.le_of_ble_eq_true rfl) dX0_setRates_10 ⟨Nat.zero_le _, Nat.zero_le _⟩ ?_
  refine lv_iload_n hx hb dX0_setRates_13 rfl (lv_at hl 3 rfl) ?_
  refine lv_iload_n hx hb dX0_setRates_14 rfl (lv_at hl 2 rfl) ?_
  refine lv_sipush (v := 10000) hx hb dX0_setRates_15 (by decide) ?_
  refine Ru.callS (rest := []) ⟨hx, hb, hml, hown, hts⟩ (c_X0_needRange l D cA z2 z1 10000 h3.1 h3.2) (va_cwS 3 hts gX0_setRates_X0_needRange rfl rfl rfl (by decide +kernel) ⟨Nat.le_of_ble_eq_true rfl, Nat.le_of_ble_eq_true rfl⟩) hK noP rfl rfl hl.1 (Nat.le_of_ble_eq_true rfl) dX0_setRates_18 ⟨Nat.zero_le _, Nat.zero_le _⟩ ?_
  refine lv_aload_n hx hb dX0_setRates_21 rfl (lv_at hl 0 rfl) ?_
  refine va_get (D := D) (ci := 0) (v := .ref (a 0)) (C := RX0) (T := TX0) (N := 16) hx hb hts hi hown hK hP 0 rfl rfl 0 (by decide) (hts (.fieldLink RX0 9 "AssignmentHouse" "plainRate" "[I") (by decide +kernel)) (fun _ h9 => h9) rfl dX0_setRates_22 ?_
  refine lv_iload_n hx hb dX0_setRates_25 rfl (lv_at hl 1 rfl) ?_
  refine lv_iload_n hx hb dX0_setRates_26 rfl (lv_at hl 2 rfl) ?_
  refine put_call (k := 1) (b := a 0) (n := 4) (f := (F 0)) (x := z0) (j := z0.toNatClampNeg) (v := z1) (rest := []) ⟨hx, hb, hml, hown, hts⟩ gX0_setRates_X0_put hK hP hD hS hA rfl (ejz0) (hjz0) (by decide) hl.1 (Nat.le_of_ble_eq_true rfl) dX0_setRates_27 ⟨Nat.zero_le _, Nat.zero_le _⟩ ⟨Nat.le_of_ble_eq_true rfl, Nat.le_of_ble_eq_true rfl⟩ (fun H locs hP hD hS => ?_)
  have hP : va_P D vwCl (wX a cA (fUp F 0 z0.toNatClampNeg z1) g) H := hP
  have hD : va_D A (wX a cA (fUp F 0 z0.toNatClampNeg z1) g) := hD
  refine lv_aload_n hx hb dX0_setRates_30 rfl (lv_at hl 0 rfl) ?_
  refine va_get (D := D) (ci := 0) (v := .ref (a 1)) (C := RX0) (T := TX0) (N := 16) hx hb hts hi hown hK hP 0 rfl rfl 1 (by decide) (hts (.fieldLink RX0 13 "AssignmentHouse" "equalRate" "[I") (by decide +kernel)) (fun _ h9 => h9) rfl dX0_setRates_31 ?_
  refine lv_iload_n hx hb dX0_setRates_34 rfl (lv_at hl 1 rfl) ?_
  refine lv_iload_n hx hb dX0_setRates_35 rfl (lv_at hl 3 rfl) ?_
  refine put_call (k := 2) (b := a 1) (n := 4) (f := ((fUp F 0 z0.toNatClampNeg z1) 1)) (x := z0) (j := z0.toNatClampNeg) (v := z2) (rest := []) ⟨hx, hb, hml, hown, hts⟩ gX0_setRates_X0_put hK hP hD hS hA rfl (ejz0) (hjz0) (by decide) hl.1 (Nat.le_of_ble_eq_true rfl) dX0_setRates_36 ⟨Nat.zero_le _, Nat.zero_le _⟩ ⟨Nat.le_of_ble_eq_true rfl, Nat.le_of_ble_eq_true rfl⟩ (fun H locs hP hD hS => ?_)
  have hP : va_P D vwCl (wX a cA (fUp (fUp F 0 z0.toNatClampNeg z1) 1 z0.toNatClampNeg z2) g) H := hP
  have hD : va_D A (wX a cA (fUp (fUp F 0 z0.toNatClampNeg z1) 1 z0.toNatClampNeg z2) g) := hD
  exact hend 39 ls (()) _ _ dX0_setRates_39 hP hD hS (trivial)

set_option maxHeartbeats 4000000 in
set_option maxRecDepth 100000 in
theorem b_X0_setRates (l : Launch) (D : va_G) (cA : ClassId) (hl9 : l.stackTraces = false) (a : Nat → Nat) (F : Nat → Nat → Int32) (g : Nat → Int32) (N : Nat) (hW : wf F N) (z0 z1 z2 : Int32) (hk : kRates z0 z1 z2 ≠ 0) : Bx l D cA (wX a cA F g) yX0_setRates wsX0_setRates rbX0_setRates [.ref (a 16), .int z0, .int z1, .int z2] (exN (kRates z0 z1 z2) eI eA eS) := by
  refine Bx.of (cc := cX0_setRates) (maxL := 4) (ret := none) (by decide) rfl (Nat.le_of_ble_eq_true rfl) ?_
  intro p e s m args below meth c ls hx hb hts hown hml hK hP hl htab hlocks hZ
  have hown : s.vm.findClass RX0 = some m.cls := hown
  have hi : ∀ w ∈ wsX00, w ∈ wsX0_setRates := by decide +kernel
  have hl : lv_has ls 4 [(0, .ref (a 16)), (1, .int z0), (2, .int z1), (3, .int z2)] := hl
  have hN : N ≤ 80 := hW.n
  have hc : F 7 0 = nI N := hW.c
  refine lv_iload_n hx hb dX0_setRates_0 rfl (lv_at hl 1 rfl) ?_
  refine lv_iconst (v := 4) hx hb dX0_setRates_1 (by decide) ?_
  refine (Classical.em (cI z0 4)).elim (fun h1 => ?_) (fun h1 => ?_)
  rotate_left
  rw [show exN (kRates z0 z1 z2) eI eA eS = eI from by rw [kRates, if_neg h1]; rfl]
  exact Bx.thruS (rest := []) ⟨hx, hb, hml, hown, hts⟩ htab hlocks (b_X0_needOneOf l D cA hl9 z0 4 (cI_n h1)) (va_cwS 2 hts gX0_setRates_X0_needOneOf rfl rfl rfl (by decide +kernel) ⟨Nat.le_of_ble_eq_true rfl, Nat.le_of_ble_eq_true rfl⟩) hK noP hZ rfl rfl hl.1 (Nat.le_of_ble_eq_true rfl) dX0_setRates_2 ⟨Nat.le_of_ble_eq_true rfl, Nat.le_of_ble_eq_true rfl⟩
  refine Ru.callS (rest := []) ⟨hx, hb, hml, hown, hts⟩ (c_X0_needOneOf l D cA z0 4 h1.1 h1.2) (va_cwS 2 hts gX0_setRates_X0_needOneOf rfl rfl rfl (by decide +kernel) ⟨Nat.le_of_ble_eq_true rfl, Nat.le_of_ble_eq_true rfl⟩) hK noP rfl rfl hl.1 (Nat.le_of_ble_eq_true rfl) dX0_setRates_2 ⟨Nat.zero_le _, Nat.zero_le _⟩ ?_
  refine lv_iload_n hx hb dX0_setRates_5 rfl (lv_at hl 2 rfl) ?_
  refine lv_iconst (v := 1) hx hb dX0_setRates_6 (by decide) ?_
  refine lv_sipush (v := 10000) hx hb dX0_setRates_7 (by decide) ?_
  refine (Classical.em (cR z1 1 10000)).elim (fun h2 => ?_) (fun h2 => ?_)
  rotate_left
  rw [show exN (kRates z0 z1 z2) eI eA eS = eA from by rw [kRates, if_pos h1, if_neg h2]; rfl]
  exact Bx.thruS (rest := []) ⟨hx, hb, hml, hown, hts⟩ htab hlocks (b_X0_needRange l D cA hl9 z1 1 10000 (cR_n h2)) (va_cwS 3 hts gX0_setRates_X0_needRange rfl rfl rfl (by decide +kernel) ⟨Nat.le_of_ble_eq_true rfl, Nat.le_of_ble_eq_true rfl⟩) hK noP hZ rfl rfl hl.1 (Nat.le_of_ble_eq_true rfl) dX0_setRates_10 ⟨Nat.le_of_ble_eq_true rfl, Nat.le_of_ble_eq_true rfl⟩
  refine Ru.callS (rest := []) ⟨hx, hb, hml, hown, hts⟩ (c_X0_needRange l D cA z1 1 10000 h2.1 h2.2) (va_cwS 3 hts gX0_setRates_X0_needRange rfl rfl rfl (by decide +kernel) ⟨Nat.le_of_ble_eq_true rfl, Nat.le_of_ble_eq_true rfl⟩) hK noP rfl rfl hl.1 (Nat.le_of_ble_eq_true rfl) dX0_setRates_10 ⟨Nat.zero_le _, Nat.zero_le _⟩ ?_
  refine lv_iload_n hx hb dX0_setRates_13 rfl (lv_at hl 3 rfl) ?_
  refine lv_iload_n hx hb dX0_setRates_14 rfl (lv_at hl 2 rfl) ?_
  refine lv_sipush (v := 10000) hx hb dX0_setRates_15 (by decide) ?_
  refine (Classical.em (cR z2 z1 10000)).elim (fun h3 => ?_) (fun h3 => ?_)
  rotate_left
  rw [show exN (kRates z0 z1 z2) eI eA eS = eA from by rw [kRates, if_pos h1, if_pos h2, if_neg h3]; rfl]
  exact Bx.thruS (rest := []) ⟨hx, hb, hml, hown, hts⟩ htab hlocks (b_X0_needRange l D cA hl9 z2 z1 10000 (cR_n h3)) (va_cwS 3 hts gX0_setRates_X0_needRange rfl rfl rfl (by decide +kernel) ⟨Nat.le_of_ble_eq_true rfl, Nat.le_of_ble_eq_true rfl⟩) hK noP hZ rfl rfl hl.1 (Nat.le_of_ble_eq_true rfl) dX0_setRates_18 ⟨Nat.le_of_ble_eq_true rfl, Nat.le_of_ble_eq_true rfl⟩
  exact absurd (by rw [kRates, if_pos h1, if_pos h2, if_pos h3]) hk

set_option maxHeartbeats 4000000 in
set_option maxRecDepth 100000 in
theorem c_X0_setMargins (l : Launch) (D : va_G) (cA : ClassId) (a : Nat → Nat) (F : Nat → Nat → Int32) (g : Nat → Int32) (N : Nat) (hW : wf F N) (z0 z1 z2 z3 : Int32) (h1 : cI z0 4) (h2 : cR z1 0 100) (h3 : cR z2 0 z1) (h4 : cR z3 1 1000) : Wv l D cA (S := Unit) (wX a cA F g) (fun _ => wX a cA (fMargins F z0.toNatClampNeg z1 z2 z3) g) yX0_setMargins wsX0_setMargins rmX0_setMargins [.ref (a 16), .int z0, .int z1, .int z2, .int z3] (fun _ => True) := by
  refine Wv.of (cc := cX0_setMargins) (maxL := 5) (by decide) rfl (Nat.le_of_ble_eq_true rfl) ?_
  intro p e s m args below meth c ls A Q hx hb hts hown hml hK hP hD hA hS hl hend
  have hown : s.vm.findClass RX0 = some m.cls := hown
  have hi : ∀ w ∈ wsX00, w ∈ wsX0_setMargins := by decide +kernel
  have hl : lv_has ls 5 [(0, .ref (a 16)), (1, .int z0), (2, .int z1), (3, .int z2), (4, .int z3)] := hl
  have hN : N ≤ 80 := hW.n
  have hc : F 7 0 = nI N := hW.c
  obtain ⟨hjz0, ejz0⟩ := cI_of h1 (n := 4) (rfl) (by omega)
  refine lv_iload_n hx hb dX0_setMargins_0 rfl (lv_at hl 1 rfl) ?_
  refine lv_iconst (v := 4) hx hb dX0_setMargins_1 (by decide) ?_
  refine Ru.callS (rest := []) ⟨hx, hb, hml, hown, hts⟩ (c_X0_needOneOf l D cA z0 4 h1.1 h1.2) (va_cwS 2 hts gX0_setMargins_X0_needOneOf rfl rfl rfl (by decide +kernel) ⟨Nat.le_of_ble_eq_true rfl, Nat.le_of_ble_eq_true rfl⟩) hK noP rfl rfl hl.1 (Nat.le_of_ble_eq_true rfl) dX0_setMargins_2 ⟨Nat.zero_le _, Nat.zero_le _⟩ ?_
  refine lv_iload_n hx hb dX0_setMargins_5 rfl (lv_at hl 2 rfl) ?_
  refine lv_iconst (v := 0) hx hb dX0_setMargins_6 (by decide) ?_
  refine lv_bipush (v := 100) hx hb dX0_setMargins_7 (by decide) ?_
  refine Ru.callS (rest := []) ⟨hx, hb, hml, hown, hts⟩ (c_X0_needRange l D cA z1 0 100 h2.1 h2.2) (va_cwS 3 hts gX0_setMargins_X0_needRange rfl rfl rfl (by decide +kernel) ⟨Nat.le_of_ble_eq_true rfl, Nat.le_of_ble_eq_true rfl⟩) hK noP rfl rfl hl.1 (Nat.le_of_ble_eq_true rfl) dX0_setMargins_9 ⟨Nat.zero_le _, Nat.zero_le _⟩ ?_
  refine lv_iload_n hx hb dX0_setMargins_12 rfl (lv_at hl 3 rfl) ?_
  refine lv_iconst (v := 0) hx hb dX0_setMargins_13 (by decide) ?_
  refine lv_iload_n hx hb dX0_setMargins_14 rfl (lv_at hl 2 rfl) ?_
  refine Ru.callS (rest := []) ⟨hx, hb, hml, hown, hts⟩ (c_X0_needRange l D cA z2 0 z1 h3.1 h3.2) (va_cwS 3 hts gX0_setMargins_X0_needRange rfl rfl rfl (by decide +kernel) ⟨Nat.le_of_ble_eq_true rfl, Nat.le_of_ble_eq_true rfl⟩) hK noP rfl rfl hl.1 (Nat.le_of_ble_eq_true rfl) dX0_setMargins_15 ⟨Nat.zero_le _, Nat.zero_le _⟩ ?_
  refine lv_iload hx hb dX0_setMargins_18 (lv_at hl 4 rfl) ?_
  refine lv_iconst (v := 1) hx hb dX0_setMargins_20 (by decide) ?_
  refine lv_sipush (v := 1000) hx hb dX0_setMargins_21 (by decide) ?_
  refine Ru.callS (rest := []) ⟨hx, hb, hml, hown, hts⟩ (c_X0_needRange l D cA z3 1 1000 h4.1 h4.2) (va_cwS 3 hts gX0_setMargins_X0_needRange rfl rfl rfl (by decide +kernel) ⟨Nat.le_of_ble_eq_true rfl, Nat.le_of_ble_eq_true rfl⟩) hK noP rfl rfl hl.1 (Nat.le_of_ble_eq_true rfl) dX0_setMargins_24 ⟨Nat.zero_le _, Nat.zero_le _⟩ ?_
  refine lv_aload_n hx hb dX0_setMargins_27 rfl (lv_at hl 0 rfl) ?_
  refine va_get (D := D) (ci := 0) (v := .ref (a 2)) (C := RX0) (T := TX0) (N := 16) hx hb hts hi hown hK hP 0 rfl rfl 2 (by decide) (hts (.fieldLink RX0 16 "AssignmentHouse" "highMargin" "[I") (by decide +kernel)) (fun _ h9 => h9) rfl dX0_setMargins_28 ?_
  refine lv_iload_n hx hb dX0_setMargins_31 rfl (lv_at hl 1 rfl) ?_
  refine lv_iload_n hx hb dX0_setMargins_32 rfl (lv_at hl 2 rfl) ?_
  refine put_call (k := 3) (b := a 2) (n := 4) (f := (F 2)) (x := z0) (j := z0.toNatClampNeg) (v := z1) (rest := []) ⟨hx, hb, hml, hown, hts⟩ gX0_setMargins_X0_put hK hP hD hS hA rfl (ejz0) (hjz0) (by decide) hl.1 (Nat.le_of_ble_eq_true rfl) dX0_setMargins_33 ⟨Nat.zero_le _, Nat.zero_le _⟩ ⟨Nat.le_of_ble_eq_true rfl, Nat.le_of_ble_eq_true rfl⟩ (fun H locs hP hD hS => ?_)
  have hP : va_P D vwCl (wX a cA (fUp F 2 z0.toNatClampNeg z1) g) H := hP
  have hD : va_D A (wX a cA (fUp F 2 z0.toNatClampNeg z1) g) := hD
  refine lv_aload_n hx hb dX0_setMargins_36 rfl (lv_at hl 0 rfl) ?_
  refine va_get (D := D) (ci := 0) (v := .ref (a 3)) (C := RX0) (T := TX0) (N := 16) hx hb hts hi hown hK hP 0 rfl rfl 3 (by decide) (hts (.fieldLink RX0 19 "AssignmentHouse" "lowMargin" "[I") (by decide +kernel)) (fun _ h9 => h9) rfl dX0_setMargins_37 ?_
  refine lv_iload_n hx hb dX0_setMargins_40 rfl (lv_at hl 1 rfl) ?_
  refine lv_iload_n hx hb dX0_setMargins_41 rfl (lv_at hl 3 rfl) ?_
  refine put_call (k := 4) (b := a 3) (n := 4) (f := ((fUp F 2 z0.toNatClampNeg z1) 3)) (x := z0) (j := z0.toNatClampNeg) (v := z2) (rest := []) ⟨hx, hb, hml, hown, hts⟩ gX0_setMargins_X0_put hK hP hD hS hA rfl (ejz0) (hjz0) (by decide) hl.1 (Nat.le_of_ble_eq_true rfl) dX0_setMargins_42 ⟨Nat.zero_le _, Nat.zero_le _⟩ ⟨Nat.le_of_ble_eq_true rfl, Nat.le_of_ble_eq_true rfl⟩ (fun H locs hP hD hS => ?_)
  have hP : va_P D vwCl (wX a cA (fUp (fUp F 2 z0.toNatClampNeg z1) 3 z0.toNatClampNeg z2) g) H := hP
  have hD : va_D A (wX a cA (fUp (fUp F 2 z0.toNatClampNeg z1) 3 z0.toNatClampNeg z2) g) := hD
  refine lv_aload_n hx hb dX0_setMargins_45 rfl (lv_at hl 0 rfl) ?_
  refine va_get (D := D) (ci := 0) (v := .ref (a 4)) (C := RX0) (T := TX0) (N := 16) hx hb hts hi hown hK hP 0 rfl rfl 4 (by decide) (hts (.fieldLink RX0 22 "AssignmentHouse" "lowVolume" "[I") (by decide +kernel)) (fun _ h9 => h9) rfl dX0_setMargins_46 ?_
  refine lv_iload_n hx hb dX0_setMargins_49 rfl (lv_at hl 1 rfl) ?_
  refine lv_iload hx hb dX0_setMargins_50 (lv_at hl 4 rfl) ?_
  refine put_call (k := 5) (b := a 4) (n := 4) (f := ((fUp (fUp F 2 z0.toNatClampNeg z1) 3 z0.toNatClampNeg z2) 4)) (x := z0) (j := z0.toNatClampNeg) (v := z3) (rest := []) ⟨hx, hb, hml, hown, hts⟩ gX0_setMargins_X0_put hK hP hD hS hA rfl (ejz0) (hjz0) (by decide) hl.1 (Nat.le_of_ble_eq_true rfl) dX0_setMargins_52 ⟨Nat.zero_le _, Nat.zero_le _⟩ ⟨Nat.le_of_ble_eq_true rfl, Nat.le_of_ble_eq_true rfl⟩ (fun H locs hP hD hS => ?_)
  have hP : va_P D vwCl (wX a cA (fUp (fUp (fUp F 2 z0.toNatClampNeg z1) 3 z0.toNatClampNeg z2) 4 z0.toNatClampNeg z3) g) H := hP
  have hD : va_D A (wX a cA (fUp (fUp (fUp F 2 z0.toNatClampNeg z1) 3 z0.toNatClampNeg z2) 4 z0.toNatClampNeg z3) g) := hD
  exact hend 55 ls (()) _ _ dX0_setMargins_55 hP hD hS (trivial)

set_option maxHeartbeats 4000000 in
set_option maxRecDepth 100000 in
theorem b_X0_setMargins (l : Launch) (D : va_G) (cA : ClassId) (hl9 : l.stackTraces = false) (a : Nat → Nat) (F : Nat → Nat → Int32) (g : Nat → Int32) (N : Nat) (hW : wf F N) (z0 z1 z2 z3 : Int32) (hk : kMargins z0 z1 z2 z3 ≠ 0) : Bx l D cA (wX a cA F g) yX0_setMargins wsX0_setMargins rbX0_setMargins [.ref (a 16), .int z0, .int z1, .int z2, .int z3] (exN (kMargins z0 z1 z2 z3) eI eA eS) := by
  refine Bx.of (cc := cX0_setMargins) (maxL := 5) (ret := none) (by decide) rfl (Nat.le_of_ble_eq_true rfl) ?_
  intro p e s m args below meth c ls hx hb hts hown hml hK hP hl htab hlocks hZ
  have hown : s.vm.findClass RX0 = some m.cls := hown
  have hi : ∀ w ∈ wsX00, w ∈ wsX0_setMargins := by decide +kernel
  have hl : lv_has ls 5 [(0, .ref (a 16)), (1, .int z0), (2, .int z1), (3, .int z2), (4, .int z3)] := hl
  have hN : N ≤ 80 := hW.n
  have hc : F 7 0 = nI N := hW.c
  refine lv_iload_n hx hb dX0_setMargins_0 rfl (lv_at hl 1 rfl) ?_
  refine lv_iconst (v := 4) hx hb dX0_setMargins_1 (by decide) ?_
  refine (Classical.em (cI z0 4)).elim (fun h1 => ?_) (fun h1 => ?_)
  rotate_left
  rw [show exN (kMargins z0 z1 z2 z3) eI eA eS = eI from by rw [kMargins, if_neg h1]; rfl]
  exact Bx.thruS (rest := []) ⟨hx, hb, hml, hown, hts⟩ htab hlocks (b_X0_needOneOf l D cA hl9 z0 4 (cI_n h1)) (va_cwS 2 hts gX0_setMargins_X0_needOneOf rfl rfl rfl (by decide +kernel) ⟨Nat.le_of_ble_eq_true rfl, Nat.le_of_ble_eq_true rfl⟩) hK noP hZ rfl rfl hl.1 (Nat.le_of_ble_eq_true rfl) dX0_setMargins_2 ⟨Nat.le_of_ble_eq_true rfl, Nat.le_of_ble_eq_true rfl⟩
  refine Ru.callS (rest := []) ⟨hx, hb, hml, hown, hts⟩ (c_X0_needOneOf l D cA z0 4 h1.1 h1.2) (va_cwS 2 hts gX0_setMargins_X0_needOneOf rfl rfl rfl (by decide +kernel) ⟨Nat.le_of_ble_eq_true rfl, Nat.le_of_ble_eq_true rfl⟩) hK noP rfl rfl hl.1 (Nat.le_of_ble_eq_true rfl) dX0_setMargins_2 ⟨Nat.zero_le _, Nat.zero_le _⟩ ?_
  refine lv_iload_n hx hb dX0_setMargins_5 rfl (lv_at hl 2 rfl) ?_
  refine lv_iconst (v := 0) hx hb dX0_setMargins_6 (by decide) ?_
  refine lv_bipush (v := 100) hx hb dX0_setMargins_7 (by decide) ?_
  refine (Classical.em (cR z1 0 100)).elim (fun h2 => ?_) (fun h2 => ?_)
  rotate_left
  rw [show exN (kMargins z0 z1 z2 z3) eI eA eS = eA from by rw [kMargins, if_pos h1, if_neg h2]; rfl]
  exact Bx.thruS (rest := []) ⟨hx, hb, hml, hown, hts⟩ htab hlocks (b_X0_needRange l D cA hl9 z1 0 100 (cR_n h2)) (va_cwS 3 hts gX0_setMargins_X0_needRange rfl rfl rfl (by decide +kernel) ⟨Nat.le_of_ble_eq_true rfl, Nat.le_of_ble_eq_true rfl⟩) hK noP hZ rfl rfl hl.1 (Nat.le_of_ble_eq_true rfl) dX0_setMargins_9 ⟨Nat.le_of_ble_eq_true rfl, Nat.le_of_ble_eq_true rfl⟩
  refine Ru.callS (rest := []) ⟨hx, hb, hml, hown, hts⟩ (c_X0_needRange l D cA z1 0 100 h2.1 h2.2) (va_cwS 3 hts gX0_setMargins_X0_needRange rfl rfl rfl (by decide +kernel) ⟨Nat.le_of_ble_eq_true rfl, Nat.le_of_ble_eq_true rfl⟩) hK noP rfl rfl hl.1 (Nat.le_of_ble_eq_true rfl) dX0_setMargins_9 ⟨Nat.zero_le _, Nat.zero_le _⟩ ?_
  refine lv_iload_n hx hb dX0_setMargins_12 rfl (lv_at hl 3 rfl) ?_
  refine lv_iconst (v := 0) hx hb dX0_setMargins_13 (by decide) ?_
  refine lv_iload_n hx hb dX0_setMargins_14 rfl (lv_at hl 2 rfl) ?_
  refine (Classical.em (cR z2 0 z1)).elim (fun h3 => ?_) (fun h3 => ?_)
  rotate_left
  rw [show exN (kMargins z0 z1 z2 z3) eI eA eS = eA from by rw [kMargins, if_pos h1, if_pos h2, if_neg h3]; rfl]
  exact Bx.thruS (rest := []) ⟨hx, hb, hml, hown, hts⟩ htab hlocks (b_X0_needRange l D cA hl9 z2 0 z1 (cR_n h3)) (va_cwS 3 hts gX0_setMargins_X0_needRange rfl rfl rfl (by decide +kernel) ⟨Nat.le_of_ble_eq_true rfl, Nat.le_of_ble_eq_true rfl⟩) hK noP hZ rfl rfl hl.1 (Nat.le_of_ble_eq_true rfl) dX0_setMargins_15 ⟨Nat.le_of_ble_eq_true rfl, Nat.le_of_ble_eq_true rfl⟩
  refine Ru.callS (rest := []) ⟨hx, hb, hml, hown, hts⟩ (c_X0_needRange l D cA z2 0 z1 h3.1 h3.2) (va_cwS 3 hts gX0_setMargins_X0_needRange rfl rfl rfl (by decide +kernel) ⟨Nat.le_of_ble_eq_true rfl, Nat.le_of_ble_eq_true rfl⟩) hK noP rfl rfl hl.1 (Nat.le_of_ble_eq_true rfl) dX0_setMargins_15 ⟨Nat.zero_le _, Nat.zero_le _⟩ ?_
  refine lv_iload hx hb dX0_setMargins_18 (lv_at hl 4 rfl) ?_
  refine lv_iconst (v := 1) hx hb dX0_setMargins_20 (by decide) ?_
  refine lv_sipush (v := 1000) hx hb dX0_setMargins_21 (by decide) ?_
  refine (Classical.em (cR z3 1 1000)).elim (fun h4 => ?_) (fun h4 => ?_)
  rotate_left
  rw [show exN (kMargins z0 z1 z2 z3) eI eA eS = eA from by rw [kMargins, if_pos h1, if_pos h2, if_pos h3, if_neg h4]; rfl]
  exact Bx.thruS (rest := []) ⟨hx, hb, hml, hown, hts⟩ htab hlocks (b_X0_needRange l D cA hl9 z3 1 1000 (cR_n h4)) (va_cwS 3 hts gX0_setMargins_X0_needRange rfl rfl rfl (by decide +kernel) ⟨Nat.le_of_ble_eq_true rfl, Nat.le_of_ble_eq_true rfl⟩) hK noP hZ rfl rfl hl.1 (Nat.le_of_ble_eq_true rfl) dX0_setMargins_24 ⟨Nat.le_of_ble_eq_true rfl, Nat.le_of_ble_eq_true rfl⟩
  exact absurd (by rw [kMargins, if_pos h1, if_pos h2, if_pos h3, if_pos h4]) hk

set_option maxHeartbeats 4000000 in
set_option maxRecDepth 100000 in
theorem c_X0_setEqual (l : Launch) (D : va_G) (cA : ClassId) (a : Nat → Nat) (F : Nat → Nat → Int32) (g : Nat → Int32) (N : Nat) (hW : wf F N) (z0 z1 : Int32) (h1 : cR z0 1 12) (h2 : cR z1 0 6) : Wv l D cA (S := Unit) (wX a cA F g) (fun _ => wX a cA (fUp (fUp F 5 0 z0) 6 0 z1) g) yX0_setEqual wsX0_setEqual rmX0_setEqual [.ref (a 16), .int z0, .int z1] (fun _ => True) := by
  refine Wv.of (cc := cX0_setEqual) (maxL := 3) (by decide) rfl (Nat.le_of_ble_eq_true rfl) ?_
  intro p e s m args below meth c ls A Q hx hb hts hown hml hK hP hD hA hS hl hend
  have hown : s.vm.findClass RX0 = some m.cls := hown
  have hi : ∀ w ∈ wsX00, w ∈ wsX0_setEqual := by decide +kernel
  have hl : lv_has ls 3 [(0, .ref (a 16)), (1, .int z0), (2, .int z1)] := hl
  have hN : N ≤ 80 := hW.n
  have hc : F 7 0 = nI N := hW.c
  refine lv_iload_n hx hb dX0_setEqual_0 rfl (lv_at hl 1 rfl) ?_
  refine lv_iconst (v := 1) hx hb dX0_setEqual_1 (by decide) ?_
  refine lv_bipush (v := 12) hx hb dX0_setEqual_2 (by decide) ?_
  refine Ru.callS (rest := []) ⟨hx, hb, hml, hown, hts⟩ (c_X0_needRange l D cA z0 1 12 h1.1 h1.2) (va_cwS 3 hts gX0_setEqual_X0_needRange rfl rfl rfl (by decide +kernel) ⟨Nat.le_of_ble_eq_true rfl, Nat.le_of_ble_eq_true rfl⟩) hK noP rfl rfl hl.1 (Nat.le_of_ble_eq_true rfl) dX0_setEqual_4 ⟨Nat.zero_le _, Nat.zero_le _⟩ ?_
  refine lv_iload_n hx hb dX0_setEqual_7 rfl (lv_at hl 2 rfl) ?_
  refine lv_iconst (v := 0) hx hb dX0_setEqual_8 (by decide) ?_
  refine lv_bipush (v := 6) hx hb dX0_setEqual_9 (by decide) ?_
  refine Ru.callS (rest := []) ⟨hx, hb, hml, hown, hts⟩ (c_X0_needRange l D cA z1 0 6 h2.1 h2.2) (va_cwS 3 hts gX0_setEqual_X0_needRange rfl rfl rfl (by decide +kernel) ⟨Nat.le_of_ble_eq_true rfl, Nat.le_of_ble_eq_true rfl⟩) hK noP rfl rfl hl.1 (Nat.le_of_ble_eq_true rfl) dX0_setEqual_11 ⟨Nat.zero_le _, Nat.zero_le _⟩ ?_
  refine lv_aload_n hx hb dX0_setEqual_14 rfl (lv_at hl 0 rfl) ?_
  refine lv_iload_n hx hb dX0_setEqual_15 rfl (lv_at hl 1 rfl) ?_
  refine va_put (D := D) (ci := 0) (v := .int z0) (ty := .int) (C := RX0) (T := TX0) (N := 16) hx hb hts hi tyX0 tyX0_ok nmX0 hown hK hP hD hS 0 rfl rfl 5 (by decide) (hts (.fieldLink RX0 25 "AssignmentHouse" "equalSpan" "I") (by decide +kernel)) (fun _ h9 => h9) rfl (by decide +kernel) rfl rfl (Nat.le_of_ble_eq_true rfl) dX0_setEqual_16 (fun H locs hP hD hS => ?_)
  have hP : va_P D vwCl (wX a cA (fUp F 5 0 z0) g) H := hP
  have hD : va_D A (wX a cA (fUp F 5 0 z0) g) := hD
  refine lv_aload_n hx hb dX0_setEqual_19 rfl (lv_at hl 0 rfl) ?_
  refine lv_iload_n hx hb dX0_setEqual_20 rfl (lv_at hl 2 rfl) ?_
  refine va_put (D := D) (ci := 0) (v := .int z1) (ty := .int) (C := RX0) (T := TX0) (N := 16) hx hb hts hi tyX0 tyX0_ok nmX0 hown hK hP hD hS 0 rfl rfl 6 (by decide) (hts (.fieldLink RX0 29 "AssignmentHouse" "equalGap" "I") (by decide +kernel)) (fun _ h9 => h9) rfl (by decide +kernel) rfl rfl (Nat.le_of_ble_eq_true rfl) dX0_setEqual_21 (fun H locs hP hD hS => ?_)
  have hP : va_P D vwCl (wX a cA (fUp (fUp F 5 0 z0) 6 0 z1) g) H := hP
  have hD : va_D A (wX a cA (fUp (fUp F 5 0 z0) 6 0 z1) g) := hD
  exact hend 24 ls (()) _ _ dX0_setEqual_24 hP hD hS (trivial)

set_option maxHeartbeats 4000000 in
set_option maxRecDepth 100000 in
theorem b_X0_setEqual (l : Launch) (D : va_G) (cA : ClassId) (hl9 : l.stackTraces = false) (a : Nat → Nat) (F : Nat → Nat → Int32) (g : Nat → Int32) (N : Nat) (hW : wf F N) (z0 z1 : Int32) (hk : kEqual z0 z1 ≠ 0) : Bx l D cA (wX a cA F g) yX0_setEqual wsX0_setEqual rbX0_setEqual [.ref (a 16), .int z0, .int z1] (exN (kEqual z0 z1) eA eA eA) := by
  refine Bx.of (cc := cX0_setEqual) (maxL := 3) (ret := none) (by decide) rfl (Nat.le_of_ble_eq_true rfl) ?_
  intro p e s m args below meth c ls hx hb hts hown hml hK hP hl htab hlocks hZ
  have hown : s.vm.findClass RX0 = some m.cls := hown
  have hi : ∀ w ∈ wsX00, w ∈ wsX0_setEqual := by decide +kernel
  have hl : lv_has ls 3 [(0, .ref (a 16)), (1, .int z0), (2, .int z1)] := hl
  have hN : N ≤ 80 := hW.n
  have hc : F 7 0 = nI N := hW.c
  refine lv_iload_n hx hb dX0_setEqual_0 rfl (lv_at hl 1 rfl) ?_
  refine lv_iconst (v := 1) hx hb dX0_setEqual_1 (by decide) ?_
  refine lv_bipush (v := 12) hx hb dX0_setEqual_2 (by decide) ?_
  refine (Classical.em (cR z0 1 12)).elim (fun h1 => ?_) (fun h1 => ?_)
  rotate_left
  rw [show exN (kEqual z0 z1) eA eA eA = eA from by rw [kEqual, if_neg h1]; rfl]
  exact Bx.thruS (rest := []) ⟨hx, hb, hml, hown, hts⟩ htab hlocks (b_X0_needRange l D cA hl9 z0 1 12 (cR_n h1)) (va_cwS 3 hts gX0_setEqual_X0_needRange rfl rfl rfl (by decide +kernel) ⟨Nat.le_of_ble_eq_true rfl, Nat.le_of_ble_eq_true rfl⟩) hK noP hZ rfl rfl hl.1 (Nat.le_of_ble_eq_true rfl) dX0_setEqual_4 ⟨Nat.le_of_ble_eq_true rfl, Nat.le_of_ble_eq_true rfl⟩
  refine Ru.callS (rest := []) ⟨hx, hb, hml, hown, hts⟩ (c_X0_needRange l D cA z0 1 12 h1.1 h1.2) (va_cwS 3 hts gX0_setEqual_X0_needRange rfl rfl rfl (by decide +kernel) ⟨Nat.le_of_ble_eq_true rfl, Nat.le_of_ble_eq_true rfl⟩) hK noP rfl rfl hl.1 (Nat.le_of_ble_eq_true rfl) dX0_setEqual_4 ⟨Nat.zero_le _, Nat.zero_le _⟩ ?_
  refine lv_iload_n hx hb dX0_setEqual_7 rfl (lv_at hl 2 rfl) ?_
  refine lv_iconst (v := 0) hx hb dX0_setEqual_8 (by decide) ?_
  refine lv_bipush (v := 6) hx hb dX0_setEqual_9 (by decide) ?_
  refine (Classical.em (cR z1 0 6)).elim (fun h2 => ?_) (fun h2 => ?_)
  rotate_left
  rw [show exN (kEqual z0 z1) eA eA eA = eA from by rw [kEqual, if_pos h1, if_neg h2]; rfl]
  exact Bx.thruS (rest := []) ⟨hx, hb, hml, hown, hts⟩ htab hlocks (b_X0_needRange l D cA hl9 z1 0 6 (cR_n h2)) (va_cwS 3 hts gX0_setEqual_X0_needRange rfl rfl rfl (by decide +kernel) ⟨Nat.le_of_ble_eq_true rfl, Nat.le_of_ble_eq_true rfl⟩) hK noP hZ rfl rfl hl.1 (Nat.le_of_ble_eq_true rfl) dX0_setEqual_11 ⟨Nat.le_of_ble_eq_true rfl, Nat.le_of_ble_eq_true rfl⟩
  exact absurd (by rw [kEqual, if_pos h1, if_pos h2]) hk


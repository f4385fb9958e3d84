/-! the class: its other public methods; by program (wip/whole/gen) -/
abbrev rmX0_shift : Room := { frames := 2, cells := 0, slots := 0, locals := 45 }
abbrev rbX0_shift : Room := { frames := 7, cells := 1, slots := 6, locals := 112 }
abbrev rmX0_correct : Room := { frames := 2, cells := 0, slots := 0, locals := 45 }
abbrev rbX0_correct : Room := { frames := 7, cells := 1, slots := 6, locals := 112 }
abbrev rmX0_takeHoliday : Room := { frames := 2, cells := 0, slots := 0, locals := 44 }
abbrev rbX0_takeHoliday : Room := { frames := 7, cells := 1, slots := 6, locals := 112 }
abbrev rmX0_holiday : Room := { frames := 2, cells := 0, slots := 0, locals := 44 }
abbrev rbX0_holiday : Room := { frames := 7, cells := 1, slots := 6, locals := 111 }
abbrev rmX0_hours : Room := { frames := 2, cells := 0, slots := 0, locals := 44 }
abbrev rbX0_hours : Room := { frames := 7, cells := 1, slots := 6, locals := 111 }
abbrev rmX0_paid : Room := { frames := 2, cells := 0, slots := 0, locals := 41 }
abbrev rbX0_paid : Room := { frames := 7, cells := 1, slots := 6, locals := 111 }
abbrev rmX0_billed : Room := { frames := 2, cells := 0, slots := 0, locals := 41 }
abbrev rbX0_billed : Room := { frames := 7, cells := 1, slots := 6, locals := 111 }
abbrev rmX0_pay : Room := { frames := 6, cells := 0, slots := 0, locals := 145 }
abbrev rbX0_pay : Room := { frames := 7, cells := 1, slots := 6, locals := 145 }
abbrev rmX0_owing : Room := { frames := 6, cells := 0, slots := 0, locals := 145 }
abbrev rbX0_owing : Room := { frames := 7, cells := 1, slots := 6, locals := 145 }
abbrev rmX0_toBill : Room := { frames := 6, cells := 0, slots := 0, locals := 146 }
abbrev rbX0_toBill : Room := { frames := 7, cells := 1, slots := 6, locals := 146 }
abbrev rmX0_hasEqual : Room := { frames := 3, cells := 0, slots := 0, locals := 72 }
abbrev rbX0_hasEqual : Room := { frames := 7, cells := 1, slots := 6, locals := 111 }
abbrev rmX0_overtime : Room := { frames := 4, cells := 0, slots := 0, locals := 97 }
abbrev rbX0_overtime : Room := { frames := 7, cells := 1, slots := 6, locals := 111 }
abbrev rmX0_payOf : Room := { frames := 5, cells := 0, slots := 0, locals := 121 }
abbrev rbX0_payOf : Room := { frames := 7, cells := 1, slots := 6, locals := 121 }
abbrev rmX0_chargeOf : Room := { frames := 5, cells := 0, slots := 0, locals := 121 }
abbrev rbX0_chargeOf : Room := { frames := 7, cells := 1, slots := 6, locals := 121 }
abbrev rmX0_run : Room := { frames := 6, cells := 0, slots := 0, locals := 146 }
abbrev rbX0_run : Room := { frames := 7, cells := 1, slots := 6, locals := 146 }
set_option maxHeartbeats 4000000 in
set_option maxRecDepth 100000 in
theorem c_X0_shift (l : Launch) (D : va_G) (cA : ClassId) (a : Nat → Nat) (F : Nat → Nat → Int32) (g : Nat → Int32) (N : Nat) (hW : wf F N) (z0 z1 z2 z3 : Int32) (h1 : cI z0 6) (h2 : cI z1 4) (h3 : cR z2 0 139) (h4 : cR z3 1 16) (h5 : F 7 0 < 80) (h6 : ps (tOn F z0 z2) N + z3 ≤ 24) : Wi l D cA (S := Unit) (wX a cA F g) (fun _ => wX a cA (fShift F N z0 z1 z2 z3) g) yX0_shift wsX0_shift rmX0_shift [.ref (a 16), .int z0, .int z1, .int z2, .int z3] (fun r _ => r = F 7 0) := by
  refine Wi.of (cc := cX0_shift) (maxL := 6) (by decide) rfl (Nat.le_of_ble_eq_true rfl) ?_
  intro p e s m args below meth c ls A Q hx hb hts hown hml hK hP hD hA hS hl hend
  have hown : s.vm.findClass RX0 = some m.cls := hown
  have hi : ∀ w ∈ wsX00, w ∈ wsX0_shift := by decide +kernel
  have hl : lv_has ls 6 [(0, .ref (a 16)), (1, .int z0), (2, .int z1), (3, .int z2), (4, .int z3)] := hl
  have hN : N ≤ 80 := hW.n
  have hc : F 7 0 = nI N := hW.c
  have hN80 : N < 80 := (nI_ltI (by omega) (by omega)).mp (by rw [← hc]; exact h5)
  refine lv_iload_n hx hb dX0_shift_0 rfl (lv_at hl 1 rfl) ?_
  refine lv_bipush (v := 6) hx hb dX0_shift_1 (by decide) ?_
  refine Ru.callS (rest := []) ⟨hx, hb, hml, hown, hts⟩ (c_X0_needOneOf l D cA z0 6 h1.1 h1.2) (va_cwS 2 hts gX0_shift_X0_needOneOf rfl rfl rfl (by decide +kernel) ⟨Nat.le_of_ble_eq_true rfl, Nat.le_of_ble_eq_true rfl⟩) hK noP rfl rfl hl.1 (Nat.le_of_ble_eq_true rfl) dX0_shift_3 ⟨Nat.zero_le _, Nat.zero_le _⟩ ?_
  refine lv_iload_n hx hb dX0_shift_6 rfl (lv_at hl 2 rfl) ?_
  refine lv_iconst (v := 4) hx hb dX0_shift_7 (by decide) ?_
  refine Ru.callS (rest := []) ⟨hx, hb, hml, hown, hts⟩ (c_X0_needOneOf l D cA z1 4 h2.1 h2.2) (va_cwS 2 hts gX0_shift_X0_needOneOf rfl rfl rfl (by decide +kernel) ⟨Nat.le_of_ble_eq_true rfl, Nat.le_of_ble_eq_true rfl⟩) hK noP rfl rfl hl.1 (Nat.le_of_ble_eq_true rfl) dX0_shift_8 ⟨Nat.zero_le _, Nat.zero_le _⟩ ?_
  refine lv_iload_n hx hb dX0_shift_11 rfl (lv_at hl 3 rfl) ?_
  refine lv_iconst (v := 0) hx hb dX0_shift_12 (by decide) ?_
  refine lv_sipush (v := 139) hx hb dX0_shift_13 (by decide) ?_
  refine Ru.callS (rest := []) ⟨hx, hb, hml, hown, hts⟩ (c_X0_needRange l D cA z2 0 139 h3.1 h3.2) (va_cwS 3 hts gX0_shift_X0_needRange rfl rfl rfl (by decide +kernel) ⟨Nat.le_of_ble_eq_true rfl, Nat.le_of_ble_eq_true rfl⟩) hK noP rfl rfl hl.1 (Nat.le_of_ble_eq_true rfl) dX0_shift_16 ⟨Nat.zero_le _, Nat.zero_le _⟩ ?_
  refine lv_iload hx hb dX0_shift_19 (lv_at hl 4 rfl) ?_
  refine lv_iconst (v := 1) hx hb dX0_shift_21 (by decide) ?_
  refine lv_bipush (v := 16) hx hb dX0_shift_22 (by decide) ?_
  refine Ru.callS (rest := []) ⟨hx, hb, hml, hown, hts⟩ (c_X0_needRange l D cA z3 1 16 h4.1 h4.2) (va_cwS 3 hts gX0_shift_X0_needRange rfl rfl rfl (by decide +kernel) ⟨Nat.le_of_ble_eq_true rfl, Nat.le_of_ble_eq_true rfl⟩) hK noP rfl rfl hl.1 (Nat.le_of_ble_eq_true rfl) dX0_shift_24 ⟨Nat.zero_le _, Nat.zero_le _⟩ ?_
  refine lv_aload_n hx hb dX0_shift_27 rfl (lv_at hl 0 rfl) ?_
  refine va_get (D := D) (ci := 0) (v := .int (F 7 0)) (C := RX0) (T := TX0) (N := 16) hx hb hts hi hown hK hP 0 rfl rfl 7 (by decide) (hts (.fieldLink RX0 32 "AssignmentHouse" "shiftCount" "I") (by decide +kernel)) (fun _ h9 => h9) rfl dX0_shift_28 ?_
  refine lv_bipush (v := 80) hx hb dX0_shift_31 (by decide) ?_
  refine lv_icmp_ge (tgt := 40) hx hb dX0_shift_33 (by decide) (fun c_33 => (absurd c_33 (Int32.not_le.mpr h5) : False).elim) (fun c_33 => ?_)
  refine lv_iconst (v := 1) hx hb dX0_shift_36 (by decide) ?_
  refine lv_goto (tgt := 41) hx hb dX0_shift_37 (by decide) ?_
  refine Ru.callS (rest := []) ⟨hx, hb, hml, hown, hts⟩ (c_X0_needState l D cA 1 (by decide)) (va_cwS 1 hts gX0_shift_X0_needState rfl rfl rfl (by decide +kernel) ⟨Nat.le_of_ble_eq_true rfl, Nat.le_of_ble_eq_true rfl⟩) hK noP rfl rfl hl.1 (Nat.le_of_ble_eq_true rfl) dX0_shift_41 ⟨Nat.zero_le _, Nat.zero_le _⟩ ?_
  refine lv_aload_n hx hb dX0_shift_44 rfl (lv_at hl 0 rfl) ?_
  refine lv_iload_n hx hb dX0_shift_45 rfl (lv_at hl 1 rfl) ?_
  refine lv_iload_n hx hb dX0_shift_46 rfl (lv_at hl 3 rfl) ?_
  refine Rd.callV (rest := []) (q0 := 0) (ci := 0) ⟨hx, hb, hml, hown, hts⟩ (c_X0_hoursOnDay l D cA a F g N hW z0 z2) (cwV 2 hts gX0_shift_X0_hoursOnDay rfl rfl rfl (by decide +kernel) ⟨Nat.le_of_ble_eq_true rfl, Nat.le_of_ble_eq_true rfl⟩) hK hP rfl rfl rfl rfl rfl hl.1 (Nat.le_of_ble_eq_true rfl) dX0_shift_47 ⟨Nat.zero_le _, Nat.zero_le _⟩ ?_
  refine lv_iload hx hb dX0_shift_50 (lv_at hl 4 rfl) ?_
  refine lv_iadd hx hb dX0_shift_52 ?_
  refine lv_bipush (v := 24) hx hb dX0_shift_53 (by decide) ?_
  refine lv_icmp_gt (tgt := 62) hx hb dX0_shift_55 (by decide) (fun c_55 => (absurd c_55 (Int32.not_lt.mpr h6) : False).elim) (fun c_55 => ?_)
  refine lv_iconst (v := 1) hx hb dX0_shift_58 (by decide) ?_
  refine lv_goto (tgt := 63) hx hb dX0_shift_59 (by decide) ?_
  refine Ru.callS (rest := []) ⟨hx, hb, hml, hown, hts⟩ (c_X0_needState l D cA 1 (by decide)) (va_cwS 1 hts gX0_shift_X0_needState rfl rfl rfl (by decide +kernel) ⟨Nat.le_of_ble_eq_true rfl, Nat.le_of_ble_eq_true rfl⟩) hK noP rfl rfl hl.1 (Nat.le_of_ble_eq_true rfl) dX0_shift_63 ⟨Nat.zero_le _, Nat.zero_le _⟩ ?_
  refine lv_aload_n hx hb dX0_shift_66 rfl (lv_at hl 0 rfl) ?_
  refine va_get (D := D) (ci := 0) (v := .int (F 7 0)) (C := RX0) (T := TX0) (N := 16) hx hb hts hi hown hK hP 0 rfl rfl 7 (by decide) (hts (.fieldLink RX0 32 "AssignmentHouse" "shiftCount" "I") (by decide +kernel)) (fun _ h9 => h9) rfl dX0_shift_67 ?_
  refine lv_istore (lv' := [(5, .int (F 7 0)), (0, .ref (a 16)), (1, .int z0), (2, .int z1), (3, .int z2), (4, .int z3)]) hx hb dX0_shift_70 hl (by decide) rfl (fun ls hl => ?_)
  refine lv_aload_n hx hb dX0_shift_72 rfl (lv_at hl 1 rfl) ?_
  refine va_get (D := D) (ci := 0) (v := .ref (a 8)) (C := RX0) (T := TX0) (N := 16) hx hb hts hi hown hK hP 0 rfl rfl 8 (by decide) (hts (.fieldLink RX0 35 "AssignmentHouse" "workerOf" "[I") (by decide +kernel)) (fun _ h9 => h9) rfl dX0_shift_73 ?_
  refine lv_iload hx hb dX0_shift_76 (lv_at hl 0 rfl) ?_
  refine lv_iload_n hx hb dX0_shift_78 rfl (lv_at hl 2 rfl) ?_
  refine put_call (k := 6) (b := a 8) (n := 80) (f := (F 8)) (x := (F 7 0)) (j := N) (v := z0) (rest := []) ⟨hx, hb, hml, hown, hts⟩ gX0_shift_X0_put hK hP hD hS hA rfl (hc) (hN80) (by decide) hl.1 (Nat.le_of_ble_eq_true rfl) dX0_shift_79 ⟨Nat.zero_le _, Nat.zero_le _⟩ ⟨Nat.le_of_ble_eq_true rfl, Nat.le_of_ble_eq_true rfl⟩ (fun H locs hP hD hS => ?_)
  have hP : va_P D vwCl (wX a cA (fUp F 8 N z0) g) H := hP
  have hD : va_D A (wX a cA (fUp F 8 N z0) g) := hD
  refine lv_aload_n hx hb dX0_shift_82 rfl (lv_at hl 1 rfl) ?_
  refine va_get (D := D) (ci := 0) (v := .ref (a 9)) (C := RX0) (T := TX0) (N := 16) hx hb hts hi hown hK hP 0 rfl rfl 9 (by decide) (hts (.fieldLink RX0 38 "AssignmentHouse" "siteOf" "[I") (by decide +kernel)) (fun _ h9 => h9) rfl dX0_shift_83 ?_
  refine lv_iload hx hb dX0_shift_86 (lv_at hl 0 rfl) ?_
  refine lv_iload_n hx hb dX0_shift_88 rfl (lv_at hl 3 rfl) ?_
  refine put_call (k := 7) (b := a 9) (n := 80) (f := ((fUp F 8 N z0) 9)) (x := (F 7 0)) (j := N) (v := z1) (rest := []) ⟨hx, hb, hml, hown, hts⟩ gX0_shift_X0_put hK hP hD hS hA rfl (hc) (hN80) (by decide) hl.1 (Nat.le_of_ble_eq_true rfl) dX0_shift_89 ⟨Nat.zero_le _, Nat.zero_le _⟩ ⟨Nat.le_of_ble_eq_true rfl, Nat.le_of_ble_eq_true rfl⟩ (fun H locs hP hD hS => ?_)
  have hP : va_P D vwCl (wX a cA (fUp (fUp F 8 N z0) 9 N z1) g) H := hP
  have hD : va_D A (wX a cA (fUp (fUp F 8 N z0) 9 N z1) g) := hD
  refine lv_aload_n hx hb dX0_shift_92 rfl (lv_at hl 1 rfl) ?_
  refine va_get (D := D) (ci := 0) (v := .ref (a 10)) (C := RX0) (T := TX0) (N := 16) hx hb hts hi hown hK hP 0 rfl rfl 10 (by decide) (hts (.fieldLink RX0 41 "AssignmentHouse" "dayOf" "[I") (by decide +kernel)) (fun _ h9 => h9) rfl dX0_shift_93 ?_
  refine lv_iload hx hb dX0_shift_96 (lv_at hl 0 rfl) ?_
  refine lv_iload_n hx hb dX0_shift_98 rfl (lv_at hl 4 rfl) ?_
  refine put_call (k := 8) (b := a 10) (n := 80) (f := ((fUp (fUp F 8 N z0) 9 N z1) 10)) (x := (F 7 0)) (j := N) (v := z2) (rest := []) ⟨hx, hb, hml, hown, hts⟩ gX0_shift_X0_put hK hP hD hS hA rfl (hc) (hN80) (by decide) hl.1 (Nat.le_of_ble_eq_true rfl) dX0_shift_99 ⟨Nat.zero_le _, Nat.zero_le _⟩ ⟨Nat.le_of_ble_eq_true rfl, Nat.le_of_ble_eq_true rfl⟩ (fun H locs hP hD hS => ?_)
  have hP : va_P D vwCl (wX a cA (fUp (fUp (fUp F 8 N z0) 9 N z1) 10 N z2) g) H := hP
  have hD : va_D A (wX a cA (fUp (fUp (fUp F 8 N z0) 9 N z1) 10 N z2) g) := hD
  refine lv_aload_n hx hb dX0_shift_102 rfl (lv_at hl 1 rfl) ?_
  refine va_get (D := D) (ci := 0) (v := .ref (a 11)) (C := RX0) (T := TX0) (N := 16) hx hb hts hi hown hK hP 0 rfl rfl 11 (by decide) (hts (.fieldLink RX0 44 "AssignmentHouse" "hoursOf" "[I") (by decide +kernel)) (fun _ h9 => h9) rfl dX0_shift_103 ?_
  refine lv_iload hx hb dX0_shift_106 (lv_at hl 0 rfl) ?_
  refine lv_iload hx hb dX0_shift_108 (lv_at hl 5 rfl) ?_
  refine put_call (k := 9) (b := a 11) (n := 80) (f := ((fUp (fUp (fUp F 8 N z0) 9 N z1) 10 N z2) 11)) (x := (F 7 0)) (j := N) (v := z3) (rest := []) ⟨hx, hb, hml, hown, hts⟩ gX0_shift_X0_put hK hP hD hS hA rfl (hc) (hN80) (by decide) hl.1 (Nat.le_of_ble_eq_true rfl) dX0_shift_110 ⟨Nat.zero_le _, Nat.zero_le _⟩ ⟨Nat.le_of_ble_eq_true rfl, Nat.le_of_ble_eq_true rfl⟩ (fun H locs hP hD hS => ?_)
  have hP : va_P D vwCl (wX a cA (fUp (fUp (fUp (fUp F 8 N z0) 9 N z1) 10 N z2) 11 N z3) g) H := hP
  have hD : va_D A (wX a cA (fUp (fUp (fUp (fUp F 8 N z0) 9 N z1) 10 N z2) 11 N z3) g) := hD
  refine lv_aload_n hx hb dX0_shift_113 rfl (lv_at hl 1 rfl) ?_
  refine lv_iload hx hb dX0_shift_114 (lv_at hl 0 rfl) ?_
  refine lv_iconst (v := 1) hx hb dX0_shift_116 (by decide) ?_
  refine lv_iadd hx hb dX0_shift_117 ?_
  refine va_put (D := D) (ci := 0) (v := .int ((F 7 0) + 1)) (ty := .int) (C := RX0) (T := TX0) (N := 16) hx hb hts hi tyX0 tyX0_ok nmX0 hown hK hP hD hS 0 rfl rfl 7 (by decide) (hts (.fieldLink RX0 32 "AssignmentHouse" "shiftCount" "I") (by decide +kernel)) (fun _ h9 => h9) rfl (by decide +kernel) rfl rfl (Nat.le_of_ble_eq_true rfl) dX0_shift_118 (fun H locs hP hD hS => ?_)
  have hP : va_P D vwCl (wX a cA (fUp (fUp (fUp (fUp (fUp F 8 N z0) 9 N z1) 10 N z2) 11 N z3) 7 0 ((F 7 0) + 1)) g) H := hP
  have hD : va_D A (wX a cA (fUp (fUp (fUp (fUp (fUp F 8 N z0) 9 N z1) 10 N z2) 11 N z3) 7 0 ((F 7 0) + 1)) g) := hD
  refine lv_iload hx hb dX0_shift_121 (lv_at hl 0 rfl) ?_
  exact hend 123 ls _ (()) _ _ dX0_shift_123 hP hD hS (rfl)

set_option maxHeartbeats 4000000 in
set_option maxRecDepth 100000 in
theorem b_X0_shift (l : Launch) (D : va_G) (cA : ClassId) (hl9 : l.stackTraces = false) (a : Nat → Nat) (F : Nat → Nat → Int32) (g : Nat → Int32) (N : Nat) (hW : wf F N) (z0 z1 z2 z3 : Int32) (hk : kShift F N z0 z1 z2 z3 ≠ 0) : Bx l D cA (wX a cA F g) yX0_shift wsX0_shift rbX0_shift [.ref (a 16), .int z0, .int z1, .int z2, .int z3] (exN (kShift F N z0 z1 z2 z3) eI eA eS) := by
  refine Bx.of (cc := cX0_shift) (maxL := 6) (ret := (some .int)) (by decide) rfl (Nat.le_of_ble_eq_true rfl) ?_
  intro p e s m args below meth c ls hx hb hts hown hml hK hP hl htab hlocks hZ
  have hown : s.vm.findClass RX0 = some m.cls := hown
  have hi : ∀ w ∈ wsX00, w ∈ wsX0_shift := by decide +kernel
  have hl : lv_has ls 6 [(0, .ref (a 16)), (1, .int z0), (2, .int z1), (3, .int z2), (4, .int z3)] := hl
  have hN : N ≤ 80 := hW.n
  have hc : F 7 0 = nI N := hW.c
  refine lv_iload_n hx hb dX0_shift_0 rfl (lv_at hl 1 rfl) ?_
  refine lv_bipush (v := 6) hx hb dX0_shift_1 (by decide) ?_
  refine (Classical.em (cI z0 6)).elim (fun h1 => ?_) (fun h1 => ?_)
  rotate_left
  rw [show exN (kShift F N z0 z1 z2 z3) eI eA eS = eI from by rw [kShift, if_neg h1]; rfl]
  exact Bx.thruS (rest := []) ⟨hx, hb, hml, hown, hts⟩ htab hlocks (b_X0_needOneOf l D cA hl9 z0 6 (cI_n h1)) (va_cwS 2 hts gX0_shift_X0_needOneOf rfl rfl rfl (by decide +kernel) ⟨Nat.le_of_ble_eq_true rfl, Nat.le_of_ble_eq_true rfl⟩) hK noP hZ rfl rfl hl.1 (Nat.le_of_ble_eq_true rfl) dX0_shift_3 ⟨Nat.le_of_ble_eq_true rfl, Nat.le_of_ble_eq_true rfl⟩
  refine Ru.callS (rest := []) ⟨hx, hb, hml, hown, hts⟩ (c_X0_needOneOf l D cA z0 6 h1.1 h1.2) (va_cwS 2 hts gX0_shift_X0_needOneOf rfl rfl rfl (by decide +kernel) ⟨Nat.le_of_ble_eq_true rfl, Nat.le_of_ble_eq_true rfl⟩) hK noP rfl rfl hl.1 (Nat.le_of_ble_eq_true rfl) dX0_shift_3 ⟨Nat.zero_le _, Nat.zero_le _⟩ ?_
  refine lv_iload_n hx hb dX0_shift_6 rfl (lv_at hl 2 rfl) ?_
  refine lv_iconst (v := 4) hx hb dX0_shift_7 (by decide) ?_
  refine (Classical.em (cI z1 4)).elim (fun h2 => ?_) (fun h2 => ?_)
  rotate_left
  rw [show exN (kShift F N z0 z1 z2 z3) eI eA eS = eI from by rw [kShift, if_pos h1, if_neg h2]; rfl]
  exact Bx.thruS (rest := []) ⟨hx, hb, hml, hown, hts⟩ htab hlocks (b_X0_needOneOf l D cA hl9 z1 4 (cI_n h2)) (va_cwS 2 hts gX0_shift_X0_needOneOf rfl rfl rfl (by decide +kernel) ⟨Nat.le_of_ble_eq_true rfl, Nat.le_of_ble_eq_true rfl⟩) hK noP hZ rfl rfl hl.1 (Nat.le_of_ble_eq_true rfl) dX0_shift_8 ⟨Nat.le_of_ble_eq_true rfl, Nat.le_of_ble_eq_true rfl⟩
  refine Ru.callS (rest := []) ⟨hx, hb, hml, hown, hts⟩ (c_X0_needOneOf l D cA z1 4 h2.1 h2.2) (va_cwS 2 hts gX0_shift_X0_needOneOf rfl rfl rfl (by decide +kernel) ⟨Nat.le_of_ble_eq_true rfl, Nat.le_of_ble_eq_true rfl⟩) hK noP rfl rfl hl.1 (Nat.le_of_ble_eq_true rfl) dX0_shift_8 ⟨Nat.zero_le _, Nat.zero_le _⟩ ?_
  refine lv_iload_n hx hb dX0_shift_11 rfl (lv_at hl 3 rfl) ?_
  refine lv_iconst (v := 0) hx hb dX0_shift_12 (by decide) ?_
  refine lv_sipush (v := 139) hx hb dX0_shift_13 (by decide) ?_
  refine (Classical.em (cR z2 0 139)).elim (fun h3 => ?_) (fun h3 => ?_)
  rotate_left
  rw [show exN (kShift F N z0 z1 z2 z3) eI eA eS = eA from by rw [kShift, if_pos h1, if_pos h2, if_neg h3]; rfl]
  exact Bx.thruS (rest := []) ⟨hx, hb, hml, hown, hts⟩ htab hlocks (b_X0_needRange l D cA hl9 z2 0 139 (cR_n h3)) (va_cwS 3 hts gX0_shift_X0_needRange rfl rfl rfl (by decide +kernel) ⟨Nat.le_of_ble_eq_true rfl, Nat.le_of_ble_eq_true rfl⟩) hK noP hZ rfl rfl hl.1 (Nat.le_of_ble_eq_true rfl) dX0_shift_16 ⟨Nat.le_of_ble_eq_true rfl, Nat.le_of_ble_eq_true rfl⟩
  refine Ru.callS (rest := []) ⟨hx, hb, hml, hown, hts⟩ (c_X0_needRange l D cA z2 0 139 h3.1 h3.2) (va_cwS 3 hts gX0_shift_X0_needRange rfl rfl rfl (by decide +kernel) ⟨Nat.le_of_ble_eq_true rfl, Nat.le_of_ble_eq_true rfl⟩) hK noP rfl rfl hl.1 (Nat.le_of_ble_eq_true rfl) dX0_shift_16 ⟨Nat.zero_le _, Nat.zero_le _⟩ ?_
  refine lv_iload hx hb dX0_shift_19 (lv_at hl 4 rfl) ?_
  refine lv_iconst (v := 1) hx hb dX0_shift_21 (by decide) ?_
  refine lv_bipush (v := 16) hx hb dX0_shift_22 (by decide) ?_
  refine (Classical.em (cR z3 1 16)).elim (fun h4 => ?_) (fun h4 => ?_)
  rotate_left
  rw [show exN (kShift F N z0 z1 z2 z3) eI eA eS = eA from by rw [kShift, if_pos h1, if_pos h2, if_pos h3, if_neg h4]; rfl]
  exact Bx.thruS (rest := []) ⟨hx, hb, hml, hown, hts⟩ htab hlocks (b_X0_needRange l D cA hl9 z3 1 16 (cR_n h4)) (va_cwS 3 hts gX0_shift_X0_needRange rfl rfl rfl (by decide +kernel) ⟨Nat.le_of_ble_eq_true rfl, Nat.le_of_ble_eq_true rfl⟩) hK noP hZ rfl rfl hl.1 (Nat.le_of_ble_eq_true rfl) dX0_shift_24 ⟨Nat.le_of_ble_eq_true rfl, Nat.le_of_ble_eq_true rfl⟩
  refine Ru.callS (rest := []) ⟨hx, hb, hml, hown, hts⟩ (c_X0_needRange l D cA z3 1 16 h4.1 h4.2) (va_cwS 3 hts gX0_shift_X0_needRange rfl rfl rfl (by decide +kernel) ⟨Nat.le_of_ble_eq_true rfl, Nat.le_of_ble_eq_true rfl⟩) hK noP rfl rfl hl.1 (Nat.le_of_ble_eq_true rfl) dX0_shift_24 ⟨Nat.zero_le _, Nat.zero_le _⟩ ?_
  refine lv_aload_n hx hb dX0_shift_27 rfl (lv_at hl 0 rfl) ?_
  refine va_get (D := D) (ci := 0) (v := .int (F 7 0)) (C := RX0) (T := TX0) (N := 16) hx hb hts hi hown hK hP 0 rfl rfl 7 (by decide) (hts (.fieldLink RX0 32 "AssignmentHouse" "shiftCount" "I") (by decide +kernel)) (fun _ h9 => h9) rfl dX0_shift_28 ?_
  refine lv_bipush (v := 80) hx hb dX0_shift_31 (by decide) ?_
  refine lv_icmp_ge (tgt := 40) hx hb dX0_shift_33 (by decide) (fun c_33 => ?_) (fun c_33 => ?_)
  · skip
    have h5 : ¬ F 7 0 < 80 := Int32.not_lt.mpr c_33
    refine lv_iconst (v := 0) hx hb dX0_shift_40 (by decide) ?_
    rw [show exN (kShift F N z0 z1 z2 z3) eI eA eS = eS from by rw [kShift, if_pos h1, if_pos h2, if_pos h3, if_pos h4, if_neg h5]; rfl]
    exact Bx.thruS (rest := []) ⟨hx, hb, hml, hown, hts⟩ htab hlocks (b_X0_needState l D cA hl9 0 (rfl)) (va_cwS 1 hts gX0_shift_X0_needState rfl rfl rfl (by decide +kernel) ⟨Nat.le_of_ble_eq_true rfl, Nat.le_of_ble_eq_true rfl⟩) hK noP hZ rfl rfl hl.1 (Nat.le_of_ble_eq_true rfl) dX0_shift_41 ⟨Nat.le_of_ble_eq_true rfl, Nat.le_of_ble_eq_true rfl⟩
  · skip
    have h5 : F 7 0 < 80 := Int32.not_le.mp c_33
    refine lv_iconst (v := 1) hx hb dX0_shift_36 (by decide) ?_
    refine lv_goto (tgt := 41) hx hb dX0_shift_37 (by decide) ?_
    refine Ru.callS (rest := []) ⟨hx, hb, hml, hown, hts⟩ (c_X0_needState l D cA 1 (by decide)) (va_cwS 1 hts gX0_shift_X0_needState rfl rfl rfl (by decide +kernel) ⟨Nat.le_of_ble_eq_true rfl, Nat.le_of_ble_eq_true rfl⟩) hK noP rfl rfl hl.1 (Nat.le_of_ble_eq_true rfl) dX0_shift_41 ⟨Nat.zero_le _, Nat.zero_le _⟩ ?_
    refine lv_aload_n hx hb dX0_shift_44 rfl (lv_at hl 0 rfl) ?_
    refine lv_iload_n hx hb dX0_shift_45 rfl (lv_at hl 1 rfl) ?_
    refine lv_iload_n hx hb dX0_shift_46 rfl (lv_at hl 3 rfl) ?_
    refine Rd.callV (rest := []) (q0 := 0) (ci := 0) ⟨hx, hb, hml, hown, hts⟩ (c_X0_hoursOnDay l D cA a F g N hW z0 z2) (cwV 2 hts gX0_shift_X0_hoursOnDay rfl rfl rfl (by decide +kernel) ⟨Nat.le_of_ble_eq_true rfl, Nat.le_of_ble_eq_true rfl⟩) hK hP rfl rfl rfl rfl rfl hl.1 (Nat.le_of_ble_eq_true rfl) dX0_shift_47 ⟨Nat.zero_le _, Nat.zero_le _⟩ ?_
    refine lv_iload hx hb dX0_shift_50 (lv_at hl 4 rfl) ?_
    refine lv_iadd hx hb dX0_shift_52 ?_
    refine lv_bipush (v := 24) hx hb dX0_shift_53 (by decide) ?_
    refine lv_icmp_gt (tgt := 62) hx hb dX0_shift_55 (by decide) (fun c_55 => ?_) (fun c_55 => ?_)
    · skip
      have h6 : ¬ ps (tOn F z0 z2) N + z3 ≤ 24 := Int32.not_le.mpr c_55
      refine lv_iconst (v := 0) hx hb dX0_shift_62 (by decide) ?_
      rw [show exN (kShift F N z0 z1 z2 z3) eI eA eS = eS from by rw [kShift, if_pos h1, if_pos h2, if_pos h3, if_pos h4, if_pos h5, if_neg h6]; rfl]
      exact Bx.thruS (rest := []) ⟨hx, hb, hml, hown, hts⟩ htab hlocks (b_X0_needState l D cA hl9 0 (rfl)) (va_cwS 1 hts gX0_shift_X0_needState rfl rfl rfl (by decide +kernel) ⟨Nat.le_of_ble_eq_true rfl, Nat.le_of_ble_eq_true rfl⟩) hK noP hZ rfl rfl hl.1 (Nat.le_of_ble_eq_true rfl) dX0_shift_63 ⟨Nat.le_of_ble_eq_true rfl, Nat.le_of_ble_eq_true rfl⟩
    · skip
      have h6 : ps (tOn F z0 z2) N + z3 ≤ 24 := Int32.not_lt.mp c_55
      refine lv_iconst (v := 1) hx hb dX0_shift_58 (by decide) ?_
      refine lv_goto (tgt := 63) hx hb dX0_shift_59 (by decide) ?_
      exact absurd (by rw [kShift, if_pos h1, if_pos h2, if_pos h3, if_pos h4, if_pos h5, if_pos h6]) hk

set_option maxHeartbeats 4000000 in
set_option maxRecDepth 100000 in
theorem c_X0_correct (l : Launch) (D : va_G) (cA : ClassId) (a : Nat → Nat) (F : Nat → Nat → Int32) (g : Nat → Int32) (N : Nat) (hW : wf F N) (z0 z1 : Int32) (h1 : cI z0 (F 7 0)) (h2 : cR z1 0 16) (h3 : ps (tOn F (F 8 z0.toNatClampNeg) (F 10 z0.toNatClampNeg)) N + (z1 - F 11 z0.toNatClampNeg) ≤ 24) (h4 : ¬ 7 * ps (tHr F (F 8 z0.toNatClampNeg)) N - F 14 (F 8 z0.toNatClampNeg).toNatClampNeg + 7 * (z1 - F 11 z0.toNatClampNeg) < 0) : Wi l D cA (S := Unit) (wX a cA F g) (fun _ => wX a cA (fUp F 11 z0.toNatClampNeg z1) g) yX0_correct wsX0_correct rmX0_correct [.ref (a 16), .int z0, .int z1] (fun r _ => r = F 11 z0.toNatClampNeg) := by
  refine Wi.of (cc := cX0_correct) (maxL := 6) (by decide) rfl (Nat.le_of_ble_eq_true rfl) ?_
  intro p e s m args below meth c ls A Q hx hb hts hown hml hK hP hD hA hS hl hend
  have hown : s.vm.findClass RX0 = some m.cls := hown
  have hi : ∀ w ∈ wsX00, w ∈ wsX0_correct := by decide +kernel
  have hl : lv_has ls 6 [(0, .ref (a 16)), (1, .int z0), (2, .int z1)] := hl
  have hN : N ≤ 80 := hW.n
  have hc : F 7 0 = nI N := hW.c
  obtain ⟨hjz0, ejz0⟩ := cI_of h1 (n := N) (hc) (by omega)
  refine lv_iload_n hx hb dX0_correct_0 rfl (lv_at hl 1 rfl) ?_
  refine lv_aload_n hx hb dX0_correct_1 rfl (lv_at hl 0 rfl) ?_
  refine va_get (D := D) (ci := 0) (v := .int (F 7 0)) (C := RX0) (T := TX0) (N := 16) hx hb hts hi hown hK hP 0 rfl rfl 7 (by decide) (hts (.fieldLink RX0 32 "AssignmentHouse" "shiftCount" "I") (by decide +kernel)) (fun _ h9 => h9) rfl dX0_correct_2 ?_
  refine Ru.callS (rest := []) ⟨hx, hb, hml, hown, hts⟩ (c_X0_needOneOf l D cA z0 (F 7 0) h1.1 h1.2) (va_cwS 2 hts gX0_correct_X0_needOneOf rfl rfl rfl (by decide +kernel) ⟨Nat.le_of_ble_eq_true rfl, Nat.le_of_ble_eq_true rfl⟩) hK noP rfl rfl hl.1 (Nat.le_of_ble_eq_true rfl) dX0_correct_5 ⟨Nat.zero_le _, Nat.zero_le _⟩ ?_
  refine lv_iload_n hx hb dX0_correct_8 rfl (lv_at hl 2 rfl) ?_
  refine lv_iconst (v := 0) hx hb dX0_correct_9 (by decide) ?_
  refine lv_bipush (v := 16) hx hb dX0_correct_10 (by decide) ?_
  refine Ru.callS (rest := []) ⟨hx, hb, hml, hown, hts⟩ (c_X0_needRange l D cA z1 0 16 h2.1 h2.2) (va_cwS 3 hts gX0_correct_X0_needRange rfl rfl rfl (by decide +kernel) ⟨Nat.le_of_ble_eq_true rfl, Nat.le_of_ble_eq_true rfl⟩) hK noP rfl rfl hl.1 (Nat.le_of_ble_eq_true rfl) dX0_correct_12 ⟨Nat.zero_le _, Nat.zero_le _⟩ ?_
  refine lv_aload_n hx hb dX0_correct_15 rfl (lv_at hl 0 rfl) ?_
  refine va_get (D := D) (ci := 0) (v := .ref (a 8)) (C := RX0) (T := TX0) (N := 16) hx hb hts hi hown hK hP 0 rfl rfl 8 (by decide) (hts (.fieldLink RX0 35 "AssignmentHouse" "workerOf" "[I") (by decide +kernel)) (fun _ h9 => h9) rfl dX0_correct_16 ?_
  refine lv_iload_n hx hb dX0_correct_19 rfl (lv_at hl 1 rfl) ?_
  refine Rd.callS (rest := []) ⟨hx, hb, hml, hown, hts⟩ (c_X0_at l D cA (a 8) 80 (F 8) (z0) (z0.toNatClampNeg) (ejz0) (by omega) (by decide)) (va_cwS 2 hts gX0_correct_X0_at rfl rfl rfl (by decide +kernel) ⟨Nat.le_of_ble_eq_true rfl, Nat.le_of_ble_eq_true rfl⟩) hK (hP.sub [6] rfl) rfl rfl hl.1 (Nat.le_of_ble_eq_true rfl) dX0_correct_20 ⟨Nat.zero_le _, Nat.zero_le _⟩ ?_
  refine lv_istore_n (lv' := [(3, .int (F 8 z0.toNatClampNeg)), (0, .ref (a 16)), (1, .int z0), (2, .int z1)]) hx hb dX0_correct_23 rfl hl (by decide) rfl (fun ls hl => ?_)
  refine lv_aload_n hx hb dX0_correct_24 rfl (lv_at hl 1 rfl) ?_
  refine va_get (D := D) (ci := 0) (v := .ref (a 11)) (C := RX0) (T := TX0) (N := 16) hx hb hts hi hown hK hP 0 rfl rfl 11 (by decide) (hts (.fieldLink RX0 44 "AssignmentHouse" "hoursOf" "[I") (by decide +kernel)) (fun _ h9 => h9) rfl dX0_correct_25 ?_
  refine lv_iload_n hx hb dX0_correct_28 rfl (lv_at hl 2 rfl) ?_
  refine Rd.callS (rest := []) ⟨hx, hb, hml, hown, hts⟩ (c_X0_at l D cA (a 11) 80 (F 11) (z0) (z0.toNatClampNeg) (ejz0) (by omega) (by decide)) (va_cwS 2 hts gX0_correct_X0_at rfl rfl rfl (by decide +kernel) ⟨Nat.le_of_ble_eq_true rfl, Nat.le_of_ble_eq_true rfl⟩) hK (hP.sub [9] rfl) rfl rfl hl.1 (Nat.le_of_ble_eq_true rfl) dX0_correct_29 ⟨Nat.zero_le _, Nat.zero_le _⟩ ?_
  refine lv_istore (lv' := [(4, .int (F 11 z0.toNatClampNeg)), (3, .int (F 8 z0.toNatClampNeg)), (0, .ref (a 16)), (1, .int z0), (2, .int z1)]) hx hb dX0_correct_32 hl (by decide) rfl (fun ls hl => ?_)
  refine lv_iload_n hx hb dX0_correct_34 rfl (lv_at hl 4 rfl) ?_
  refine lv_iload hx hb dX0_correct_35 (lv_at hl 0 rfl) ?_
  refine lv_isub hx hb dX0_correct_37 ?_
  refine lv_istore (lv' := [(5, .int (z1 - (F 11 z0.toNatClampNeg))), (4, .int (F 11 z0.toNatClampNeg)), (3, .int (F 8 z0.toNatClampNeg)), (0, .ref (a 16)), (1, .int z0), (2, .int z1)]) hx hb dX0_correct_38 hl (by decide) rfl (fun ls hl => ?_)
  refine lv_aload_n hx hb dX0_correct_40 rfl (lv_at hl 3 rfl) ?_
  refine lv_iload_n hx hb dX0_correct_41 rfl (lv_at hl 2 rfl) ?_
  refine lv_aload_n hx hb dX0_correct_42 rfl (lv_at hl 3 rfl) ?_
  refine va_get (D := D) (ci := 0) (v := .ref (a 10)) (C := RX0) (T := TX0) (N := 16) hx hb hts hi hown hK hP 0 rfl rfl 10 (by decide) (hts (.fieldLink RX0 41 "AssignmentHouse" "dayOf" "[I") (by decide +kernel)) (fun _ h9 => h9) rfl dX0_correct_43 ?_
  refine lv_iload_n hx hb dX0_correct_46 rfl (lv_at hl 4 rfl) ?_
  refine Rd.callS (rest := [.int (F 8 z0.toNatClampNeg), .ref (a 16)]) ⟨hx, hb, hml, hown, hts⟩ (c_X0_at l D cA (a 10) 80 (F 10) (z0) (z0.toNatClampNeg) (ejz0) (by omega) (by decide)) (va_cwS 2 hts gX0_correct_X0_at rfl rfl rfl (by decide +kernel) ⟨Nat.le_of_ble_eq_true rfl, Nat.le_of_ble_eq_true rfl⟩) hK (hP.sub [8] rfl) rfl rfl hl.1 (Nat.le_of_ble_eq_true rfl) dX0_correct_47 ⟨Nat.zero_le _, Nat.zero_le _⟩ ?_
  refine Rd.callV (rest := []) (q0 := 0) (ci := 0) ⟨hx, hb, hml, hown, hts⟩ (c_X0_hoursOnDay l D cA a F g N hW (F 8 z0.toNatClampNeg) (F 10 z0.toNatClampNeg)) (cwV 2 hts gX0_correct_X0_hoursOnDay rfl rfl rfl (by decide +kernel) ⟨Nat.le_of_ble_eq_true rfl, Nat.le_of_ble_eq_true rfl⟩) hK hP rfl rfl rfl rfl rfl hl.1 (Nat.le_of_ble_eq_true rfl) dX0_correct_50 ⟨Nat.zero_le _, Nat.zero_le _⟩ ?_
  refine lv_iload hx hb dX0_correct_53 (lv_at hl 0 rfl) ?_
  refine lv_iadd hx hb dX0_correct_55 ?_
  refine lv_bipush (v := 24) hx hb dX0_correct_56 (by decide) ?_
  refine lv_icmp_gt (tgt := 65) hx hb dX0_correct_58 (by decide) (fun c_58 => (absurd c_58 (Int32.not_lt.mpr h3) : False).elim) (fun c_58 => ?_)
  refine lv_iconst (v := 1) hx hb dX0_correct_61 (by decide) ?_
  refine lv_goto (tgt := 66) hx hb dX0_correct_62 (by decide) ?_
  refine Ru.callS (rest := []) ⟨hx, hb, hml, hown, hts⟩ (c_X0_needState l D cA 1 (by decide)) (va_cwS 1 hts gX0_correct_X0_needState rfl rfl rfl (by decide +kernel) ⟨Nat.le_of_ble_eq_true rfl, Nat.le_of_ble_eq_true rfl⟩) hK noP rfl rfl hl.1 (Nat.le_of_ble_eq_true rfl) dX0_correct_66 ⟨Nat.zero_le _, Nat.zero_le _⟩ ?_
  refine lv_aload_n hx hb dX0_correct_69 rfl (lv_at hl 3 rfl) ?_
  refine lv_iload_n hx hb dX0_correct_70 rfl (lv_at hl 2 rfl) ?_
  refine Rd.callV (rest := []) (q0 := 0) (ci := 0) ⟨hx, hb, hml, hown, hts⟩ (c_X0_minutesLeft l D cA a F g N hW (F 8 z0.toNatClampNeg) (F 8 z0.toNatClampNeg).toNatClampNeg ((hW.wkr hjz0).2) (hW.wkr hjz0).1) (cwV 1 hts gX0_correct_X0_minutesLeft rfl rfl rfl (by decide +kernel) ⟨Nat.le_of_ble_eq_true rfl, Nat.le_of_ble_eq_true rfl⟩) hK hP rfl rfl rfl rfl rfl hl.1 (Nat.le_of_ble_eq_true rfl) dX0_correct_71 ⟨Nat.zero_le _, Nat.zero_le _⟩ ?_
  refine lv_bipush (v := 7) hx hb dX0_correct_74 (by decide) ?_
  refine lv_iload hx hb dX0_correct_76 (lv_at hl 0 rfl) ?_
  refine lv_imul hx hb dX0_correct_78 ?_
  refine lv_iadd hx hb dX0_correct_79 ?_
  refine lv_if_lt (tgt := 87) hx hb dX0_correct_80 (by decide) (fun c_80 => (h4 c_80 : False).elim) (fun c_80 => ?_)
  refine lv_iconst (v := 1) hx hb dX0_correct_83 (by decide) ?_
  refine lv_goto (tgt := 88) hx hb dX0_correct_84 (by decide) ?_
  refine Ru.callS (rest := []) ⟨hx, hb, hml, hown, hts⟩ (c_X0_needState l D cA 1 (by decide)) (va_cwS 1 hts gX0_correct_X0_needState rfl rfl rfl (by decide +kernel) ⟨Nat.le_of_ble_eq_true rfl, Nat.le_of_ble_eq_true rfl⟩) hK noP rfl rfl hl.1 (Nat.le_of_ble_eq_true rfl) dX0_correct_88 ⟨Nat.zero_le _, Nat.zero_le _⟩ ?_
  refine lv_aload_n hx hb dX0_correct_91 rfl (lv_at hl 3 rfl) ?_
  refine va_get (D := D) (ci := 0) (v := .ref (a 11)) (C := RX0) (T := TX0) (N := 16) hx hb hts hi hown hK hP 0 rfl rfl 11 (by decide) (hts (.fieldLink RX0 44 "AssignmentHouse" "hoursOf" "[I") (by decide +kernel)) (fun _ h9 => h9) rfl dX0_correct_92 ?_
  refine lv_iload_n hx hb dX0_correct_95 rfl (lv_at hl 4 rfl) ?_
  refine lv_iload_n hx hb dX0_correct_96 rfl (lv_at hl 5 rfl) ?_
  refine put_call (k := 9) (b := a 11) (n := 80) (f := (F 11)) (x := z0) (j := z0.toNatClampNeg) (v := z1) (rest := []) ⟨hx, hb, hml, hown, hts⟩ gX0_correct_X0_put hK hP hD hS hA rfl (ejz0) (by omega) (by decide) hl.1 (Nat.le_of_ble_eq_true rfl) dX0_correct_97 ⟨Nat.zero_le _, Nat.zero_le _⟩ ⟨Nat.le_of_ble_eq_true rfl, Nat.le_of_ble_eq_true rfl⟩ (fun H locs hP hD hS => ?_)
  have hP : va_P D vwCl (wX a cA (fUp F 11 z0.toNatClampNeg z1) g) H := hP
  have hD : va_D A (wX a cA (fUp F 11 z0.toNatClampNeg z1) g) := hD
  refine lv_iload hx hb dX0_correct_100 (lv_at hl 1 rfl) ?_
  exact hend 102 ls _ (()) _ _ dX0_correct_102 hP hD hS (rfl)

set_option maxHeartbeats 4000000 in
set_option maxRecDepth 100000 in
theorem b_X0_correct (l : Launch) (D : va_G) (cA : ClassId) (hl9 : l.stackTraces = false) (a : Nat → Nat) (F : Nat → Nat → Int32) (g : Nat → Int32) (N : Nat) (hW : wf F N) (z0 z1 : Int32) (hk : kCorrect F N z0 z1 ≠ 0) : Bx l D cA (wX a cA F g) yX0_correct wsX0_correct rbX0_correct [.ref (a 16), .int z0, .int z1] (exN (kCorrect F N z0 z1) eI eA eS) := by
  refine Bx.of (cc := cX0_correct) (maxL := 6) (ret := (some .int)) (by decide) rfl (Nat.le_of_ble_eq_true rfl) ?_
  intro p e s m args below meth c ls hx hb hts hown hml hK hP hl htab hlocks hZ
  have hown : s.vm.findClass RX0 = some m.cls := hown
  have hi : ∀ w ∈ wsX00, w ∈ wsX0_correct := by decide +kernel
  have hl : lv_has ls 6 [(0, .ref (a 16)), (1, .int z0), (2, .int z1)] := hl
  have hN : N ≤ 80 := hW.n
  have hc : F 7 0 = nI N := hW.c
  refine lv_iload_n hx hb dX0_correct_0 rfl (lv_at hl 1 rfl) ?_
  refine lv_aload_n hx hb dX0_correct_1 rfl (lv_at hl 0 rfl) ?_
  refine va_get (D := D) (ci := 0) (v := .int (F 7 0)) (C := RX0) (T := TX0) (N := 16) hx hb hts hi hown hK hP 0 rfl rfl 7 (by decide) (hts (.fieldLink RX0 32 "AssignmentHouse" "shiftCount" "I") (by decide +kernel)) (fun _ h9 => h9) rfl dX0_correct_2 ?_
  refine (Classical.em (cI z0 (F 7 0))).elim (fun h1 => ?_) (fun h1 => ?_)
  rotate_left
  rw [show exN (kCorrect F N z0 z1) eI eA eS = eI from by rw [kCorrect, if_neg h1]; rfl]
  exact Bx.thruS (rest := []) ⟨hx, hb, hml, hown, hts⟩ htab hlocks (b_X0_needOneOf l D cA hl9 z0 (F 7 0) (cI_n h1)) (va_cwS 2 hts gX0_correct_X0_needOneOf rfl rfl rfl (by decide +kernel) ⟨Nat.le_of_ble_eq_true rfl, Nat.le_of_ble_eq_true rfl⟩) hK noP hZ rfl rfl hl.1 (Nat.le_of_ble_eq_true rfl) dX0_correct_5 ⟨Nat.le_of_ble_eq_true rfl, Nat.le_of_ble_eq_true rfl⟩
  refine Ru.callS (rest := []) ⟨hx, hb, hml, hown, hts⟩ (c_X0_needOneOf l D cA z0 (F 7 0) h1.1 h1.2) (va_cwS 2 hts gX0_correct_X0_needOneOf rfl rfl rfl (by decide +kernel) ⟨Nat.le_of_ble_eq_true rfl, Nat.le_of_ble_eq_true rfl⟩) hK noP rfl rfl hl.1 (Nat.le_of_ble_eq_true rfl) dX0_correct_5 ⟨Nat.zero_le _, Nat.zero_le _⟩ ?_
  obtain ⟨hjz0, ejz0⟩ := cI_of h1 (n := N) (hc) (by omega)
  refine lv_iload_n hx hb dX0_correct_8 rfl (lv_at hl 2 rfl) ?_
  refine lv_iconst (v := 0) hx hb dX0_correct_9 (by decide) ?_
  refine lv_bipush (v := 16) hx hb dX0_correct_10 (by decide) ?_
  refine (Classical.em (cR z1 0 16)).elim (fun h2 => ?_) (fun h2 => ?_)
  rotate_left
  rw [show exN (kCorrect F N z0 z1) eI eA eS = eA from by rw [kCorrect, if_pos h1, if_neg h2]; rfl]
  exact Bx.thruS (rest := []) ⟨hx, hb, hml, hown, hts⟩ htab hlocks (b_X0_needRange l D cA hl9 z1 0 16 (cR_n h2)) (va_cwS 3 hts gX0_correct_X0_needRange rfl rfl rfl (by decide +kernel) ⟨Nat.le_of_ble_eq_true rfl, Nat.le_of_ble_eq_true rfl⟩) hK noP hZ rfl rfl hl.1 (Nat.le_of_ble_eq_true rfl) dX0_correct_12 ⟨Nat.le_of_ble_eq_true rfl, Nat.le_of_ble_eq_true rfl⟩
  refine Ru.callS (rest := []) ⟨hx, hb, hml, hown, hts⟩ (c_X0_needRange l D cA z1 0 16 h2.1 h2.2) (va_cwS 3 hts gX0_correct_X0_needRange rfl rfl rfl (by decide +kernel) ⟨Nat.le_of_ble_eq_true rfl, Nat.le_of_ble_eq_true rfl⟩) hK noP rfl rfl hl.1 (Nat.le_of_ble_eq_true rfl) dX0_correct_12 ⟨Nat.zero_le _, Nat.zero_le _⟩ ?_
  refine lv_aload_n hx hb dX0_correct_15 rfl (lv_at hl 0 rfl) ?_
  refine va_get (D := D) (ci := 0) (v := .ref (a 8)) (C := RX0) (T := TX0) (N := 16) hx hb hts hi hown hK hP 0 rfl rfl 8 (by decide) (hts (.fieldLink RX0 35 "AssignmentHouse" "workerOf" "[I") (by decide +kernel)) (fun _ h9 => h9) rfl dX0_correct_16 ?_
  refine lv_iload_n hx hb dX0_correct_19 rfl (lv_at hl 1 rfl) ?_
  refine Rd.callS (rest := []) ⟨hx, hb, hml, hown, hts⟩ (c_X0_at l D cA (a 8) 80 (F 8) (z0) (z0.toNatClampNeg) (ejz0) (by omega) (by decide)) (va_cwS 2 hts gX0_correct_X0_at rfl rfl rfl (by decide +kernel) ⟨Nat.le_of_ble_eq_true rfl, Nat.le_of_ble_eq_true rfl⟩) hK (hP.sub [6] rfl) rfl rfl hl.1 (Nat.le_of_ble_eq_true rfl) dX0_correct_20 ⟨Nat.zero_le _, Nat.zero_le _⟩ ?_
  refine lv_istore_n (lv' := [(3, .int (F 8 z0.toNatClampNeg)), (0, .ref (a 16)), (1, .int z0), (2, .int z1)]) hx hb dX0_correct_23 rfl hl (by decide) rfl (fun ls hl => ?_)
  refine lv_aload_n hx hb dX0_correct_24 rfl (lv_at hl 1 rfl) ?_
  refine va_get (D := D) (ci := 0) (v := .ref (a 11)) (C := RX0) (T := TX0) (N := 16) hx hb hts hi hown hK hP 0 rfl rfl 11 (by decide) (hts (.fieldLink RX0 44 "AssignmentHouse" "hoursOf" "[I") (by decide +kernel)) (fun _ h9 => h9) rfl dX0_correct_25 ?_
  refine lv_iload_n hx hb dX0_correct_28 rfl (lv_at hl 2 rfl) ?_
  refine Rd.callS (rest := []) ⟨hx, hb, hml, hown, hts⟩ (c_X0_at l D cA (a 11) 80 (F 11) (z0) (z0.toNatClampNeg) (ejz0) (by omega) (by decide)) (va_cwS 2 hts gX0_correct_X0_at rfl rfl rfl (by decide +kernel) ⟨Nat.le_of_ble_eq_true rfl, Nat.le_of_ble_eq_true rfl⟩) hK (hP.sub [9] rfl) rfl rfl hl.1 (Nat.le_of_ble_eq_true rfl) dX0_correct_29 ⟨Nat.zero_le _, Nat.zero_le _⟩ ?_
  refine lv_istore (lv' := [(4, .int (F 11 z0.toNatClampNeg)), (3, .int (F 8 z0.toNatClampNeg)), (0, .ref (a 16)), (1, .int z0), (2, .int z1)]) hx hb dX0_correct_32 hl (by decide) rfl (fun ls hl => ?_)
  refine lv_iload_n hx hb dX0_correct_34 rfl (lv_at hl 4 rfl) ?_
  refine lv_iload hx hb dX0_correct_35 (lv_at hl 0 rfl) ?_
  refine lv_isub hx hb dX0_correct_37 ?_
  refine lv_istore (lv' := [(5, .int (z1 - (F 11 z0.toNatClampNeg))), (4, .int (F 11 z0.toNatClampNeg)), (3, .int (F 8 z0.toNatClampNeg)), (0, .ref (a 16)), (1, .int z0), (2, .int z1)]) hx hb dX0_correct_38 hl (by decide) rfl (fun ls hl => ?_)
  refine lv_aload_n hx hb dX0_correct_40 rfl (lv_at hl 3 rfl) ?_
  refine lv_iload_n hx hb dX0_correct_41 rfl (lv_at hl 2 rfl) ?_
  refine lv_aload_n hx hb dX0_correct_42 rfl (lv_at hl 3 rfl) ?_
  refine va_get (D := D) (ci := 0) (v := .ref (a 10)) (C := RX0) (T := TX0) (N := 16) hx hb hts hi hown hK hP 0 rfl rfl 10 (by decide) (hts (.fieldLink RX0 41 "AssignmentHouse" "dayOf" "[I") (by decide +kernel)) (fun _ h9 => h9) rfl dX0_correct_43 ?_
  refine lv_iload_n hx hb dX0_correct_46 rfl (lv_at hl 4 rfl) ?_
  refine Rd.callS (rest := [.int (F 8 z0.toNatClampNeg), .ref (a 16)]) ⟨hx, hb, hml, hown, hts⟩ (c_X0_at l D cA (a 10) 80 (F 10) (z0) (z0.toNatClampNeg) (ejz0) (by omega) (by decide)) (va_cwS 2 hts gX0_correct_X0_at rfl rfl rfl (by decide +kernel) ⟨Nat.le_of_ble_eq_true rfl, Nat.le_of_ble_eq_true rfl⟩) hK (hP.sub [8] rfl) rfl rfl hl.1 (Nat.le_of_ble_eq_true rfl) dX0_correct_47 ⟨Nat.zero_le _, Nat.zero_le _⟩ ?_
  refine Rd.callV (rest := []) (q0 := 0) (ci := 0) ⟨hx, hb, hml, hown, hts⟩ (c_X0_hoursOnDay l D cA a F g N hW (F 8 z0.toNatClampNeg) (F 10 z0.toNatClampNeg)) (cwV 2 hts gX0_correct_X0_hoursOnDay rfl rfl rfl (by decide +kernel) ⟨Nat.le_of_ble_eq_true rfl, Nat.le_of_ble_eq_true rfl⟩) hK hP rfl rfl rfl rfl rfl hl.1 (Nat.le_of_ble_eq_true rfl) dX0_correct_50 ⟨Nat.zero_le _, Nat.zero_le _⟩ ?_
  refine lv_iload hx hb dX0_correct_53 (lv_at hl 0 rfl) ?_
  refine lv_iadd hx hb dX0_correct_55 ?_
  refine lv_bipush (v := 24) hx hb dX0_correct_56 (by decide) ?_
  refine lv_icmp_gt (tgt := 65) hx hb dX0_correct_58 (by decide) (fun c_58 => ?_) (fun c_58 => ?_)
  · skip
    have h3 : ¬ ps (tOn F (F 8 z0.toNatClampNeg) (F 10 z0.toNatClampNeg)) N + (z1 - F 11 z0.toNatClampNeg) ≤ 24 := Int32.not_le.mpr c_58
    refine lv_iconst (v := 0) hx hb dX0_correct_65 (by decide) ?_
    rw [show exN (kCorrect F N z0 z1) eI eA eS = eS from by rw [kCorrect, if_pos h1, if_pos h2, if_neg h3]; rfl]
    exact Bx.thruS (rest := []) ⟨hx, hb, hml, hown, hts⟩ htab hlocks (b_X0_needState l D cA hl9 0 (rfl)) (va_cwS 1 hts gX0_correct_X0_needState rfl rfl rfl (by decide +kernel) ⟨Nat.le_of_ble_eq_true rfl, Nat.le_of_ble_eq_true rfl⟩) hK noP hZ rfl rfl hl.1 (Nat.le_of_ble_eq_true rfl) dX0_correct_66 ⟨Nat.le_of_ble_eq_true rfl, Nat.le_of_ble_eq_true rfl⟩
  · skip
    have h3 : ps (tOn F (F 8 z0.toNatClampNeg) (F 10 z0.toNatClampNeg)) N + (z1 - F 11 z0.toNatClampNeg) ≤ 24 := Int32.not_lt.mp c_58
    refine lv_iconst (v := 1) hx hb dX0_correct_61 (by decide) ?_
    refine lv_goto (tgt := 66) hx hb dX0_correct_62 (by decide) ?_
    refine Ru.callS (rest := []) ⟨hx, hb, hml, hown, hts⟩ (c_X0_needState l D cA 1 (by decide)) (va_cwS 1 hts gX0_correct_X0_needState rfl rfl rfl (by decide +kernel) ⟨Nat.le_of_ble_eq_true rfl, Nat.le_of_ble_eq_true rfl⟩) hK noP rfl rfl hl.1 (Nat.le_of_ble_eq_true rfl) dX0_correct_66 ⟨Nat.zero_le _, Nat.zero_le _⟩ ?_
    refine lv_aload_n hx hb dX0_correct_69 rfl (lv_at hl 3 rfl) ?_
    refine lv_iload_n hx hb dX0_correct_70 rfl (lv_at hl 2 rfl) ?_
    refine Rd.callV (rest := []) (q0 := 0) (ci := 0) ⟨hx, hb, hml, hown, hts⟩ (c_X0_minutesLeft l D cA a F g N hW (F 8 z0.toNatClampNeg) (F 8 z0.toNatClampNeg).toNatClampNeg ((hW.wkr hjz0).2) (hW.wkr hjz0).1) (cwV 1 hts gX0_correct_X0_minutesLeft rfl rfl rfl (by decide +kernel) ⟨Nat.le_of_ble_eq_true rfl, Nat.le_of_ble_eq_true rfl⟩) hK hP rfl rfl rfl rfl rfl hl.1 (Nat.le_of_ble_eq_true rfl) dX0_correct_71 ⟨Nat.zero_le _, Nat.zero_le _⟩ ?_
    refine lv_bipush (v := 7) hx hb dX0_correct_74 (by decide) ?_
    refine lv_iload hx hb dX0_correct_76 (lv_at hl 0 rfl) ?_
    refine lv_imul hx hb dX0_correct_78 ?_
    refine lv_iadd hx hb dX0_correct_79 ?_
    refine lv_if_lt (tgt := 87) hx hb dX0_correct_80 (by decide) (fun c_80 => ?_) (fun c_80 => ?_)
    · skip
      have h4 : ¬ ¬ 7 * ps (tHr F (F 8 z0.toNatClampNeg)) N - F 14 (F 8 z0.toNatClampNeg).toNatClampNeg + 7 * (z1 - F 11 z0.toNatClampNeg) < 0 := fun z => z c_80
      refine lv_iconst (v := 0) hx hb dX0_correct_87 (by decide) ?_
      rw [show exN (kCorrect F N z0 z1) eI eA eS = eS from by rw [kCorrect, if_pos h1, if_pos h2, if_pos h3, if_neg h4]; rfl]
      exact Bx.thruS (rest := []) ⟨hx, hb, hml, hown, hts⟩ htab hlocks (b_X0_needState l D cA hl9 0 (rfl)) (va_cwS 1 hts gX0_correct_X0_needState rfl rfl rfl (by decide +kernel) ⟨Nat.le_of_ble_eq_true rfl, Nat.le_of_ble_eq_true rfl⟩) hK noP hZ rfl rfl hl.1 (Nat.le_of_ble_eq_true rfl) dX0_correct_88 ⟨Nat.le_of_ble_eq_true rfl, Nat.le_of_ble_eq_true rfl⟩
    · skip
      have h4 : ¬ 7 * ps (tHr F (F 8 z0.toNatClampNeg)) N - F 14 (F 8 z0.toNatClampNeg).toNatClampNeg + 7 * (z1 - F 11 z0.toNatClampNeg) < 0 := c_80
      refine lv_iconst (v := 1) hx hb dX0_correct_83 (by decide) ?_
      refine lv_goto (tgt := 88) hx hb dX0_correct_84 (by decide) ?_
      exact absurd (by rw [kCorrect, if_pos h1, if_pos h2, if_pos h3, if_pos h4]) hk

set_option maxHeartbeats 4000000 in
set_option maxRecDepth 100000 in
theorem c_X0_takeHoliday (l : Launch) (D : va_G) (cA : ClassId) (a : Nat → Nat) (F : Nat → Nat → Int32) (g : Nat → Int32) (N : Nat) (hW : wf F N) (z0 z1 : Int32) (h1 : cI z0 6) (h2 : cR z1 1 10000) (h3 : z1 ≤ 7 * ps (tHr F z0) N - F 14 z0.toNatClampNeg) : Wi l D cA (S := Unit) (wX a cA F g) (fun _ => wX a cA (fUp F 14 z0.toNatClampNeg (F 14 z0.toNatClampNeg + z1)) g) yX0_takeHoliday wsX0_takeHoliday rmX0_takeHoliday [.ref (a 16), .int z0, .int z1] (fun r _ => r = 7 * ps (tHr F z0) N - F 14 z0.toNatClampNeg - z1) := by
  refine Wi.of (cc := cX0_takeHoliday) (maxL := 4) (by decide) rfl (Nat.le_of_ble_eq_true rfl) ?_
  intro p e s m args below meth c ls A Q hx hb hts hown hml hK hP hD hA hS hl hend
  have hown : s.vm.findClass RX0 = some m.cls := hown
  have hi : ∀ w ∈ wsX00, w ∈ wsX0_takeHoliday := by decide +kernel
  have hl : lv_has ls 4 [(0, .ref (a 16)), (1, .int z0), (2, .int z1)] := hl
  have hN : N ≤ 80 := hW.n
  have hc : F 7 0 = nI N := hW.c
  obtain ⟨hjz0, ejz0⟩ := cI_of h1 (n := 6) (rfl) (by omega)
  refine lv_iload_n hx hb dX0_takeHoliday_0 rfl (lv_at hl 1 rfl) ?_
  refine lv_bipush (v := 6) hx hb dX0_takeHoliday_1 (by decide) ?_
  refine Ru.callS (rest := []) ⟨hx, hb, hml, hown, hts⟩ (c_X0_needOneOf l D cA z0 6 h1.1 h1.2) (va_cwS 2 hts gX0_takeHoliday_X0_needOneOf rfl rfl rfl (by decide +kernel) ⟨Nat.le_of_ble_eq_true rfl, Nat.le_of_ble_eq_true rfl⟩) hK noP rfl rfl hl.1 (Nat.le_of_ble_eq_true rfl) dX0_takeHoliday_3 ⟨Nat.zero_le _, Nat.zero_le _⟩ ?_
  refine lv_iload_n hx hb dX0_takeHoliday_6 rfl (lv_at hl 2 rfl) ?_
  refine lv_iconst (v := 1) hx hb dX0_takeHoliday_7 (by decide) ?_
  refine lv_sipush (v := 10000) hx hb dX0_takeHoliday_8 (by decide) ?_
  refine Ru.callS (rest := []) ⟨hx, hb, hml, hown, hts⟩ (c_X0_needRange l D cA z1 1 10000 h2.1 h2.2) (va_cwS 3 hts gX0_takeHoliday_X0_needRange rfl rfl rfl (by decide +kernel) ⟨Nat.le_of_ble_eq_true rfl, Nat.le_of_ble_eq_true rfl⟩) hK noP rfl rfl hl.1 (Nat.le_of_ble_eq_true rfl) dX0_takeHoliday_11 ⟨Nat.zero_le _, Nat.zero_le _⟩ ?_
  refine lv_aload_n hx hb dX0_takeHoliday_14 rfl (lv_at hl 0 rfl) ?_
  refine lv_iload_n hx hb dX0_takeHoliday_15 rfl (lv_at hl 1 rfl) ?_
  refine Rd.callV (rest := []) (q0 := 0) (ci := 0) ⟨hx, hb, hml, hown, hts⟩ (c_X0_minutesLeft l D cA a F g N hW z0 z0.toNatClampNeg (ejz0) hjz0) (cwV 1 hts gX0_takeHoliday_X0_minutesLeft rfl rfl rfl (by decide +kernel) ⟨Nat.le_of_ble_eq_true rfl, Nat.le_of_ble_eq_true rfl⟩) hK hP rfl rfl rfl rfl rfl hl.1 (Nat.le_of_ble_eq_true rfl) dX0_takeHoliday_16 ⟨Nat.zero_le _, Nat.zero_le _⟩ ?_
  refine lv_istore_n (lv' := [(3, .int (7 * ps (tHr F z0) N - F 14 z0.toNatClampNeg)), (0, .ref (a 16)), (1, .int z0), (2, .int z1)]) hx hb dX0_takeHoliday_19 rfl hl (by decide) rfl (fun ls hl => ?_)
  refine lv_iload_n hx hb dX0_takeHoliday_20 rfl (lv_at hl 3 rfl) ?_
  refine lv_iload_n hx hb dX0_takeHoliday_21 rfl (lv_at hl 0 rfl) ?_
  refine lv_icmp_gt (tgt := 29) hx hb dX0_takeHoliday_22 (by decide) (fun c_22 => (absurd c_22 (Int32.not_lt.mpr h3) : False).elim) (fun c_22 => ?_)
  refine lv_iconst (v := 1) hx hb dX0_takeHoliday_25 (by decide) ?_
  refine lv_goto (tgt := 30) hx hb dX0_takeHoliday_26 (by decide) ?_
  refine Ru.callS (rest := []) ⟨hx, hb, hml, hown, hts⟩ (c_X0_needState l D cA 1 (by decide)) (va_cwS 1 hts gX0_takeHoliday_X0_needState rfl rfl rfl (by decide +kernel) ⟨Nat.le_of_ble_eq_true rfl, Nat.le_of_ble_eq_true rfl⟩) hK noP rfl rfl hl.1 (Nat.le_of_ble_eq_true rfl) dX0_takeHoliday_30 ⟨Nat.zero_le _, Nat.zero_le _⟩ ?_
  refine lv_aload_n hx hb dX0_takeHoliday_33 rfl (lv_at hl 1 rfl) ?_
  refine va_get (D := D) (ci := 0) (v := .ref (a 14)) (C := RX0) (T := TX0) (N := 16) hx hb hts hi hown hK hP 0 rfl rfl 14 (by decide) (hts (.fieldLink RX0 53 "AssignmentHouse" "minutesTaken" "[I") (by decide +kernel)) (fun _ h9 => h9) rfl dX0_takeHoliday_34 ?_
  refine lv_iload_n hx hb dX0_takeHoliday_37 rfl (lv_at hl 2 rfl) ?_
  refine lv_aload_n hx hb dX0_takeHoliday_38 rfl (lv_at hl 1 rfl) ?_
  refine va_get (D := D) (ci := 0) (v := .ref (a 14)) (C := RX0) (T := TX0) (N := 16) hx hb hts hi hown hK hP 0 rfl rfl 14 (by decide) (hts (.fieldLink RX0 53 "AssignmentHouse" "minutesTaken" "[I") (by decide +kernel)) (fun _ h9 => h9) rfl dX0_takeHoliday_39 ?_
  refine lv_iload_n hx hb dX0_takeHoliday_42 rfl (lv_at hl 2 rfl) ?_
  refine Rd.callS (rest := [.int z0, .ref (a 14)]) ⟨hx, hb, hml, hown, hts⟩ (c_X0_at l D cA (a 14) 6 (F 14) (z0) (z0.toNatClampNeg) (ejz0) (by omega) (by decide)) (va_cwS 2 hts gX0_takeHoliday_X0_at rfl rfl rfl (by decide +kernel) ⟨Nat.le_of_ble_eq_true rfl, Nat.le_of_ble_eq_true rfl⟩) hK (hP.sub [12] rfl) rfl rfl hl.1 (Nat.le_of_ble_eq_true rfl) dX0_takeHoliday_43 ⟨Nat.zero_le _, Nat.zero_le _⟩ ?_
  refine lv_iload_n hx hb dX0_takeHoliday_46 rfl (lv_at hl 3 rfl) ?_
  refine lv_iadd hx hb dX0_takeHoliday_47 ?_
  refine put_call (k := 12) (b := a 14) (n := 6) (f := (F 14)) (x := z0) (j := z0.toNatClampNeg) (v := ((F 14 z0.toNatClampNeg) + z1)) (rest := []) ⟨hx, hb, hml, hown, hts⟩ gX0_takeHoliday_X0_put hK hP hD hS hA rfl (ejz0) (by omega) (by decide) hl.1 (Nat.le_of_ble_eq_true rfl) dX0_takeHoliday_48 ⟨Nat.zero_le _, Nat.zero_le _⟩ ⟨Nat.le_of_ble_eq_true rfl, Nat.le_of_ble_eq_true rfl⟩ (fun H locs hP hD hS => ?_)
  have hP : va_P D vwCl (wX a cA (fUp F 14 z0.toNatClampNeg ((F 14 z0.toNatClampNeg) + z1)) g) H := hP
  have hD : va_D A (wX a cA (fUp F 14 z0.toNatClampNeg ((F 14 z0.toNatClampNeg) + z1)) g) := hD
  refine lv_iload_n hx hb dX0_takeHoliday_51 rfl (lv_at hl 0 rfl) ?_
  refine lv_iload_n hx hb dX0_takeHoliday_52 rfl (lv_at hl 3 rfl) ?_
  refine lv_isub hx hb dX0_takeHoliday_53 ?_
  exact hend 54 ls _ (()) _ _ dX0_takeHoliday_54 hP hD hS (rfl)

set_option maxHeartbeats 4000000 in
set_option maxRecDepth 100000 in
theorem b_X0_takeHoliday (l : Launch) (D : va_G) (cA : ClassId) (hl9 : l.stackTraces = false) (a : Nat → Nat) (F : Nat → Nat → Int32) (g : Nat → Int32) (N : Nat) (hW : wf F N) (z0 z1 : Int32) (hk : kTake F N z0 z1 ≠ 0) : Bx l D cA (wX a cA F g) yX0_takeHoliday wsX0_takeHoliday rbX0_takeHoliday [.ref (a 16), .int z0, .int z1] (exN (kTake F N z0 z1) eI eA eS) := by
  refine Bx.of (cc := cX0_takeHoliday) (maxL := 4) (ret := (some .int)) (by decide) rfl (Nat.le_of_ble_eq_true rfl) ?_
  intro p e s m args below meth c ls hx hb hts hown hml hK hP hl htab hlocks hZ
  have hown : s.vm.findClass RX0 = some m.cls := hown
  have hi : ∀ w ∈ wsX00, w ∈ wsX0_takeHoliday := by decide +kernel
  have hl : lv_has ls 4 [(0, .ref (a 16)), (1, .int z0), (2, .int z1)] := hl
  have hN : N ≤ 80 := hW.n
  have hc : F 7 0 = nI N := hW.c
  refine lv_iload_n hx hb dX0_takeHoliday_0 rfl (lv_at hl 1 rfl) ?_
  refine lv_bipush (v := 6) hx hb dX0_takeHoliday_1 (by decide) ?_
  refine (Classical.em (cI z0 6)).elim (fun h1 => ?_) (fun h1 => ?_)
  rotate_left
  rw [show exN (kTake F N z0 z1) eI eA eS = eI from by rw [kTake, if_neg h1]; rfl]
  exact Bx.thruS (rest := []) ⟨hx, hb, hml, hown, hts⟩ htab hlocks (b_X0_needOneOf l D cA hl9 z0 6 (cI_n h1)) (va_cwS 2 hts gX0_takeHoliday_X0_needOneOf rfl rfl rfl (by decide +kernel) ⟨Nat.le_of_ble_eq_true rfl, Nat.le_of_ble_eq_true rfl⟩) hK noP hZ rfl rfl hl.1 (Nat.le_of_ble_eq_true rfl) dX0_takeHoliday_3 ⟨Nat.le_of_ble_eq_true rfl, Nat.le_of_ble_eq_true rfl⟩
  refine Ru.callS (rest := []) ⟨hx, hb, hml, hown, hts⟩ (c_X0_needOneOf l D cA z0 6 h1.1 h1.2) (va_cwS 2 hts gX0_takeHoliday_X0_needOneOf rfl rfl rfl (by decide +kernel) ⟨Nat.le_of_ble_eq_true rfl, Nat.le_of_ble_eq_true rfl⟩) hK noP rfl rfl hl.1 (Nat.le_of_ble_eq_true rfl) dX0_takeHoliday_3 ⟨Nat.zero_le _, Nat.zero_le _⟩ ?_
  obtain ⟨hjz0, ejz0⟩ := cI_of h1 (n := 6) (rfl) (by omega)
  refine lv_iload_n hx hb dX0_takeHoliday_6 rfl (lv_at hl 2 rfl) ?_
  refine lv_iconst (v := 1) hx hb dX0_takeHoliday_7 (by decide) ?_
  refine lv_sipush (v := 10000) hx hb dX0_takeHoliday_8 (by decide) ?_
  refine (Classical.em (cR z1 1 10000)).elim (fun h2 => ?_) (fun h2 => ?_)
  rotate_left
  rw [show exN (kTake F N z0 z1) eI eA eS = eA from by rw [kTake, if_pos h1, if_neg h2]; rfl]
  exact Bx.thruS (rest := []) ⟨hx, hb, hml, hown, hts⟩ htab hlocks (b_X0_needRange l D cA hl9 z1 1 10000 (cR_n h2)) (va_cwS 3 hts gX0_takeHoliday_X0_needRange rfl rfl rfl (by decide +kernel) ⟨Nat.le_of_ble_eq_true rfl, Nat.le_of_ble_eq_true rfl⟩) hK noP hZ rfl rfl hl.1 (Nat.le_of_ble_eq_true rfl) dX0_takeHoliday_11 ⟨Nat.le_of_ble_eq_true rfl, Nat.le_of_ble_eq_true rfl⟩
  refine Ru.callS (rest := []) ⟨hx, hb, hml, hown, hts⟩ (c_X0_needRange l D cA z1 1 10000 h2.1 h2.2) (va_cwS 3 hts gX0_takeHoliday_X0_needRange rfl rfl rfl (by decide +kernel) ⟨Nat.le_of_ble_eq_true rfl, Nat.le_of_ble_eq_true rfl⟩) hK noP rfl rfl hl.1 (Nat.le_of_ble_eq_true rfl) dX0_takeHoliday_11 ⟨Nat.zero_le _, Nat.zero_le _⟩ ?_
  refine lv_aload_n hx hb dX0_takeHoliday_14 rfl (lv_at hl 0 rfl) ?_
  refine lv_iload_n hx hb dX0_takeHoliday_15 rfl (lv_at hl 1 rfl) ?_
  refine Rd.callV (rest := []) (q0 := 0) (ci := 0) ⟨hx, hb, hml, hown, hts⟩ (c_X0_minutesLeft l D cA a F g N hW z0 z0.toNatClampNeg (ejz0) hjz0) (cwV 1 hts gX0_takeHoliday_X0_minutesLeft rfl rfl rfl (by decide +kernel) ⟨Nat.le_of_ble_eq_true rfl, Nat.le_of_ble_eq_true rfl⟩) hK hP rfl rfl rfl rfl rfl hl.1 (Nat.le_of_ble_eq_true rfl) dX0_takeHoliday_16 ⟨Nat.zero_le _, Nat.zero_le _⟩ ?_
  refine lv_istore_n (lv' := [(3, .int (7 * ps (tHr F z0) N - F 14 z0.toNatClampNeg)), (0, .ref (a 16)), (1, .int z0), (2, .int z1)]) hx hb dX0_takeHoliday_19 rfl hl (by decide) rfl (fun ls hl => ?_)
  refine lv_iload_n hx hb dX0_takeHoliday_20 rfl (lv_at hl 3 rfl) ?_
  refine lv_iload_n hx hb dX0_takeHoliday_21 rfl (lv_at hl 0 rfl) ?_
  refine lv_icmp_gt (tgt := 29) hx hb dX0_takeHoliday_22 (by decide) (fun c_22 => ?_) (fun c_22 => ?_)
  · skip
    have h3 : ¬ z1 ≤ 7 * ps (tHr F z0) N - F 14 z0.toNatClampNeg := Int32.not_le.mpr c_22
    refine lv_iconst (v := 0) hx hb dX0_takeHoliday_29 (by decide) ?_
    rw [show exN (kTake F N z0 z1) eI eA eS = eS from by rw [kTake, if_pos h1, if_pos h2, if_neg h3]; rfl]
    exact Bx.thruS (rest := []) ⟨hx, hb, hml, hown, hts⟩ htab hlocks (b_X0_needState l D cA hl9 0 (rfl)) (va_cwS 1 hts gX0_takeHoliday_X0_needState rfl rfl rfl (by decide +kernel) ⟨Nat.le_of_ble_eq_true rfl, Nat.le_of_ble_eq_true rfl⟩) hK noP hZ rfl rfl hl.1 (Nat.le_of_ble_eq_true rfl) dX0_takeHoliday_30 ⟨Nat.le_of_ble_eq_true rfl, Nat.le_of_ble_eq_true rfl⟩
  · skip
    have h3 : z1 ≤ 7 * ps (tHr F z0) N - F 14 z0.toNatClampNeg := Int32.not_lt.mp c_22
    refine lv_iconst (v := 1) hx hb dX0_takeHoliday_25 (by decide) ?_
    refine lv_goto (tgt := 30) hx hb dX0_takeHoliday_26 (by decide) ?_
    exact absurd (by rw [kTake, if_pos h1, if_pos h2, if_pos h3]) hk

set_option maxHeartbeats 4000000 in
set_option maxRecDepth 100000 in
theorem c_X0_holiday (l : Launch) (D : va_G) (cA : ClassId) (a : Nat → Nat) (F : Nat → Nat → Int32) (g : Nat → Int32) (N : Nat) (hW : wf F N) (z0 : Int32) (h1 : cI z0 6) : Rd l D cA (wX a cA F g) yX0_holiday wsX0_holiday rmX0_holiday [.ref (a 16), .int z0] (7 * ps (tHr F z0) N - F 14 z0.toNatClampNeg) := by
  refine Rd.of (cc := cX0_holiday) (maxL := 2) (by decide) rfl (Nat.le_of_ble_eq_true rfl) ?_
  intro p e s m args below meth c ls Q hx hb hts hown hml hK hP hl hend
  have hown : s.vm.findClass RX0 = some m.cls := hown
  have hl : lv_has ls 2 [(0, .ref (a 16)), (1, .int z0)] := hl
  have hN : N ≤ 80 := hW.n
  have hc : F 7 0 = nI N := hW.c
  obtain ⟨hjz0, ejz0⟩ := cI_of h1 (n := 6) (rfl) (by omega)
  refine lv_iload_n hx hb dX0_holiday_0 rfl (lv_at hl 1 rfl) ?_
  refine lv_bipush (v := 6) hx hb dX0_holiday_1 (by decide) ?_
  refine Ru.callS (rest := []) ⟨hx, hb, hml, hown, hts⟩ (c_X0_needOneOf l D cA z0 6 h1.1 h1.2) (va_cwS 2 hts gX0_holiday_X0_needOneOf rfl rfl rfl (by decide +kernel) ⟨Nat.le_of_ble_eq_true rfl, Nat.le_of_ble_eq_true rfl⟩) hK noP rfl rfl hl.1 (Nat.le_of_ble_eq_true rfl) dX0_holiday_3 ⟨Nat.zero_le _, Nat.zero_le _⟩ ?_
  refine lv_aload_n hx hb dX0_holiday_6 rfl (lv_at hl 0 rfl) ?_
  refine lv_iload_n hx hb dX0_holiday_7 rfl (lv_at hl 1 rfl) ?_
  refine Rd.callV (rest := []) (q0 := 0) (ci := 0) ⟨hx, hb, hml, hown, hts⟩ (c_X0_minutesLeft l D cA a F g N hW z0 z0.toNatClampNeg (ejz0) hjz0) (cwV 1 hts gX0_holiday_X0_minutesLeft rfl rfl rfl (by decide +kernel) ⟨Nat.le_of_ble_eq_true rfl, Nat.le_of_ble_eq_true rfl⟩) hK hP rfl rfl rfl rfl rfl hl.1 (Nat.le_of_ble_eq_true rfl) dX0_holiday_8 ⟨Nat.zero_le _, Nat.zero_le _⟩ ?_
  exact hend 11 ls _ dX0_holiday_11 (rfl)

set_option maxHeartbeats 4000000 in
set_option maxRecDepth 100000 in
theorem b_X0_holiday (l : Launch) (D : va_G) (cA : ClassId) (hl9 : l.stackTraces = false) (a : Nat → Nat) (F : Nat → Nat → Int32) (g : Nat → Int32) (N : Nat) (hW : wf F N) (z0 : Int32) (hk : kW z0 ≠ 0) : Bx l D cA (wX a cA F g) yX0_holiday wsX0_holiday rbX0_holiday [.ref (a 16), .int z0] (exN (kW z0) eI eA eS) := by
  refine Bx.of (cc := cX0_holiday) (maxL := 2) (ret := (some .int)) (by decide) rfl (Nat.le_of_ble_eq_true rfl) ?_
  intro p e s m args below meth c ls hx hb hts hown hml hK hP hl htab hlocks hZ
  have hown : s.vm.findClass RX0 = some m.cls := hown
  have hl : lv_has ls 2 [(0, .ref (a 16)), (1, .int z0)] := hl
  have hN : N ≤ 80 := hW.n
  have hc : F 7 0 = nI N := hW.c
  refine lv_iload_n hx hb dX0_holiday_0 rfl (lv_at hl 1 rfl) ?_
  refine lv_bipush (v := 6) hx hb dX0_holiday_1 (by decide) ?_
  refine (Classical.em (cI z0 6)).elim (fun h1 => ?_) (fun h1 => ?_)
  rotate_left
  rw [show exN (kW z0) eI eA eS = eI from by rw [kW, if_neg h1]; rfl]
  exact Bx.thruS (rest := []) ⟨hx, hb, hml, hown, hts⟩ htab hlocks (b_X0_needOneOf l D cA hl9 z0 6 (cI_n h1)) (va_cwS 2 hts gX0_holiday_X0_needOneOf rfl rfl rfl (by decide +kernel) ⟨Nat.le_of_ble_eq_true rfl, Nat.le_of_ble_eq_true rfl⟩) hK noP hZ rfl rfl hl.1 (Nat.le_of_ble_eq_true rfl) dX0_holiday_3 ⟨Nat.le_of_ble_eq_true rfl, Nat.le_of_ble_eq_true rfl⟩
  exact absurd (by rw [kW, if_pos h1]) hk

set_option maxHeartbeats 4000000 in
set_option maxRecDepth 100000 in
theorem c_X0_hours (l : Launch) (D : va_G) (cA : ClassId) (a : Nat → Nat) (F : Nat → Nat → Int32) (g : Nat → Int32) (N : Nat) (hW : wf F N) (z0 z1 : Int32) (h1 : cI z0 6) (h2 : cI z1 20) : Rd l D cA (wX a cA F g) yX0_hours wsX0_hours rmX0_hours [.ref (a 16), .int z0, .int z1] (ps (tWk F z0 z1) N) := by
  refine Rd.of (cc := cX0_hours) (maxL := 5) (by decide) rfl (Nat.le_of_ble_eq_true rfl) ?_
  intro p e s m args below meth c ls Q hx hb hts hown hml hK hP hl hend
  have hown : s.vm.findClass RX0 = some m.cls := hown
  have hi : ∀ w ∈ wsX00, w ∈ wsX0_hours := by decide +kernel
  have hl : lv_has ls 5 [(0, .ref (a 16)), (1, .int z0), (2, .int z1)] := hl
  have hN : N ≤ 80 := hW.n
  have hc : F 7 0 = nI N := hW.c
  obtain ⟨hjz0, ejz0⟩ := cI_of h1 (n := 6) (rfl) (by omega)
  obtain ⟨hjz1, ejz1⟩ := cI_of h2 (n := 20) (rfl) (by omega)
  refine lv_iload_n hx hb dX0_hours_0 rfl (lv_at hl 1 rfl) ?_
  refine lv_bipush (v := 6) hx hb dX0_hours_1 (by decide) ?_
  refine Ru.callS (rest := []) ⟨hx, hb, hml, hown, hts⟩ (c_X0_needOneOf l D cA z0 6 h1.1 h1.2) (va_cwS 2 hts gX0_hours_X0_needOneOf rfl rfl rfl (by decide +kernel) ⟨Nat.le_of_ble_eq_true rfl, Nat.le_of_ble_eq_true rfl⟩) hK noP rfl rfl hl.1 (Nat.le_of_ble_eq_true rfl) dX0_hours_3 ⟨Nat.zero_le _, Nat.zero_le _⟩ ?_
  refine lv_iload_n hx hb dX0_hours_6 rfl (lv_at hl 2 rfl) ?_
  refine lv_bipush (v := 20) hx hb dX0_hours_7 (by decide) ?_
  refine Ru.callS (rest := []) ⟨hx, hb, hml, hown, hts⟩ (c_X0_needOneOf l D cA z1 20 h2.1 h2.2) (va_cwS 2 hts gX0_hours_X0_needOneOf rfl rfl rfl (by decide +kernel) ⟨Nat.le_of_ble_eq_true rfl, Nat.le_of_ble_eq_true rfl⟩) hK noP rfl rfl hl.1 (Nat.le_of_ble_eq_true rfl) dX0_hours_9 ⟨Nat.zero_le _, Nat.zero_le _⟩ ?_
  refine lv_iconst (v := 0) hx hb dX0_hours_12 (by decide) ?_
  refine lv_istore_n (lv' := [(3, .int 0), (0, .ref (a 16)), (1, .int z0), (2, .int z1)]) hx hb dX0_hours_13 rfl hl (by decide) rfl (fun ls hl => ?_)
  refine lv_iconst (v := 0) hx hb dX0_hours_14 (by decide) ?_
  refine lv_istore (lv' := [(4, .int 0), (3, .int 0), (0, .ref (a 16)), (1, .int z0), (2, .int z1)]) hx hb dX0_hours_15 hl (by decide) rfl (fun ls hl => ?_)
  have K_17 : ∀ (n i : Nat) (x3 : Int32) (ls : Array Slot), i + n = N → x3 = ps (tWk F z0 z1) i → lv_has ls 5 [(0, .ref (a 16)), (1, .int z0), (2, .int z1), (3, .int x3), (4, .int (nI i))] → W p l e rmX0_hours s m args below meth c s.heap [] 0 0 Q (F0 m 17 ls []) := by
    intro n
    induction n with
    | zero =>
      intro i x3 ls hin_17 ex3 hl
      have hiN : i = N := by omega
      refine lv_iload hx hb dX0_hours_17 (lv_at hl 4 rfl) ?_
      refine lv_aload_n hx hb dX0_hours_19 rfl (lv_at hl 0 rfl) ?_
      refine va_get (D := D) (ci := 0) (v := .int (F 7 0)) (C := RX0) (T := TX0) (N := 16) hx hb hts hi hown hK hP 0 rfl rfl 7 (by decide) (hts (.fieldLink RX0 32 "AssignmentHouse" "shiftCount" "I") (by decide +kernel)) (fun _ h9 => h9) rfl dX0_hours_20 ?_
      refine lv_icmp_ge (tgt := 55) hx hb dX0_hours_23 (by decide) (fun c_23 => ?_) (fun c_23 => (absurd (((br_ge hc (by omega) (by omega : i ≤ N)).mpr hiN)) c_23 : False).elim)
      refine lv_iload_n hx hb dX0_hours_55 rfl (lv_at hl 3 rfl) ?_
      exact hend 56 ls _ dX0_hours_56 (by rw [ex3, hiN])
    | succ n ih_17 =>
      intro i x3 ls hin_17 ex3 hl
      have hiN : i < N := by omega
      refine lv_iload hx hb dX0_hours_17 (lv_at hl 4 rfl) ?_
      refine lv_aload_n hx hb dX0_hours_19 rfl (lv_at hl 0 rfl) ?_
      refine va_get (D := D) (ci := 0) (v := .int (F 7 0)) (C := RX0) (T := TX0) (N := 16) hx hb hts hi hown hK hP 0 rfl rfl 7 (by decide) (hts (.fieldLink RX0 32 "AssignmentHouse" "shiftCount" "I") (by decide +kernel)) (fun _ h9 => h9) rfl dX0_hours_20 ?_
      refine lv_icmp_ge (tgt := 55) hx hb dX0_hours_23 (by decide) (fun c_23 => (absurd (((br_ge hc (by omega) (by omega : i ≤ N)).mp c_23)) (by omega) : False).elim) (fun c_23 => ?_)
      refine lv_aload_n hx hb dX0_hours_26 rfl (lv_at hl 0 rfl) ?_
      refine lv_iload hx hb dX0_hours_27 (lv_at hl 4 rfl) ?_
      refine lv_iload_n hx hb dX0_hours_29 rfl (lv_at hl 1 rfl) ?_
      refine lv_iload_n hx hb dX0_hours_30 rfl (lv_at hl 2 rfl) ?_
      refine Rd.callV (rest := []) (q0 := 0) (ci := 0) ⟨hx, hb, hml, hown, hts⟩ (c_X0_isOfWorker l D cA a F g (nI i) i rfl (by omega) z0 z1) (cwV 3 hts gX0_hours_X0_isOfWorker rfl rfl rfl (by decide +kernel) ⟨Nat.le_of_ble_eq_true rfl, Nat.le_of_ble_eq_true rfl⟩) hK hP rfl rfl rfl rfl rfl hl.1 (Nat.le_of_ble_eq_true rfl) dX0_hours_31 ⟨Nat.zero_le _, Nat.zero_le _⟩ ?_
      refine lv_if_eq (tgt := 49) hx hb dX0_hours_34 (by decide) (fun c_34 => ?_) (fun c_34 => ?_)
      · skip
        have hq : ¬ (F 8 i = z0 ∧ F 10 i / 7 = z1) := fun h => absurd c_34 (by rw [if_pos h]; decide)
        refine lv_iinc (v := (nI (i + 1))) (lv' := [(4, .int (nI (i + 1))), (0, .ref (a 16)), (1, .int z0), (2, .int z1), (3, .int x3)]) hx hb dX0_hours_49 hl (k := 4) rfl (nI_1 i) (by decide) rfl (fun ls hl => ?_)
        refine lv_goto (tgt := 17) hx hb dX0_hours_52 (by decide) ?_
        exact ih_17 (i + 1) _ ls (by omega) (by rw [ps_s, ex3]; unfold tWk; rw [if_neg hq, i32_a0]) (lv_sub hl [1, 2, 3, 4, 0] rfl)
      · skip
        have hq : (F 8 i = z0 ∧ F 10 i / 7 = z1) := Classical.byContradiction (fun h => c_34 (if_neg h))
        refine lv_iload_n hx hb dX0_hours_37 rfl (lv_at hl 3 rfl) ?_
        refine lv_aload_n hx hb dX0_hours_38 rfl (lv_at hl 0 rfl) ?_
        refine va_get (D := D) (ci := 0) (v := .ref (a 11)) (C := RX0) (T := TX0) (N := 16) hx hb hts hi hown hK hP 0 rfl rfl 11 (by decide) (hts (.fieldLink RX0 44 "AssignmentHouse" "hoursOf" "[I") (by decide +kernel)) (fun _ h9 => h9) rfl dX0_hours_39 ?_
        refine lv_iload hx hb dX0_hours_42 (lv_at hl 4 rfl) ?_
        refine Rd.callS (rest := [.int x3]) ⟨hx, hb, hml, hown, hts⟩ (c_X0_at l D cA (a 11) 80 (F 11) (nI i) i (rfl) (by omega) (by decide)) (va_cwS 2 hts gX0_hours_X0_at rfl rfl rfl (by decide +kernel) ⟨Nat.le_of_ble_eq_true rfl, Nat.le_of_ble_eq_true rfl⟩) hK (hP.sub [9] rfl) rfl rfl hl.1 (Nat.le_of_ble_eq_true rfl) dX0_hours_44 ⟨Nat.zero_le _, Nat.zero_le _⟩ ?_
        refine lv_iadd hx hb dX0_hours_47 ?_
        refine lv_istore_n (lv' := [(3, .int (x3 + (F 11 i))), (0, .ref (a 16)), (1, .int z0), (2, .int z1), (4, .int (nI i))]) hx hb dX0_hours_48 rfl hl (by decide) rfl (fun ls hl => ?_)
        refine lv_iinc (v := (nI (i + 1))) (lv' := [(4, .int (nI (i + 1))), (3, .int (x3 + (F 11 i))), (0, .ref (a 16)), (1, .int z0), (2, .int z1)]) hx hb dX0_hours_49 hl (k := 4) rfl (nI_1 i) (by decide) rfl (fun ls hl => ?_)
        refine lv_goto (tgt := 17) hx hb dX0_hours_52 (by decide) ?_
        exact ih_17 (i + 1) _ ls (by omega) (by rw [ps_s, ex3]; unfold tWk; rw [if_pos hq]) (lv_sub hl [2, 3, 4, 1, 0] rfl)
  exact K_17 N 0 _ ls (by omega) (rfl) (lv_sub hl [2, 3, 4, 1, 0] rfl)

set_option maxHeartbeats 4000000 in
set_option maxRecDepth 100000 in
theorem b_X0_hours (l : Launch) (D : va_G) (cA : ClassId) (hl9 : l.stackTraces = false) (a : Nat → Nat) (F : Nat → Nat → Int32) (g : Nat → Int32) (N : Nat) (hW : wf F N) (z0 z1 : Int32) (hk : kWW z0 z1 ≠ 0) : Bx l D cA (wX a cA F g) yX0_hours wsX0_hours rbX0_hours [.ref (a 16), .int z0, .int z1] (exN (kWW z0 z1) eI eA eS) := by
  refine Bx.of (cc := cX0_hours) (maxL := 5) (ret := (some .int)) (by decide) rfl (Nat.le_of_ble_eq_true rfl) ?_
  intro p e s m args below meth c ls hx hb hts hown hml hK hP hl htab hlocks hZ
  have hown : s.vm.findClass RX0 = some m.cls := hown
  have hi : ∀ w ∈ wsX00, w ∈ wsX0_hours := by decide +kernel
  have hl : lv_has ls 5 [(0, .ref (a 16)), (1, .int z0), (2, .int z1)] := hl
  have hN : N ≤ 80 := hW.n
  have hc : F 7 0 = nI N := hW.c
  refine lv_iload_n hx hb dX0_hours_0 rfl (lv_at hl 1 rfl) ?_
  refine lv_bipush (v := 6) hx hb dX0_hours_1 (by decide) ?_
  refine (Classical.em (cI z0 6)).elim (fun h1 => ?_) (fun h1 => ?_)
  rotate_left
  rw [show exN (kWW z0 z1) eI eA eS = eI from by rw [kWW, if_neg h1]; rfl]
  exact Bx.thruS (rest := []) ⟨hx, hb, hml, hown, hts⟩ htab hlocks (b_X0_needOneOf l D cA hl9 z0 6 (cI_n h1)) (va_cwS 2 hts gX0_hours_X0_needOneOf rfl rfl rfl (by decide +kernel) ⟨Nat.le_of_ble_eq_true rfl, Nat.le_of_ble_eq_true rfl⟩) hK noP hZ rfl rfl hl.1 (Nat.le_of_ble_eq_true rfl) dX0_hours_3 ⟨Nat.le_of_ble_eq_true rfl, Nat.le_of_ble_eq_true rfl⟩
  refine Ru.callS (rest := []) ⟨hx, hb, hml, hown, hts⟩ (c_X0_needOneOf l D cA z0 6 h1.1 h1.2) (va_cwS 2 hts gX0_hours_X0_needOneOf rfl rfl rfl (by decide +kernel) ⟨Nat.le_of_ble_eq_true rfl, Nat.le_of_ble_eq_true rfl⟩) hK noP rfl rfl hl.1 (Nat.le_of_ble_eq_true rfl) dX0_hours_3 ⟨Nat.zero_le _, Nat.zero_le _⟩ ?_
  refine lv_iload_n hx hb dX0_hours_6 rfl (lv_at hl 2 rfl) ?_
  refine lv_bipush (v := 20) hx hb dX0_hours_7 (by decide) ?_
  refine (Classical.em (cI z1 20)).elim (fun h2 => ?_) (fun h2 => ?_)
  rotate_left
  rw [show exN (kWW z0 z1) eI eA eS = eI from by rw [kWW, if_pos h1, if_neg h2]; rfl]
  exact Bx.thruS (rest := []) ⟨hx, hb, hml, hown, hts⟩ htab hlocks (b_X0_needOneOf l D cA hl9 z1 20 (cI_n h2)) (va_cwS 2 hts gX0_hours_X0_needOneOf rfl rfl rfl (by decide +kernel) ⟨Nat.le_of_ble_eq_true rfl, Nat.le_of_ble_eq_true rfl⟩) hK noP hZ rfl rfl hl.1 (Nat.le_of_ble_eq_true rfl) dX0_hours_9 ⟨Nat.le_of_ble_eq_true rfl, Nat.le_of_ble_eq_true rfl⟩
  exact absurd (by rw [kWW, if_pos h1, if_pos h2]) hk

set_option maxHeartbeats 4000000 in
set_option maxRecDepth 100000 in
theorem c_X0_paid (l : Launch) (D : va_G) (cA : ClassId) (a : Nat → Nat) (F : Nat → Nat → Int32) (g : Nat → Int32) (N : Nat) (hW : wf F N) (z0 z1 : Int32) (h1 : cI z0 6) (h2 : cI z1 20) : Rd l D cA (wX a cA F g) yX0_paid wsX0_paid rmX0_paid [.ref (a 16), .int z0, .int z1] (F 12 (z0.toNatClampNeg * 20 + z1.toNatClampNeg)) := by
  refine Rd.of (cc := cX0_paid) (maxL := 3) (by decide) rfl (Nat.le_of_ble_eq_true rfl) ?_
  intro p e s m args below meth c ls Q hx hb hts hown hml hK hP hl hend
  have hown : s.vm.findClass RX0 = some m.cls := hown
  have hi : ∀ w ∈ wsX00, w ∈ wsX0_paid := by decide +kernel
  have hl : lv_has ls 3 [(0, .ref (a 16)), (1, .int z0), (2, .int z1)] := hl
  have hN : N ≤ 80 := hW.n
  have hc : F 7 0 = nI N := hW.c
  obtain ⟨hjz0, ejz0⟩ := cI_of h1 (n := 6) (rfl) (by omega)
  obtain ⟨hjz1, ejz1⟩ := cI_of h2 (n := 20) (rfl) (by omega)
  refine lv_iload_n hx hb dX0_paid_0 rfl (lv_at hl 1 rfl) ?_
  refine lv_bipush (v := 6) hx hb dX0_paid_1 (by decide) ?_
  refine Ru.callS (rest := []) ⟨hx, hb, hml, hown, hts⟩ (c_X0_needOneOf l D cA z0 6 h1.1 h1.2) (va_cwS 2 hts gX0_paid_X0_needOneOf rfl rfl rfl (by decide +kernel) ⟨Nat.le_of_ble_eq_true rfl, Nat.le_of_ble_eq_true rfl⟩) hK noP rfl rfl hl.1 (Nat.le_of_ble_eq_true rfl) dX0_paid_3 ⟨Nat.zero_le _, Nat.zero_le _⟩ ?_
  refine lv_iload_n hx hb dX0_paid_6 rfl (lv_at hl 2 rfl) ?_
  refine lv_bipush (v := 20) hx hb dX0_paid_7 (by decide) ?_
  refine Ru.callS (rest := []) ⟨hx, hb, hml, hown, hts⟩ (c_X0_needOneOf l D cA z1 20 h2.1 h2.2) (va_cwS 2 hts gX0_paid_X0_needOneOf rfl rfl rfl (by decide +kernel) ⟨Nat.le_of_ble_eq_true rfl, Nat.le_of_ble_eq_true rfl⟩) hK noP rfl rfl hl.1 (Nat.le_of_ble_eq_true rfl) dX0_paid_9 ⟨Nat.zero_le _, Nat.zero_le _⟩ ?_
  refine lv_aload_n hx hb dX0_paid_12 rfl (lv_at hl 0 rfl) ?_
  refine va_get (D := D) (ci := 0) (v := .ref (a 12)) (C := RX0) (T := TX0) (N := 16) hx hb hts hi hown hK hP 0 rfl rfl 12 (by decide) (hts (.fieldLink RX0 47 "AssignmentHouse" "paidFor" "[I") (by decide +kernel)) (fun _ h9 => h9) rfl dX0_paid_13 ?_
  refine lv_iload_n hx hb dX0_paid_16 rfl (lv_at hl 1 rfl) ?_
  refine lv_bipush (v := 20) hx hb dX0_paid_17 (by decide) ?_
  refine lv_imul hx hb dX0_paid_19 ?_
  refine lv_iload_n hx hb dX0_paid_20 rfl (lv_at hl 2 rfl) ?_
  refine lv_iadd hx hb dX0_paid_21 ?_
  refine Rd.callS (rest := []) ⟨hx, hb, hml, hown, hts⟩ (c_X0_at l D cA (a 12) 120 (F 12) ((z0 * 20) + z1) (z0.toNatClampNeg * 20 + z1.toNatClampNeg) (ix20 ejz0 ejz1) (by omega) (by decide)) (va_cwS 2 hts gX0_paid_X0_at rfl rfl rfl (by decide +kernel) ⟨Nat.le_of_ble_eq_true rfl, Nat.le_of_ble_eq_true rfl⟩) hK (hP.sub [10] rfl) rfl rfl hl.1 (Nat.le_of_ble_eq_true rfl) dX0_paid_22 ⟨Nat.zero_le _, Nat.zero_le _⟩ ?_
  exact hend 25 ls _ dX0_paid_25 (rfl)

set_option maxHeartbeats 4000000 in
set_option maxRecDepth 100000 in
theorem b_X0_paid (l : Launch) (D : va_G) (cA : ClassId) (hl9 : l.stackTraces = false) (a : Nat → Nat) (F : Nat → Nat → Int32) (g : Nat → Int32) (N : Nat) (hW : wf F N) (z0 z1 : Int32) (hk : kWW z0 z1 ≠ 0) : Bx l D cA (wX a cA F g) yX0_paid wsX0_paid rbX0_paid [.ref (a 16), .int z0, .int z1] (exN (kWW z0 z1) eI eA eS) := by
  refine Bx.of (cc := cX0_paid) (maxL := 3) (ret := (some .int)) (by decide) rfl (Nat.le_of_ble_eq_true rfl) ?_
  intro p e s m args below meth c ls hx hb hts hown hml hK hP hl htab hlocks hZ
  have hown : s.vm.findClass RX0 = some m.cls := hown
  have hi : ∀ w ∈ wsX00, w ∈ wsX0_paid := by decide +kernel
  have hl : lv_has ls 3 [(0, .ref (a 16)), (1, .int z0), (2, .int z1)] := hl
  have hN : N ≤ 80 := hW.n
  have hc : F 7 0 = nI N := hW.c
  refine lv_iload_n hx hb dX0_paid_0 rfl (lv_at hl 1 rfl) ?_
  refine lv_bipush (v := 6) hx hb dX0_paid_1 (by decide) ?_
  refine (Classical.em (cI z0 6)).elim (fun h1 => ?_) (fun h1 => ?_)
  rotate_left
  rw [show exN (kWW z0 z1) eI eA eS = eI from by rw [kWW, if_neg h1]; rfl]
  exact Bx.thruS (rest := []) ⟨hx, hb, hml, hown, hts⟩ htab hlocks (b_X0_needOneOf l D cA hl9 z0 6 (cI_n h1)) (va_cwS 2 hts gX0_paid_X0_needOneOf rfl rfl rfl (by decide +kernel) ⟨Nat.le_of_ble_eq_true rfl, Nat.le_of_ble_eq_true rfl⟩) hK noP hZ rfl rfl hl.1 (Nat.le_of_ble_eq_true rfl) dX0_paid_3 ⟨Nat.le_of_ble_eq_true rfl, Nat.le_of_ble_eq_true rfl⟩
  refine Ru.callS (rest := []) ⟨hx, hb, hml, hown, hts⟩ (c_X0_needOneOf l D cA z0 6 h1.1 h1.2) (va_cwS 2 hts gX0_paid_X0_needOneOf rfl rfl rfl (by decide +kernel) ⟨Nat.le_of_ble_eq_true rfl, Nat.le_of_ble_eq_true rfl⟩) hK noP rfl rfl hl.1 (Nat.le_of_ble_eq_true rfl) dX0_paid_3 ⟨Nat.zero_le _, Nat.zero_le _⟩ ?_
  refine lv_iload_n hx hb dX0_paid_6 rfl (lv_at hl 2 rfl) ?_
  refine lv_bipush (v := 20) hx hb dX0_paid_7 (by decide) ?_
  refine (Classical.em (cI z1 20)).elim (fun h2 => ?_) (fun h2 => ?_)
  rotate_left
  rw [show exN (kWW z0 z1) eI eA eS = eI from by rw [kWW, if_pos h1, if_neg h2]; rfl]
  exact Bx.thruS (rest := []) ⟨hx, hb, hml, hown, hts⟩ htab hlocks (b_X0_needOneOf l D cA hl9 z1 20 (cI_n h2)) (va_cwS 2 hts gX0_paid_X0_needOneOf rfl rfl rfl (by decide +kernel) ⟨Nat.le_of_ble_eq_true rfl, Nat.le_of_ble_eq_true rfl⟩) hK noP hZ rfl rfl hl.1 (Nat.le_of_ble_eq_true rfl) dX0_paid_9 ⟨Nat.le_of_ble_eq_true rfl, Nat.le_of_ble_eq_true rfl⟩
  exact absurd (by rw [kWW, if_pos h1, if_pos h2]) hk

set_option maxHeartbeats 4000000 in
set_option maxRecDepth 100000 in
theorem c_X0_billed (l : Launch) (D : va_G) (cA : ClassId) (a : Nat → Nat) (F : Nat → Nat → Int32) (g : Nat → Int32) (N : Nat) (hW : wf F N) (z0 z1 : Int32) (h1 : cI z0 4) (h2 : cI z1 20) : Rd l D cA (wX a cA F g) yX0_billed wsX0_billed rmX0_billed [.ref (a 16), .int z0, .int z1] (F 13 (z0.toNatClampNeg * 20 + z1.toNatClampNeg)) := by
  refine Rd.of (cc := cX0_billed) (maxL := 3) (by decide) rfl (Nat.le_of_ble_eq_true rfl) ?_
  intro p e s m args below meth c ls Q hx hb hts hown hml hK hP hl hend
  have hown : s.vm.findClass RX0 = some m.cls := hown
  have hi : ∀ w ∈ wsX00, w ∈ wsX0_billed := by decide +kernel
  have hl : lv_has ls 3 [(0, .ref (a 16)), (1, .int z0), (2, .int z1)] := hl
  have hN : N ≤ 80 := hW.n
  have hc : F 7 0 = nI N := hW.c
  obtain ⟨hjz0, ejz0⟩ := cI_of h1 (n := 4) (rfl) (by omega)
  obtain ⟨hjz1, ejz1⟩ := cI_of h2 (n := 20) (rfl) (by omega)
  refine lv_iload_n hx hb dX0_billed_0 rfl (lv_at hl 1 rfl) ?_
  refine lv_iconst (v := 4) hx hb dX0_billed_1 (by decide) ?_
  refine Ru.callS (rest := []) ⟨hx, hb, hml, hown, hts⟩ (c_X0_needOneOf l D cA z0 4 h1.1 h1.2) (va_cwS 2 hts gX0_billed_X0_needOneOf rfl rfl rfl (by decide +kernel) ⟨Nat.le_of_ble_eq_true rfl, Nat.le_of_ble_eq_true rfl⟩) hK noP rfl rfl hl.1 (Nat.le_of_ble_eq_true rfl) dX0_billed_2 ⟨Nat.zero_le _, Nat.zero_le _⟩ ?_
  refine lv_iload_n hx hb dX0_billed_5 rfl (lv_at hl 2 rfl) ?_
  refine lv_bipush (v := 20) hx hb dX0_billed_6 (by decide) ?_
  refine Ru.callS (rest := []) ⟨hx, hb, hml, hown, hts⟩ (c_X0_needOneOf l D cA z1 20 h2.1 h2.2) (va_cwS 2 hts gX0_billed_X0_needOneOf rfl rfl rfl (by decide +kernel) ⟨Nat.le_of_ble_eq_true rfl, Nat.le_of_ble_eq_true rfl⟩) hK noP rfl rfl hl.1 (Nat.le_of_ble_eq_true rfl) dX0_billed_8 ⟨Nat.zero_le _, Nat.zero_le _⟩ ?_
  refine lv_aload_n hx hb dX0_billed_11 rfl (lv_at hl 0 rfl) ?_
  refine va_get (D := D) (ci := 0) (v := .ref (a 13)) (C := RX0) (T := TX0) (N := 16) hx hb hts hi hown hK hP 0 rfl rfl 13 (by decide) (hts (.fieldLink RX0 50 "AssignmentHouse" "billedFor" "[I") (by decide +kernel)) (fun _ h9 => h9) rfl dX0_billed_12 ?_
  refine lv_iload_n hx hb dX0_billed_15 rfl (lv_at hl 1 rfl) ?_
  refine lv_bipush (v := 20) hx hb dX0_billed_16 (by decide) ?_
  refine lv_imul hx hb dX0_billed_18 ?_
  refine lv_iload_n hx hb dX0_billed_19 rfl (lv_at hl 2 rfl) ?_
  refine lv_iadd hx hb dX0_billed_20 ?_
  refine Rd.callS (rest := []) ⟨hx, hb, hml, hown, hts⟩ (c_X0_at l D cA (a 13) 80 (F 13) ((z0 * 20) + z1) (z0.toNatClampNeg * 20 + z1.toNatClampNeg) (ix20 ejz0 ejz1) (by omega) (by decide)) (va_cwS 2 hts gX0_billed_X0_at rfl rfl rfl (by decide +kernel) ⟨Nat.le_of_ble_eq_true rfl, Nat.le_of_ble_eq_true rfl⟩) hK (hP.sub [11] rfl) rfl rfl hl.1 (Nat.le_of_ble_eq_true rfl) dX0_billed_21 ⟨Nat.zero_le _, Nat.zero_le _⟩ ?_
  exact hend 24 ls _ dX0_billed_24 (rfl)

set_option maxHeartbeats 4000000 in
set_option maxRecDepth 100000 in
theorem b_X0_billed (l : Launch) (D : va_G) (cA : ClassId) (hl9 : l.stackTraces = false) (a : Nat → Nat) (F : Nat → Nat → Int32) (g : Nat → Int32) (N : Nat) (hW : wf F N) (z0 z1 : Int32) (hk : kSW z0 z1 ≠ 0) : Bx l D cA (wX a cA F g) yX0_billed wsX0_billed rbX0_billed [.ref (a 16), .int z0, .int z1] (exN (kSW z0 z1) eI eA eS) := by
  refine Bx.of (cc := cX0_billed) (maxL := 3) (ret := (some .int)) (by decide) rfl (Nat.le_of_ble_eq_true rfl) ?_
  intro p e s m args below meth c ls hx hb hts hown hml hK hP hl htab hlocks hZ
  have hown : s.vm.findClass RX0 = some m.cls := hown
  have hi : ∀ w ∈ wsX00, w ∈ wsX0_billed := by decide +kernel
  have hl : lv_has ls 3 [(0, .ref (a 16)), (1, .int z0), (2, .int z1)] := hl
  have hN : N ≤ 80 := hW.n
  have hc : F 7 0 = nI N := hW.c
  refine lv_iload_n hx hb dX0_billed_0 rfl (lv_at hl 1 rfl) ?_
  refine lv_iconst (v := 4) hx hb dX0_billed_1 (by decide) ?_
  refine (Classical.em (cI z0 4)).elim (fun h1 => ?_) (fun h1 => ?_)
  rotate_left
  rw [show exN (kSW z0 z1) eI eA eS = eI from by rw [kSW, if_neg h1]; rfl]
  exact Bx.thruS (rest := []) ⟨hx, hb, hml, hown, hts⟩ htab hlocks (b_X0_needOneOf l D cA hl9 z0 4 (cI_n h1)) (va_cwS 2 hts gX0_billed_X0_needOneOf rfl rfl rfl (by decide +kernel) ⟨Nat.le_of_ble_eq_true rfl, Nat.le_of_ble_eq_true rfl⟩) hK noP hZ rfl rfl hl.1 (Nat.le_of_ble_eq_true rfl) dX0_billed_2 ⟨Nat.le_of_ble_eq_true rfl, Nat.le_of_ble_eq_true rfl⟩
  refine Ru.callS (rest := []) ⟨hx, hb, hml, hown, hts⟩ (c_X0_needOneOf l D cA z0 4 h1.1 h1.2) (va_cwS 2 hts gX0_billed_X0_needOneOf rfl rfl rfl (by decide +kernel) ⟨Nat.le_of_ble_eq_true rfl, Nat.le_of_ble_eq_true rfl⟩) hK noP rfl rfl hl.1 (Nat.le_of_ble_eq_true rfl) dX0_billed_2 ⟨Nat.zero_le _, Nat.zero_le _⟩ ?_
  refine lv_iload_n hx hb dX0_billed_5 rfl (lv_at hl 2 rfl) ?_
  refine lv_bipush (v := 20) hx hb dX0_billed_6 (by decide) ?_
  refine (Classical.em (cI z1 20)).elim (fun h2 => ?_) (fun h2 => ?_)
  rotate_left
  rw [show exN (kSW z0 z1) eI eA eS = eI from by rw [kSW, if_pos h1, if_neg h2]; rfl]
  exact Bx.thruS (rest := []) ⟨hx, hb, hml, hown, hts⟩ htab hlocks (b_X0_needOneOf l D cA hl9 z1 20 (cI_n h2)) (va_cwS 2 hts gX0_billed_X0_needOneOf rfl rfl rfl (by decide +kernel) ⟨Nat.le_of_ble_eq_true rfl, Nat.le_of_ble_eq_true rfl⟩) hK noP hZ rfl rfl hl.1 (Nat.le_of_ble_eq_true rfl) dX0_billed_8 ⟨Nat.le_of_ble_eq_true rfl, Nat.le_of_ble_eq_true rfl⟩
  exact absurd (by rw [kSW, if_pos h1, if_pos h2]) hk

set_option maxHeartbeats 4000000 in
set_option maxRecDepth 100000 in
theorem c_X0_pay (l : Launch) (D : va_G) (cA : ClassId) (a : Nat → Nat) (F : Nat → Nat → Int32) (g : Nat → Int32) (N : Nat) (hW : wf F N) (z0 z1 : Int32) (h1 : cI z0 6) (h2 : cI z1 20) : Wi l D cA (S := Nat → Int32) (wX a cA F g) (fun g => wX a cA F g) yX0_pay wsX0_pay rmX0_pay [.ref (a 16), .int z0, .int z1] (fun r _ => r = ps (tPw F N z0 z1) N) := by
  refine Wi.of (cc := cX0_pay) (maxL := 3) (by decide) rfl (Nat.le_of_ble_eq_true rfl) ?_
  intro p e s m args below meth c ls A Q hx hb hts hown hml hK hP hD hA hS hl hend
  have hown : s.vm.findClass RX0 = some m.cls := hown
  have hl : lv_has ls 3 [(0, .ref (a 16)), (1, .int z0), (2, .int z1)] := hl
  have hN : N ≤ 80 := hW.n
  have hc : F 7 0 = nI N := hW.c
  obtain ⟨hjz0, ejz0⟩ := cI_of h1 (n := 6) (rfl) (by omega)
  obtain ⟨hjz1, ejz1⟩ := cI_of h2 (n := 20) (rfl) (by omega)
  refine lv_iload_n hx hb dX0_pay_0 rfl (lv_at hl 1 rfl) ?_
  refine lv_bipush (v := 6) hx hb dX0_pay_1 (by decide) ?_
  refine Ru.callS (rest := []) ⟨hx, hb, hml, hown, hts⟩ (c_X0_needOneOf l D cA z0 6 h1.1 h1.2) (va_cwS 2 hts gX0_pay_X0_needOneOf rfl rfl rfl (by decide +kernel) ⟨Nat.le_of_ble_eq_true rfl, Nat.le_of_ble_eq_true rfl⟩) hK noP rfl rfl hl.1 (Nat.le_of_ble_eq_true rfl) dX0_pay_3 ⟨Nat.zero_le _, Nat.zero_le _⟩ ?_
  refine lv_iload_n hx hb dX0_pay_6 rfl (lv_at hl 2 rfl) ?_
  refine lv_bipush (v := 20) hx hb dX0_pay_7 (by decide) ?_
  refine Ru.callS (rest := []) ⟨hx, hb, hml, hown, hts⟩ (c_X0_needOneOf l D cA z1 20 h2.1 h2.2) (va_cwS 2 hts gX0_pay_X0_needOneOf rfl rfl rfl (by decide +kernel) ⟨Nat.le_of_ble_eq_true rfl, Nat.le_of_ble_eq_true rfl⟩) hK noP rfl rfl hl.1 (Nat.le_of_ble_eq_true rfl) dX0_pay_9 ⟨Nat.zero_le _, Nat.zero_le _⟩ ?_
  refine lv_aload_n hx hb dX0_pay_12 rfl (lv_at hl 0 rfl) ?_
  refine lv_iload_n hx hb dX0_pay_13 rfl (lv_at hl 1 rfl) ?_
  refine lv_iload_n hx hb dX0_pay_14 rfl (lv_at hl 2 rfl) ?_
  refine Wi.callV (rest := []) (q0 := 0) (ci := 0) (wr := []) [0, 1, 2, 3, 4, 5, 6, 7, 8, 9, 10, 11, 12, 13] [] ⟨hx, hb, hml, hown, hts⟩ (c_X0_weekPay l D cA a F g N hW z0 z1) (cwV 2 hts gX0_pay_X0_weekPay rfl rfl rfl (by decide +kernel) ⟨Nat.le_of_ble_eq_true rfl, Nat.le_of_ble_eq_true rfl⟩) hK hP hD hS hA rfl rfl (by decide) (by decide) (by decide) rfl rfl rfl rfl rfl hl.1 (Nat.le_of_ble_eq_true rfl) dX0_pay_15 ⟨Nat.zero_le _, Nat.zero_le _⟩ (fun r15 u15 H locs hu15 hP hD hS => ?_)
  have hP : va_P D vwCl (wX a cA F u15) H := hP
  have hD : va_D A (wX a cA F u15) := hD
  exact hend 18 ls _ (u15) _ _ dX0_pay_18 hP hD hS (hu15)

set_option maxHeartbeats 4000000 in
set_option maxRecDepth 100000 in
theorem b_X0_pay (l : Launch) (D : va_G) (cA : ClassId) (hl9 : l.stackTraces = false) (a : Nat → Nat) (F : Nat → Nat → Int32) (g : Nat → Int32) (N : Nat) (hW : wf F N) (z0 z1 : Int32) (hk : kWW z0 z1 ≠ 0) : Bx l D cA (wX a cA F g) yX0_pay wsX0_pay rbX0_pay [.ref (a 16), .int z0, .int z1] (exN (kWW z0 z1) eI eA eS) := by
  refine Bx.of (cc := cX0_pay) (maxL := 3) (ret := (some .int)) (by decide) rfl (Nat.le_of_ble_eq_true rfl) ?_
  intro p e s m args below meth c ls hx hb hts hown hml hK hP hl htab hlocks hZ
  have hown : s.vm.findClass RX0 = some m.cls := hown
  have hl : lv_has ls 3 [(0, .ref (a 16)), (1, .int z0), (2, .int z1)] := hl
  have hN : N ≤ 80 := hW.n
  have hc : F 7 0 = nI N := hW.c
  refine lv_iload_n hx hb dX0_pay_0 rfl (lv_at hl 1 rfl) ?_
  refine lv_bipush (v := 6) hx hb dX0_pay_1 (by decide) ?_
  refine (Classical.em (cI z0 6)).elim (fun h1 => ?_) (fun h1 => ?_)
  rotate_left
  rw [show exN (kWW z0 z1) eI eA eS = eI from by rw [kWW, if_neg h1]; rfl]
  exact Bx.thruS (rest := []) ⟨hx, hb, hml, hown, hts⟩ htab hlocks (b_X0_needOneOf l D cA hl9 z0 6 (cI_n h1)) (va_cwS 2 hts gX0_pay_X0_needOneOf rfl rfl rfl (by decide +kernel) ⟨Nat.le_of_ble_eq_true rfl, Nat.le_of_ble_eq_true rfl⟩) hK noP hZ rfl rfl hl.1 (Nat.le_of_ble_eq_true rfl) dX0_pay_3 ⟨Nat.le_of_ble_eq_true rfl, Nat.le_of_ble_eq_true rfl⟩
  refine Ru.callS (rest := []) ⟨hx, hb, hml, hown, hts⟩ (c_X0_needOneOf l D cA z0 6 h1.1 h1.2) (va_cwS 2 hts gX0_pay_X0_needOneOf rfl rfl rfl (by decide +kernel) ⟨Nat.le_of_ble_eq_true rfl, Nat.le_of_ble_eq_true rfl⟩) hK noP rfl rfl hl.1 (Nat.le_of_ble_eq_true rfl) dX0_pay_3 ⟨Nat.zero_le _, Nat.zero_le _⟩ ?_
  refine lv_iload_n hx hb dX0_pay_6 rfl (lv_at hl 2 rfl) ?_
  refine lv_bipush (v := 20) hx hb dX0_pay_7 (by decide) ?_
  refine (Classical.em (cI z1 20)).elim (fun h2 => ?_) (fun h2 => ?_)
  rotate_left
  rw [show exN (kWW z0 z1) eI eA eS = eI from by rw [kWW, if_pos h1, if_neg h2]; rfl]
  exact Bx.thruS (rest := []) ⟨hx, hb, hml, hown, hts⟩ htab hlocks (b_X0_needOneOf l D cA hl9 z1 20 (cI_n h2)) (va_cwS 2 hts gX0_pay_X0_needOneOf rfl rfl rfl (by decide +kernel) ⟨Nat.le_of_ble_eq_true rfl, Nat.le_of_ble_eq_true rfl⟩) hK noP hZ rfl rfl hl.1 (Nat.le_of_ble_eq_true rfl) dX0_pay_9 ⟨Nat.le_of_ble_eq_true rfl, Nat.le_of_ble_eq_true rfl⟩
  exact absurd (by rw [kWW, if_pos h1, if_pos h2]) hk

set_option maxHeartbeats 4000000 in
set_option maxRecDepth 100000 in
theorem c_X0_owing (l : Launch) (D : va_G) (cA : ClassId) (a : Nat → Nat) (F : Nat → Nat → Int32) (g : Nat → Int32) (N : Nat) (hW : wf F N) (z0 z1 : Int32) (h1 : cI z0 6) (h2 : cI z1 20) : Wi l D cA (S := Nat → Int32) (wX a cA F g) (fun g => wX a cA F g) yX0_owing wsX0_owing rmX0_owing [.ref (a 16), .int z0, .int z1] (fun r _ => r = ps (tPw F N z0 z1) N - F 12 (z0.toNatClampNeg * 20 + z1.toNatClampNeg)) := by
  refine Wi.of (cc := cX0_owing) (maxL := 3) (by decide) rfl (Nat.le_of_ble_eq_true rfl) ?_
  intro p e s m args below meth c ls A Q hx hb hts hown hml hK hP hD hA hS hl hend
  have hown : s.vm.findClass RX0 = some m.cls := hown
  have hi : ∀ w ∈ wsX00, w ∈ wsX0_owing := by decide +kernel
  have hl : lv_has ls 3 [(0, .ref (a 16)), (1, .int z0), (2, .int z1)] := hl
  have hN : N ≤ 80 := hW.n
  have hc : F 7 0 = nI N := hW.c
  obtain ⟨hjz0, ejz0⟩ := cI_of h1 (n := 6) (rfl) (by omega)
  obtain ⟨hjz1, ejz1⟩ := cI_of h2 (n := 20) (rfl) (by omega)
  refine lv_iload_n hx hb dX0_owing_0 rfl (lv_at hl 1 rfl) ?_
  refine lv_bipush (v := 6) hx hb dX0_owing_1 (by decide) ?_
  refine Ru.callS (rest := []) ⟨hx, hb, hml, hown, hts⟩ (c_X0_needOneOf l D cA z0 6 h1.1 h1.2) (va_cwS 2 hts gX0_owing_X0_needOneOf rfl rfl rfl (by decide +kernel) ⟨Nat.le_of_ble_eq_true rfl, Nat.le_of_ble_eq_true rfl⟩) hK noP rfl rfl hl.1 (Nat.le_of_ble_eq_true rfl) dX0_owing_3 ⟨Nat.zero_le _, Nat.zero_le _⟩ ?_
  refine lv_iload_n hx hb dX0_owing_6 rfl (lv_at hl 2 rfl) ?_
  refine lv_bipush (v := 20) hx hb dX0_owing_7 (by decide) ?_
  refine Ru.callS (rest := []) ⟨hx, hb, hml, hown, hts⟩ (c_X0_needOneOf l D cA z1 20 h2.1 h2.2) (va_cwS 2 hts gX0_owing_X0_needOneOf rfl rfl rfl (by decide +kernel) ⟨Nat.le_of_ble_eq_true rfl, Nat.le_of_ble_eq_true rfl⟩) hK noP rfl rfl hl.1 (Nat.le_of_ble_eq_true rfl) dX0_owing_9 ⟨Nat.zero_le _, Nat.zero_le _⟩ ?_
  refine lv_aload_n hx hb dX0_owing_12 rfl (lv_at hl 0 rfl) ?_
  refine lv_iload_n hx hb dX0_owing_13 rfl (lv_at hl 1 rfl) ?_
  refine lv_iload_n hx hb dX0_owing_14 rfl (lv_at hl 2 rfl) ?_
  refine Wi.callV (rest := []) (q0 := 0) (ci := 0) (wr := []) [0, 1, 2, 3, 4, 5, 6, 7, 8, 9, 10, 11, 12, 13] [] ⟨hx, hb, hml, hown, hts⟩ (c_X0_weekPay l D cA a F g N hW z0 z1) (cwV 2 hts gX0_owing_X0_weekPay rfl rfl rfl (by decide +kernel) ⟨Nat.le_of_ble_eq_true rfl, Nat.le_of_ble_eq_true rfl⟩) hK hP hD hS hA rfl rfl (by decide) (by decide) (by decide) rfl rfl rfl rfl rfl hl.1 (Nat.le_of_ble_eq_true rfl) dX0_owing_15 ⟨Nat.zero_le _, Nat.zero_le _⟩ (fun r15 u15 H locs hu15 hP hD hS => ?_)
  have hP : va_P D vwCl (wX a cA F u15) H := hP
  have hD : va_D A (wX a cA F u15) := hD
  refine lv_aload_n hx hb dX0_owing_18 rfl (lv_at hl 0 rfl) ?_
  refine va_get (D := D) (ci := 0) (v := .ref (a 12)) (C := RX0) (T := TX0) (N := 16) hx hb hts hi hown hK hP 0 rfl rfl 12 (by decide) (hts (.fieldLink RX0 47 "AssignmentHouse" "paidFor" "[I") (by decide +kernel)) (fun _ h9 => h9) rfl dX0_owing_19 ?_
  refine lv_iload_n hx hb dX0_owing_22 rfl (lv_at hl 1 rfl) ?_
  refine lv_bipush (v := 20) hx hb dX0_owing_23 (by decide) ?_
  refine lv_imul hx hb dX0_owing_25 ?_
  refine lv_iload_n hx hb dX0_owing_26 rfl (lv_at hl 2 rfl) ?_
  refine lv_iadd hx hb dX0_owing_27 ?_
  refine Rd.callS (rest := [.int r15]) ⟨hx, hb, hml, hown, hts⟩ (c_X0_at l D cA (a 12) 120 (F 12) ((z0 * 20) + z1) (z0.toNatClampNeg * 20 + z1.toNatClampNeg) (ix20 ejz0 ejz1) (by omega) (by decide)) (va_cwS 2 hts gX0_owing_X0_at rfl rfl rfl (by decide +kernel) ⟨Nat.le_of_ble_eq_true rfl, Nat.le_of_ble_eq_true rfl⟩) hK (hP.sub [10] rfl) rfl rfl hl.1 (Nat.le_of_ble_eq_true rfl) dX0_owing_28 ⟨Nat.zero_le _, Nat.zero_le _⟩ ?_
  refine lv_isub hx hb dX0_owing_31 ?_
  exact hend 32 ls _ (u15) _ _ dX0_owing_32 hP hD hS (by rw [hu15])

set_option maxHeartbeats 4000000 in
set_option maxRecDepth 100000 in
theorem b_X0_owing (l : Launch) (D : va_G) (cA : ClassId) (hl9 : l.stackTraces = false) (a : Nat → Nat) (F : Nat → Nat → Int32) (g : Nat → Int32) (N : Nat) (hW : wf F N) (z0 z1 : Int32) (hk : kWW z0 z1 ≠ 0) : Bx l D cA (wX a cA F g) yX0_owing wsX0_owing rbX0_owing [.ref (a 16), .int z0, .int z1] (exN (kWW z0 z1) eI eA eS) := by
  refine Bx.of (cc := cX0_owing) (maxL := 3) (ret := (some .int)) (by decide) rfl (Nat.le_of_ble_eq_true rfl) ?_
  intro p e s m args below meth c ls hx hb hts hown hml hK hP hl htab hlocks hZ
  have hown : s.vm.findClass RX0 = some m.cls := hown
  have hi : ∀ w ∈ wsX00, w ∈ wsX0_owing := by decide +kernel
  have hl : lv_has ls 3 [(0, .ref (a 16)), (1, .int z0), (2, .int z1)] := hl
  have hN : N ≤ 80 := hW.n
  have hc : F 7 0 = nI N := hW.c
  refine lv_iload_n hx hb dX0_owing_0 rfl (lv_at hl 1 rfl) ?_
  refine lv_bipush (v := 6) hx hb dX0_owing_1 (by decide) ?_
  refine (Classical.em (cI z0 6)).elim (fun h1 => ?_) (fun h1 => ?_)
  rotate_left
  rw [show exN (kWW z0 z1) eI eA eS = eI from by rw [kWW, if_neg h1]; rfl]
  exact Bx.thruS (rest := []) ⟨hx, hb, hml, hown, hts⟩ htab hlocks (b_X0_needOneOf l D cA hl9 z0 6 (cI_n h1)) (va_cwS 2 hts gX0_owing_X0_needOneOf rfl rfl rfl (by decide +kernel) ⟨Nat.le_of_ble_eq_true rfl, Nat.le_of_ble_eq_true rfl⟩) hK noP hZ rfl rfl hl.1 (Nat.le_of_ble_eq_true rfl) dX0_owing_3 ⟨Nat.le_of_ble_eq_true rfl, Nat.le_of_ble_eq_true rfl⟩
  refine Ru.callS (rest := []) ⟨hx, hb, hml, hown, hts⟩ (c_X0_needOneOf l D cA z0 6 h1.1 h1.2) (va_cwS 2 hts gX0_owing_X0_needOneOf rfl rfl rfl (by decide +kernel) ⟨Nat.le_of_ble_eq_true rfl, Nat.le_of_ble_eq_true rfl⟩) hK noP rfl rfl hl.1 (Nat.le_of_ble_eq_true rfl) dX0_owing_3 ⟨Nat.zero_le _, Nat.zero_le _⟩ ?_
  refine lv_iload_n hx hb dX0_owing_6 rfl (lv_at hl 2 rfl) ?_
  refine lv_bipush (v := 20) hx hb dX0_owing_7 (by decide) ?_
  refine (Classical.em (cI z1 20)).elim (fun h2 => ?_) (fun h2 => ?_)
  rotate_left
  rw [show exN (kWW z0 z1) eI eA eS = eI from by rw [kWW, if_pos h1, if_neg h2]; rfl]
  exact Bx.thruS (rest := []) ⟨hx, hb, hml, hown, hts⟩ htab hlocks (b_X0_needOneOf l D cA hl9 z1 20 (cI_n h2)) (va_cwS 2 hts gX0_owing_X0_needOneOf rfl rfl rfl (by decide +kernel) ⟨Nat.le_of_ble_eq_true rfl, Nat.le_of_ble_eq_true rfl⟩) hK noP hZ rfl rfl hl.1 (Nat.le_of_ble_eq_true rfl) dX0_owing_9 ⟨Nat.le_of_ble_eq_true rfl, Nat.le_of_ble_eq_true rfl⟩
  exact absurd (by rw [kWW, if_pos h1, if_pos h2]) hk

set_option maxHeartbeats 4000000 in
set_option maxRecDepth 100000 in
theorem c_X0_toBill (l : Launch) (D : va_G) (cA : ClassId) (a : Nat → Nat) (F : Nat → Nat → Int32) (g : Nat → Int32) (N : Nat) (hW : wf F N) (z0 z1 : Int32) (h1 : cI z0 4) (h2 : cI z1 20) : Wi l D cA (S := Nat → Int32) (wX a cA F g) (fun g => wX a cA F g) yX0_toBill wsX0_toBill rmX0_toBill [.ref (a 16), .int z0, .int z1] (fun r _ => r = ps (tCt F N z0 z1) N - F 13 (z0.toNatClampNeg * 20 + z1.toNatClampNeg)) := by
  refine Wi.of (cc := cX0_toBill) (maxL := 3) (by decide) rfl (Nat.le_of_ble_eq_true rfl) ?_
  intro p e s m args below meth c ls A Q hx hb hts hown hml hK hP hD hA hS hl hend
  have hown : s.vm.findClass RX0 = some m.cls := hown
  have hi : ∀ w ∈ wsX00, w ∈ wsX0_toBill := by decide +kernel
  have hl : lv_has ls 3 [(0, .ref (a 16)), (1, .int z0), (2, .int z1)] := hl
  have hN : N ≤ 80 := hW.n
  have hc : F 7 0 = nI N := hW.c
  obtain ⟨hjz0, ejz0⟩ := cI_of h1 (n := 4) (rfl) (by omega)
  obtain ⟨hjz1, ejz1⟩ := cI_of h2 (n := 20) (rfl) (by omega)
  refine lv_iload_n hx hb dX0_toBill_0 rfl (lv_at hl 1 rfl) ?_
  refine lv_iconst (v := 4) hx hb dX0_toBill_1 (by decide) ?_
  refine Ru.callS (rest := []) ⟨hx, hb, hml, hown, hts⟩ (c_X0_needOneOf l D cA z0 4 h1.1 h1.2) (va_cwS 2 hts gX0_toBill_X0_needOneOf rfl rfl rfl (by decide +kernel) ⟨Nat.le_of_ble_eq_true rfl, Nat.le_of_ble_eq_true rfl⟩) hK noP rfl rfl hl.1 (Nat.le_of_ble_eq_true rfl) dX0_toBill_2 ⟨Nat.zero_le _, Nat.zero_le _⟩ ?_
  refine lv_iload_n hx hb dX0_toBill_5 rfl (lv_at hl 2 rfl) ?_
  refine lv_bipush (v := 20) hx hb dX0_toBill_6 (by decide) ?_
  refine Ru.callS (rest := []) ⟨hx, hb, hml, hown, hts⟩ (c_X0_needOneOf l D cA z1 20 h2.1 h2.2) (va_cwS 2 hts gX0_toBill_X0_needOneOf rfl rfl rfl (by decide +kernel) ⟨Nat.le_of_ble_eq_true rfl, Nat.le_of_ble_eq_true rfl⟩) hK noP rfl rfl hl.1 (Nat.le_of_ble_eq_true rfl) dX0_toBill_8 ⟨Nat.zero_le _, Nat.zero_le _⟩ ?_
  refine lv_aload_n hx hb dX0_toBill_11 rfl (lv_at hl 0 rfl) ?_
  refine lv_iload_n hx hb dX0_toBill_12 rfl (lv_at hl 1 rfl) ?_
  refine lv_iload_n hx hb dX0_toBill_13 rfl (lv_at hl 2 rfl) ?_
  refine Wi.callV (rest := []) (q0 := 0) (ci := 0) (wr := []) [0, 1, 2, 3, 4, 5, 6, 7, 8, 9, 10, 11, 12, 13] [] ⟨hx, hb, hml, hown, hts⟩ (c_X0_weekCharge l D cA a F g N hW z0 z0.toNatClampNeg ejz0 hjz0 z1) (cwV 2 hts gX0_toBill_X0_weekCharge rfl rfl rfl (by decide +kernel) ⟨Nat.le_of_ble_eq_true rfl, Nat.le_of_ble_eq_true rfl⟩) hK hP hD hS hA rfl rfl (by decide) (by decide) (by decide) rfl rfl rfl rfl rfl hl.1 (Nat.le_of_ble_eq_true rfl) dX0_toBill_14 ⟨Nat.zero_le _, Nat.zero_le _⟩ (fun r14 u14 H locs hu14 hP hD hS => ?_)
  have hP : va_P D vwCl (wX a cA F u14) H := hP
  have hD : va_D A (wX a cA F u14) := hD
  refine lv_aload_n hx hb dX0_toBill_17 rfl (lv_at hl 0 rfl) ?_
  refine va_get (D := D) (ci := 0) (v := .ref (a 13)) (C := RX0) (T := TX0) (N := 16) hx hb hts hi hown hK hP 0 rfl rfl 13 (by decide) (hts (.fieldLink RX0 50 "AssignmentHouse" "billedFor" "[I") (by decide +kernel)) (fun _ h9 => h9) rfl dX0_toBill_18 ?_
  refine lv_iload_n hx hb dX0_toBill_21 rfl (lv_at hl 1 rfl) ?_
  refine lv_bipush (v := 20) hx hb dX0_toBill_22 (by decide) ?_
  refine lv_imul hx hb dX0_toBill_24 ?_
  refine lv_iload_n hx hb dX0_toBill_25 rfl (lv_at hl 2 rfl) ?_
  refine lv_iadd hx hb dX0_toBill_26 ?_
  refine Rd.callS (rest := [.int r14]) ⟨hx, hb, hml, hown, hts⟩ (c_X0_at l D cA (a 13) 80 (F 13) ((z0 * 20) + z1) (z0.toNatClampNeg * 20 + z1.toNatClampNeg) (ix20 ejz0 ejz1) (by omega) (by decide)) (va_cwS 2 hts gX0_toBill_X0_at rfl rfl rfl (by decide +kernel) ⟨Nat.le_of_ble_eq_true rfl, Nat.le_of_ble_eq_true rfl⟩) hK (hP.sub [11] rfl) rfl rfl hl.1 (Nat.le_of_ble_eq_true rfl) dX0_toBill_27 ⟨Nat.zero_le _, Nat.zero_le _⟩ ?_
  refine lv_isub hx hb dX0_toBill_30 ?_
  exact hend 31 ls _ (u14) _ _ dX0_toBill_31 hP hD hS (by rw [hu14])

set_option maxHeartbeats 4000000 in
set_option maxRecDepth 100000 in
theorem b_X0_toBill (l : Launch) (D : va_G) (cA : ClassId) (hl9 : l.stackTraces = false) (a : Nat → Nat) (F : Nat → Nat → Int32) (g : Nat → Int32) (N : Nat) (hW : wf F N) (z0 z1 : Int32) (hk : kSW z0 z1 ≠ 0) : Bx l D cA (wX a cA F g) yX0_toBill wsX0_toBill rbX0_toBill [.ref (a 16), .int z0, .int z1] (exN (kSW z0 z1) eI eA eS) := by
  refine Bx.of (cc := cX0_toBill) (maxL := 3) (ret := (some .int)) (by decide) rfl (Nat.le_of_ble_eq_true rfl) ?_
  intro p e s m args below meth c ls hx hb hts hown hml hK hP hl htab hlocks hZ
  have hown : s.vm.findClass RX0 = some m.cls := hown
  have hi : ∀ w ∈ wsX00, w ∈ wsX0_toBill := by decide +kernel
  have hl : lv_has ls 3 [(0, .ref (a 16)), (1, .int z0), (2, .int z1)] := hl
  have hN : N ≤ 80 := hW.n
  have hc : F 7 0 = nI N := hW.c
  refine lv_iload_n hx hb dX0_toBill_0 rfl (lv_at hl 1 rfl) ?_
  refine lv_iconst (v := 4) hx hb dX0_toBill_1 (by decide) ?_
  refine (Classical.em (cI z0 4)).elim (fun h1 => ?_) (fun h1 => ?_)
  rotate_left
  rw [show exN (kSW z0 z1) eI eA eS = eI from by rw [kSW, if_neg h1]; rfl]
  exact Bx.thruS (rest := []) ⟨hx, hb, hml, hown, hts⟩ htab hlocks (b_X0_needOneOf l D cA hl9 z0 4 (cI_n h1)) (va_cwS 2 hts gX0_toBill_X0_needOneOf rfl rfl rfl (by decide +kernel) ⟨Nat.le_of_ble_eq_true rfl, Nat.le_of_ble_eq_true rfl⟩) hK noP hZ rfl rfl hl.1 (Nat.le_of_ble_eq_true rfl) dX0_toBill_2 ⟨Nat.le_of_ble_eq_true rfl, Nat.le_of_ble_eq_true rfl⟩
  refine Ru.callS (rest := []) ⟨hx, hb, hml, hown, hts⟩ (c_X0_needOneOf l D cA z0 4 h1.1 h1.2) (va_cwS 2 hts gX0_toBill_X0_needOneOf rfl rfl rfl (by decide +kernel) ⟨Nat.le_of_ble_eq_true rfl, Nat.le_of_ble_eq_true rfl⟩) hK noP rfl rfl hl.1 (Nat.le_of_ble_eq_true rfl) dX0_toBill_2 ⟨Nat.zero_le _, Nat.zero_le _⟩ ?_
  refine lv_iload_n hx hb dX0_toBill_5 rfl (lv_at hl 2 rfl) ?_
  refine lv_bipush (v := 20) hx hb dX0_toBill_6 (by decide) ?_
  refine (Classical.em (cI z1 20)).elim (fun h2 => ?_) (fun h2 => ?_)
  rotate_left
  rw [show exN (kSW z0 z1) eI eA eS = eI from by rw [kSW, if_pos h1, if_neg h2]; rfl]
  exact Bx.thruS (rest := []) ⟨hx, hb, hml, hown, hts⟩ htab hlocks (b_X0_needOneOf l D cA hl9 z1 20 (cI_n h2)) (va_cwS 2 hts gX0_toBill_X0_needOneOf rfl rfl rfl (by decide +kernel) ⟨Nat.le_of_ble_eq_true rfl, Nat.le_of_ble_eq_true rfl⟩) hK noP hZ rfl rfl hl.1 (Nat.le_of_ble_eq_true rfl) dX0_toBill_8 ⟨Nat.le_of_ble_eq_true rfl, Nat.le_of_ble_eq_true rfl⟩
  exact absurd (by rw [kSW, if_pos h1, if_pos h2]) hk

set_option maxHeartbeats 4000000 in
set_option maxRecDepth 100000 in
theorem c_X0_hasEqual (l : Launch) (D : va_G) (cA : ClassId) (a : Nat → Nat) (F : Nat → Nat → Int32) (g : Nat → Int32) (N : Nat) (hW : wf F N) (z0 z1 z2 : Int32) (h1 : cI z0 6) (h2 : cI z1 4) (h3 : cI z2 20) : Rd l D cA (wX a cA F g) yX0_hasEqual wsX0_hasEqual rmX0_hasEqual [.ref (a 16), .int z0, .int z1, .int z2] (if F 5 0 ≤ sEqV F N z0 z1 z2.toNatClampNeg then 1 else 0) := by
  refine Rd.ofz (cc := cX0_hasEqual) (maxL := 4) (by decide) rfl (Nat.le_of_ble_eq_true rfl) ?_
  intro p e s m args below meth c ls Q hx hb hts hown hml hK hP hl hend
  have hown : s.vm.findClass RX0 = some m.cls := hown
  have hl : lv_has ls 4 [(0, .ref (a 16)), (1, .int z0), (2, .int z1), (3, .int z2)] := hl
  have hN : N ≤ 80 := hW.n
  have hc : F 7 0 = nI N := hW.c
  obtain ⟨hjz2, ejz2⟩ := cI_of h3 (n := 20) (rfl) (by omega)
  refine lv_iload_n hx hb dX0_hasEqual_0 rfl (lv_at hl 1 rfl) ?_
  refine lv_bipush (v := 6) hx hb dX0_hasEqual_1 (by decide) ?_
  refine Ru.callS (rest := []) ⟨hx, hb, hml, hown, hts⟩ (c_X0_needOneOf l D cA z0 6 h1.1 h1.2) (va_cwS 2 hts gX0_hasEqual_X0_needOneOf rfl rfl rfl (by decide +kernel) ⟨Nat.le_of_ble_eq_true rfl, Nat.le_of_ble_eq_true rfl⟩) hK noP rfl rfl hl.1 (Nat.le_of_ble_eq_true rfl) dX0_hasEqual_3 ⟨Nat.zero_le _, Nat.zero_le _⟩ ?_
  refine lv_iload_n hx hb dX0_hasEqual_6 rfl (lv_at hl 2 rfl) ?_
  refine lv_iconst (v := 4) hx hb dX0_hasEqual_7 (by decide) ?_
  refine Ru.callS (rest := []) ⟨hx, hb, hml, hown, hts⟩ (c_X0_needOneOf l D cA z1 4 h2.1 h2.2) (va_cwS 2 hts gX0_hasEqual_X0_needOneOf rfl rfl rfl (by decide +kernel) ⟨Nat.le_of_ble_eq_true rfl, Nat.le_of_ble_eq_true rfl⟩) hK noP rfl rfl hl.1 (Nat.le_of_ble_eq_true rfl) dX0_hasEqual_8 ⟨Nat.zero_le _, Nat.zero_le _⟩ ?_
  refine lv_iload_n hx hb dX0_hasEqual_11 rfl (lv_at hl 3 rfl) ?_
  refine lv_bipush (v := 20) hx hb dX0_hasEqual_12 (by decide) ?_
  refine Ru.callS (rest := []) ⟨hx, hb, hml, hown, hts⟩ (c_X0_needOneOf l D cA z2 20 h3.1 h3.2) (va_cwS 2 hts gX0_hasEqual_X0_needOneOf rfl rfl rfl (by decide +kernel) ⟨Nat.le_of_ble_eq_true rfl, Nat.le_of_ble_eq_true rfl⟩) hK noP rfl rfl hl.1 (Nat.le_of_ble_eq_true rfl) dX0_hasEqual_14 ⟨Nat.zero_le _, Nat.zero_le _⟩ ?_
  refine lv_aload_n hx hb dX0_hasEqual_17 rfl (lv_at hl 0 rfl) ?_
  refine lv_iload_n hx hb dX0_hasEqual_18 rfl (lv_at hl 1 rfl) ?_
  refine lv_iload_n hx hb dX0_hasEqual_19 rfl (lv_at hl 2 rfl) ?_
  refine lv_iload_n hx hb dX0_hasEqual_20 rfl (lv_at hl 3 rfl) ?_
  refine Rd.callV (rest := []) (q0 := 0) (ci := 0) ⟨hx, hb, hml, hown, hts⟩ (c_X0_isEqual l D cA a F g N hW z0 z1 z2 z2.toNatClampNeg ejz2 (by omega)) (cwV 3 hts gX0_hasEqual_X0_isEqual rfl rfl rfl (by decide +kernel) ⟨Nat.le_of_ble_eq_true rfl, Nat.le_of_ble_eq_true rfl⟩) hK hP rfl rfl rfl rfl rfl hl.1 (Nat.le_of_ble_eq_true rfl) dX0_hasEqual_21 ⟨Nat.zero_le _, Nat.zero_le _⟩ ?_
  exact hend 24 ls _ dX0_hasEqual_24 (rfl) (by (first | exact Or.inl rfl | exact Or.inr rfl | (split <;> simp)))

set_option maxHeartbeats 4000000 in
set_option maxRecDepth 100000 in
theorem b_X0_hasEqual (l : Launch) (D : va_G) (cA : ClassId) (hl9 : l.stackTraces = false) (a : Nat → Nat) (F : Nat → Nat → Int32) (g : Nat → Int32) (N : Nat) (hW : wf F N) (z0 z1 z2 : Int32) (hk : kWSW z0 z1 z2 ≠ 0) : Bx l D cA (wX a cA F g) yX0_hasEqual wsX0_hasEqual rbX0_hasEqual [.ref (a 16), .int z0, .int z1, .int z2] (exN (kWSW z0 z1 z2) eI eA eS) := by
  refine Bx.of (cc := cX0_hasEqual) (maxL := 4) (ret := (some .boolean)) (by decide) rfl (Nat.le_of_ble_eq_true rfl) ?_
  intro p e s m args below meth c ls hx hb hts hown hml hK hP hl htab hlocks hZ
  have hown : s.vm.findClass RX0 = some m.cls := hown
  have hl : lv_has ls 4 [(0, .ref (a 16)), (1, .int z0), (2, .int z1), (3, .int z2)] := hl
  have hN : N ≤ 80 := hW.n
  have hc : F 7 0 = nI N := hW.c
  refine lv_iload_n hx hb dX0_hasEqual_0 rfl (lv_at hl 1 rfl) ?_
  refine lv_bipush (v := 6) hx hb dX0_hasEqual_1 (by decide) ?_
  refine (Classical.em (cI z0 6)).elim (fun h1 => ?_) (fun h1 => ?_)
  rotate_left
  rw [show exN (kWSW z0 z1 z2) eI eA eS = eI from by rw [kWSW, if_neg h1]; rfl]
  exact Bx.thruS (rest := []) ⟨hx, hb, hml, hown, hts⟩ htab hlocks (b_X0_needOneOf l D cA hl9 z0 6 (cI_n h1)) (va_cwS 2 hts gX0_hasEqual_X0_needOneOf rfl rfl rfl (by decide +kernel) ⟨Nat.le_of_ble_eq_true rfl, Nat.le_of_ble_eq_true rfl⟩) hK noP hZ rfl rfl hl.1 (Nat.le_of_ble_eq_true rfl) dX0_hasEqual_3 ⟨Nat.le_of_ble_eq_true rfl, Nat.le_of_ble_eq_true rfl⟩
  refine Ru.callS (rest := []) ⟨hx, hb, hml, hown, hts⟩ (c_X0_needOneOf l D cA z0 6 h1.1 h1.2) (va_cwS 2 hts gX0_hasEqual_X0_needOneOf rfl rfl rfl (by decide +kernel) ⟨Nat.le_of_ble_eq_true rfl, Nat.le_of_ble_eq_true rfl⟩) hK noP rfl rfl hl.1 (Nat.le_of_ble_eq_true rfl) dX0_hasEqual_3 ⟨Nat.zero_le _, Nat.zero_le _⟩ ?_
  refine lv_iload_n hx hb dX0_hasEqual_6 rfl (lv_at hl 2 rfl) ?_
  refine lv_iconst (v := 4) hx hb dX0_hasEqual_7 (by decide) ?_
  refine (Classical.em (cI z1 4)).elim (fun h2 => ?_) (fun h2 => ?_)
  rotate_left
  rw [show exN (kWSW z0 z1 z2) eI eA eS = eI from by rw [kWSW, if_pos h1, if_neg h2]; rfl]
  exact Bx.thruS (rest := []) ⟨hx, hb, hml, hown, hts⟩ htab hlocks (b_X0_needOneOf l D cA hl9 z1 4 (cI_n h2)) (va_cwS 2 hts gX0_hasEqual_X0_needOneOf rfl rfl rfl (by decide +kernel) ⟨Nat.le_of_ble_eq_true rfl, Nat.le_of_ble_eq_true rfl⟩) hK noP hZ rfl rfl hl.1 (Nat.le_of_ble_eq_true rfl) dX0_hasEqual_8 ⟨Nat.le_of_ble_eq_true rfl, Nat.le_of_ble_eq_true rfl⟩
  refine Ru.callS (rest := []) ⟨hx, hb, hml, hown, hts⟩ (c_X0_needOneOf l D cA z1 4 h2.1 h2.2) (va_cwS 2 hts gX0_hasEqual_X0_needOneOf rfl rfl rfl (by decide +kernel) ⟨Nat.le_of_ble_eq_true rfl, Nat.le_of_ble_eq_true rfl⟩) hK noP rfl rfl hl.1 (Nat.le_of_ble_eq_true rfl) dX0_hasEqual_8 ⟨Nat.zero_le _, Nat.zero_le _⟩ ?_
  refine lv_iload_n hx hb dX0_hasEqual_11 rfl (lv_at hl 3 rfl) ?_
  refine lv_bipush (v := 20) hx hb dX0_hasEqual_12 (by decide) ?_
  refine (Classical.em (cI z2 20)).elim (fun h3 => ?_) (fun h3 => ?_)
  rotate_left
  rw [show exN (kWSW z0 z1 z2) eI eA eS = eI from by rw [kWSW, if_pos h1, if_pos h2, if_neg h3]; rfl]
  exact Bx.thruS (rest := []) ⟨hx, hb, hml, hown, hts⟩ htab hlocks (b_X0_needOneOf l D cA hl9 z2 20 (cI_n h3)) (va_cwS 2 hts gX0_hasEqual_X0_needOneOf rfl rfl rfl (by decide +kernel) ⟨Nat.le_of_ble_eq_true rfl, Nat.le_of_ble_eq_true rfl⟩) hK noP hZ rfl rfl hl.1 (Nat.le_of_ble_eq_true rfl) dX0_hasEqual_14 ⟨Nat.le_of_ble_eq_true rfl, Nat.le_of_ble_eq_true rfl⟩
  exact absurd (by rw [kWSW, if_pos h1, if_pos h2, if_pos h3]) hk

set_option maxHeartbeats 4000000 in
set_option maxRecDepth 100000 in
theorem c_X0_overtime (l : Launch) (D : va_G) (cA : ClassId) (a : Nat → Nat) (F : Nat → Nat → Int32) (g : Nat → Int32) (N : Nat) (hW : wf F N) (z0 : Int32) (h1 : cI z0 (F 7 0)) : Wi l D cA (S := Nat → Int32) (wX a cA F g) (fun g => wX a cA F g) yX0_overtime wsX0_overtime rmX0_overtime [.ref (a 16), .int z0] (fun r _ => r = sOv F N z0.toNatClampNeg) := by
  refine Wi.of (cc := cX0_overtime) (maxL := 2) (by decide) rfl (Nat.le_of_ble_eq_true rfl) ?_
  intro p e s m args below meth c ls A Q hx hb hts hown hml hK hP hD hA hS hl hend
  have hown : s.vm.findClass RX0 = some m.cls := hown
  have hi : ∀ w ∈ wsX00, w ∈ wsX0_overtime := by decide +kernel
  have hl : lv_has ls 2 [(0, .ref (a 16)), (1, .int z0)] := hl
  have hN : N ≤ 80 := hW.n
  have hc : F 7 0 = nI N := hW.c
  obtain ⟨hjz0, ejz0⟩ := cI_of h1 (n := N) (hc) (by omega)
  refine lv_iload_n hx hb dX0_overtime_0 rfl (lv_at hl 1 rfl) ?_
  refine lv_aload_n hx hb dX0_overtime_1 rfl (lv_at hl 0 rfl) ?_
  refine va_get (D := D) (ci := 0) (v := .int (F 7 0)) (C := RX0) (T := TX0) (N := 16) hx hb hts hi hown hK hP 0 rfl rfl 7 (by decide) (hts (.fieldLink RX0 32 "AssignmentHouse" "shiftCount" "I") (by decide +kernel)) (fun _ h9 => h9) rfl dX0_overtime_2 ?_
  refine Ru.callS (rest := []) ⟨hx, hb, hml, hown, hts⟩ (c_X0_needOneOf l D cA z0 (F 7 0) h1.1 h1.2) (va_cwS 2 hts gX0_overtime_X0_needOneOf rfl rfl rfl (by decide +kernel) ⟨Nat.le_of_ble_eq_true rfl, Nat.le_of_ble_eq_true rfl⟩) hK noP rfl rfl hl.1 (Nat.le_of_ble_eq_true rfl) dX0_overtime_5 ⟨Nat.zero_le _, Nat.zero_le _⟩ ?_
  refine lv_aload_n hx hb dX0_overtime_8 rfl (lv_at hl 0 rfl) ?_
  refine lv_iload_n hx hb dX0_overtime_9 rfl (lv_at hl 1 rfl) ?_
  refine Wi.callV (rest := []) (q0 := 0) (ci := 0) (wr := []) [0, 1, 2, 3, 4, 5, 6, 7, 8, 9, 10, 11, 12, 13] [] ⟨hx, hb, hml, hown, hts⟩ (c_X0_overtimeHours l D cA a F g N hW z0 z0.toNatClampNeg ejz0 hjz0) (cwV 1 hts gX0_overtime_X0_overtimeHours rfl rfl rfl (by decide +kernel) ⟨Nat.le_of_ble_eq_true rfl, Nat.le_of_ble_eq_true rfl⟩) hK hP hD hS hA rfl rfl (by decide) (by decide) (by decide) rfl rfl rfl rfl rfl hl.1 (Nat.le_of_ble_eq_true rfl) dX0_overtime_10 ⟨Nat.zero_le _, Nat.zero_le _⟩ (fun r10 u10 H locs hu10 hP hD hS => ?_)
  have hP : va_P D vwCl (wX a cA F u10) H := hP
  have hD : va_D A (wX a cA F u10) := hD
  exact hend 13 ls _ (u10) _ _ dX0_overtime_13 hP hD hS (hu10)

set_option maxHeartbeats 4000000 in
set_option maxRecDepth 100000 in
theorem b_X0_overtime (l : Launch) (D : va_G) (cA : ClassId) (hl9 : l.stackTraces = false) (a : Nat → Nat) (F : Nat → Nat → Int32) (g : Nat → Int32) (N : Nat) (hW : wf F N) (z0 : Int32) (hk : kSh F z0 ≠ 0) : Bx l D cA (wX a cA F g) yX0_overtime wsX0_overtime rbX0_overtime [.ref (a 16), .int z0] (exN (kSh F z0) eI eA eS) := by
  refine Bx.of (cc := cX0_overtime) (maxL := 2) (ret := (some .int)) (by decide) rfl (Nat.le_of_ble_eq_true rfl) ?_
  intro p e s m args below meth c ls hx hb hts hown hml hK hP hl htab hlocks hZ
  have hown : s.vm.findClass RX0 = some m.cls := hown
  have hi : ∀ w ∈ wsX00, w ∈ wsX0_overtime := by decide +kernel
  have hl : lv_has ls 2 [(0, .ref (a 16)), (1, .int z0)] := hl
  have hN : N ≤ 80 := hW.n
  have hc : F 7 0 = nI N := hW.c
  refine lv_iload_n hx hb dX0_overtime_0 rfl (lv_at hl 1 rfl) ?_
  refine lv_aload_n hx hb dX0_overtime_1 rfl (lv_at hl 0 rfl) ?_
  refine va_get (D := D) (ci := 0) (v := .int (F 7 0)) (C := RX0) (T := TX0) (N := 16) hx hb hts hi hown hK hP 0 rfl rfl 7 (by decide) (hts (.fieldLink RX0 32 "AssignmentHouse" "shiftCount" "I") (by decide +kernel)) (fun _ h9 => h9) rfl dX0_overtime_2 ?_
  refine (Classical.em (cI z0 (F 7 0))).elim (fun h1 => ?_) (fun h1 => ?_)
  rotate_left
  rw [show exN (kSh F z0) eI eA eS = eI from by rw [kSh, if_neg h1]; rfl]
  exact Bx.thruS (rest := []) ⟨hx, hb, hml, hown, hts⟩ htab hlocks (b_X0_needOneOf l D cA hl9 z0 (F 7 0) (cI_n h1)) (va_cwS 2 hts gX0_overtime_X0_needOneOf rfl rfl rfl (by decide +kernel) ⟨Nat.le_of_ble_eq_true rfl, Nat.le_of_ble_eq_true rfl⟩) hK noP hZ rfl rfl hl.1 (Nat.le_of_ble_eq_true rfl) dX0_overtime_5 ⟨Nat.le_of_ble_eq_true rfl, Nat.le_of_ble_eq_true rfl⟩
  exact absurd (by rw [kSh, if_pos h1]) hk

set_option maxHeartbeats 4000000 in
set_option maxRecDepth 100000 in
theorem c_X0_payOf (l : Launch) (D : va_G) (cA : ClassId) (a : Nat → Nat) (F : Nat → Nat → Int32) (g : Nat → Int32) (N : Nat) (hW : wf F N) (z0 : Int32) (h1 : cI z0 (F 7 0)) : Wi l D cA (S := Nat → Int32) (wX a cA F g) (fun g => wX a cA F g) yX0_payOf wsX0_payOf rmX0_payOf [.ref (a 16), .int z0] (fun r _ => r = sPy F N z0.toNatClampNeg) := by
  refine Wi.of (cc := cX0_payOf) (maxL := 2) (by decide) rfl (Nat.le_of_ble_eq_true rfl) ?_
  intro p e s m args below meth c ls A Q hx hb hts hown hml hK hP hD hA hS hl hend
  have hown : s.vm.findClass RX0 = some m.cls := hown
  have hi : ∀ w ∈ wsX00, w ∈ wsX0_payOf := by decide +kernel
  have hl : lv_has ls 2 [(0, .ref (a 16)), (1, .int z0)] := hl
  have hN : N ≤ 80 := hW.n
  have hc : F 7 0 = nI N := hW.c
  obtain ⟨hjz0, ejz0⟩ := cI_of h1 (n := N) (hc) (by omega)
  refine lv_iload_n hx hb dX0_payOf_0 rfl (lv_at hl 1 rfl) ?_
  refine lv_aload_n hx hb dX0_payOf_1 rfl (lv_at hl 0 rfl) ?_
  refine va_get (D := D) (ci := 0) (v := .int (F 7 0)) (C := RX0) (T := TX0) (N := 16) hx hb hts hi hown hK hP 0 rfl rfl 7 (by decide) (hts (.fieldLink RX0 32 "AssignmentHouse" "shiftCount" "I") (by decide +kernel)) (fun _ h9 => h9) rfl dX0_payOf_2 ?_
  refine Ru.callS (rest := []) ⟨hx, hb, hml, hown, hts⟩ (c_X0_needOneOf l D cA z0 (F 7 0) h1.1 h1.2) (va_cwS 2 hts gX0_payOf_X0_needOneOf rfl rfl rfl (by decide +kernel) ⟨Nat.le_of_ble_eq_true rfl, Nat.le_of_ble_eq_true rfl⟩) hK noP rfl rfl hl.1 (Nat.le_of_ble_eq_true rfl) dX0_payOf_5 ⟨Nat.zero_le _, Nat.zero_le _⟩ ?_
  refine lv_aload_n hx hb dX0_payOf_8 rfl (lv_at hl 0 rfl) ?_
  refine lv_iload_n hx hb dX0_payOf_9 rfl (lv_at hl 1 rfl) ?_
  refine Wi.callV (rest := []) (q0 := 0) (ci := 0) (wr := []) [0, 1, 2, 3, 4, 5, 6, 7, 8, 9, 10, 11, 12, 13] [] ⟨hx, hb, hml, hown, hts⟩ (c_X0_shiftPay l D cA a F g N hW z0 z0.toNatClampNeg ejz0 hjz0) (cwV 1 hts gX0_payOf_X0_shiftPay rfl rfl rfl (by decide +kernel) ⟨Nat.le_of_ble_eq_true rfl, Nat.le_of_ble_eq_true rfl⟩) hK hP hD hS hA rfl rfl (by decide) (by decide) (by decide) rfl rfl rfl rfl rfl hl.1 (Nat.le_of_ble_eq_true rfl) dX0_payOf_10 ⟨Nat.zero_le _, Nat.zero_le _⟩ (fun r10 u10 H locs hu10 hP hD hS => ?_)
  have hP : va_P D vwCl (wX a cA F u10) H := hP
  have hD : va_D A (wX a cA F u10) := hD
  exact hend 13 ls _ (u10) _ _ dX0_payOf_13 hP hD hS (hu10)

set_option maxHeartbeats 4000000 in
set_option maxRecDepth 100000 in
theorem b_X0_payOf (l : Launch) (D : va_G) (cA : ClassId) (hl9 : l.stackTraces = false) (a : Nat → Nat) (F : Nat → Nat → Int32) (g : Nat → Int32) (N : Nat) (hW : wf F N) (z0 : Int32) (hk : kSh F z0 ≠ 0) : Bx l D cA (wX a cA F g) yX0_payOf wsX0_payOf rbX0_payOf [.ref (a 16), .int z0] (exN (kSh F z0) eI eA eS) := by
  refine Bx.of (cc := cX0_payOf) (maxL := 2) (ret := (some .int)) (by decide) rfl (Nat.le_of_ble_eq_true rfl) ?_
  intro p e s m args below meth c ls hx hb hts hown hml hK hP hl htab hlocks hZ
  have hown : s.vm.findClass RX0 = some m.cls := hown
  have hi : ∀ w ∈ wsX00, w ∈ wsX0_payOf := by decide +kernel
  have hl : lv_has ls 2 [(0, .ref (a 16)), (1, .int z0)] := hl
  have hN : N ≤ 80 := hW.n
  have hc : F 7 0 = nI N := hW.c
  refine lv_iload_n hx hb dX0_payOf_0 rfl (lv_at hl 1 rfl) ?_
  refine lv_aload_n hx hb dX0_payOf_1 rfl (lv_at hl 0 rfl) ?_
  refine va_get (D := D) (ci := 0) (v := .int (F 7 0)) (C := RX0) (T := TX0) (N := 16) hx hb hts hi hown hK hP 0 rfl rfl 7 (by decide) (hts (.fieldLink RX0 32 "AssignmentHouse" "shiftCount" "I") (by decide +kernel)) (fun _ h9 => h9) rfl dX0_payOf_2 ?_
  refine (Classical.em (cI z0 (F 7 0))).elim (fun h1 => ?_) (fun h1 => ?_)
  rotate_left
  rw [show exN (kSh F z0) eI eA eS = eI from by rw [kSh, if_neg h1]; rfl]
  exact Bx.thruS (rest := []) ⟨hx, hb, hml, hown, hts⟩ htab hlocks (b_X0_needOneOf l D cA hl9 z0 (F 7 0) (cI_n h1)) (va_cwS 2 hts gX0_payOf_X0_needOneOf rfl rfl rfl (by decide +kernel) ⟨Nat.le_of_ble_eq_true rfl, Nat.le_of_ble_eq_true rfl⟩) hK noP hZ rfl rfl hl.1 (Nat.le_of_ble_eq_true rfl) dX0_payOf_5 ⟨Nat.le_of_ble_eq_true rfl, Nat.le_of_ble_eq_true rfl⟩
  exact absurd (by rw [kSh, if_pos h1]) hk

set_option maxHeartbeats 4000000 in
set_option maxRecDepth 100000 in
theorem c_X0_chargeOf (l : Launch) (D : va_G) (cA : ClassId) (a : Nat → Nat) (F : Nat → Nat → Int32) (g : Nat → Int32) (N : Nat) (hW : wf F N) (z0 : Int32) (h1 : cI z0 (F 7 0)) : Wi l D cA (S := Nat → Int32) (wX a cA F g) (fun g => wX a cA F g) yX0_chargeOf wsX0_chargeOf rmX0_chargeOf [.ref (a 16), .int z0] (fun r _ => r = sCh F N z0.toNatClampNeg) := by
  refine Wi.of (cc := cX0_chargeOf) (maxL := 3) (by decide) rfl (Nat.le_of_ble_eq_true rfl) ?_
  intro p e s m args below meth c ls A Q hx hb hts hown hml hK hP hD hA hS hl hend
  have hown : s.vm.findClass RX0 = some m.cls := hown
  have hi : ∀ w ∈ wsX00, w ∈ wsX0_chargeOf := by decide +kernel
  have hl : lv_has ls 3 [(0, .ref (a 16)), (1, .int z0)] := hl
  have hN : N ≤ 80 := hW.n
  have hc : F 7 0 = nI N := hW.c
  obtain ⟨hjz0, ejz0⟩ := cI_of h1 (n := N) (hc) (by omega)
  refine lv_iload_n hx hb dX0_chargeOf_0 rfl (lv_at hl 1 rfl) ?_
  refine lv_aload_n hx hb dX0_chargeOf_1 rfl (lv_at hl 0 rfl) ?_
  refine va_get (D := D) (ci := 0) (v := .int (F 7 0)) (C := RX0) (T := TX0) (N := 16) hx hb hts hi hown hK hP 0 rfl rfl 7 (by decide) (hts (.fieldLink RX0 32 "AssignmentHouse" "shiftCount" "I") (by decide +kernel)) (fun _ h9 => h9) rfl dX0_chargeOf_2 ?_
  refine Ru.callS (rest := []) ⟨hx, hb, hml, hown, hts⟩ (c_X0_needOneOf l D cA z0 (F 7 0) h1.1 h1.2) (va_cwS 2 hts gX0_chargeOf_X0_needOneOf rfl rfl rfl (by decide +kernel) ⟨Nat.le_of_ble_eq_true rfl, Nat.le_of_ble_eq_true rfl⟩) hK noP rfl rfl hl.1 (Nat.le_of_ble_eq_true rfl) dX0_chargeOf_5 ⟨Nat.zero_le _, Nat.zero_le _⟩ ?_
  refine lv_aload_n hx hb dX0_chargeOf_8 rfl (lv_at hl 0 rfl) ?_
  refine lv_aload_n hx hb dX0_chargeOf_9 rfl (lv_at hl 0 rfl) ?_
  refine va_get (D := D) (ci := 0) (v := .ref (a 9)) (C := RX0) (T := TX0) (N := 16) hx hb hts hi hown hK hP 0 rfl rfl 9 (by decide) (hts (.fieldLink RX0 38 "AssignmentHouse" "siteOf" "[I") (by decide +kernel)) (fun _ h9 => h9) rfl dX0_chargeOf_10 ?_
  refine lv_iload_n hx hb dX0_chargeOf_13 rfl (lv_at hl 1 rfl) ?_
  refine Rd.callS (rest := [.ref (a 16)]) ⟨hx, hb, hml, hown, hts⟩ (c_X0_at l D cA (a 9) 80 (F 9) (z0) (z0.toNatClampNeg) (ejz0) (by omega) (by decide)) (va_cwS 2 hts gX0_chargeOf_X0_at rfl rfl rfl (by decide +kernel) ⟨Nat.le_of_ble_eq_true rfl, Nat.le_of_ble_eq_true rfl⟩) hK (hP.sub [7] rfl) rfl rfl hl.1 (Nat.le_of_ble_eq_true rfl) dX0_chargeOf_14 ⟨Nat.zero_le _, Nat.zero_le _⟩ ?_
  refine lv_aload_n hx hb dX0_chargeOf_17 rfl (lv_at hl 0 rfl) ?_
  refine va_get (D := D) (ci := 0) (v := .ref (a 10)) (C := RX0) (T := TX0) (N := 16) hx hb hts hi hown hK hP 0 rfl rfl 10 (by decide) (hts (.fieldLink RX0 41 "AssignmentHouse" "dayOf" "[I") (by decide +kernel)) (fun _ h9 => h9) rfl dX0_chargeOf_18 ?_
  refine lv_iload_n hx hb dX0_chargeOf_21 rfl (lv_at hl 1 rfl) ?_
  refine Rd.callS (rest := [.int (F 9 z0.toNatClampNeg), .ref (a 16)]) ⟨hx, hb, hml, hown, hts⟩ (c_X0_at l D cA (a 10) 80 (F 10) (z0) (z0.toNatClampNeg) (ejz0) (by omega) (by decide)) (va_cwS 2 hts gX0_chargeOf_X0_at rfl rfl rfl (by decide +kernel) ⟨Nat.le_of_ble_eq_true rfl, Nat.le_of_ble_eq_true rfl⟩) hK (hP.sub [8] rfl) rfl rfl hl.1 (Nat.le_of_ble_eq_true rfl) dX0_chargeOf_22 ⟨Nat.zero_le _, Nat.zero_le _⟩ ?_
  refine Rd.callS (rest := [.int (F 9 z0.toNatClampNeg), .ref (a 16)]) ⟨hx, hb, hml, hown, hts⟩ (c_X0_weekOf l D cA (F 10 z0.toNatClampNeg)) (va_cwS 1 hts gX0_chargeOf_X0_weekOf rfl rfl rfl (by decide +kernel) ⟨Nat.le_of_ble_eq_true rfl, Nat.le_of_ble_eq_true rfl⟩) hK noP rfl rfl hl.1 (Nat.le_of_ble_eq_true rfl) dX0_chargeOf_25 ⟨Nat.zero_le _, Nat.zero_le _⟩ ?_
  refine Rd.callV (rest := []) (q0 := 0) (ci := 0) ⟨hx, hb, hml, hown, hts⟩ (c_X0_marginAt l D cA a F g N hW (F 9 z0.toNatClampNeg) (F 9 z0.toNatClampNeg).toNatClampNeg (hW.site hjz0).2 (hW.site hjz0).1 ((F 10 z0.toNatClampNeg) / 7)) (cwV 2 hts gX0_chargeOf_X0_marginAt rfl rfl rfl (by decide +kernel) ⟨Nat.le_of_ble_eq_true rfl, Nat.le_of_ble_eq_true rfl⟩) hK hP rfl rfl rfl rfl rfl hl.1 (Nat.le_of_ble_eq_true rfl) dX0_chargeOf_28 ⟨Nat.zero_le _, Nat.zero_le _⟩ ?_
  refine lv_istore_n (lv' := [(2, .int (sMg F N (F 9 z0.toNatClampNeg) ((F 10 z0.toNatClampNeg) / 7))), (0, .ref (a 16)), (1, .int z0)]) hx hb dX0_chargeOf_31 rfl hl (by decide) rfl (fun ls hl => ?_)
  refine lv_aload_n hx hb dX0_chargeOf_32 rfl (lv_at hl 1 rfl) ?_
  refine lv_iload_n hx hb dX0_chargeOf_33 rfl (lv_at hl 2 rfl) ?_
  refine Wi.callV (rest := []) (q0 := 0) (ci := 0) (wr := []) [0, 1, 2, 3, 4, 5, 6, 7, 8, 9, 10, 11, 12, 13] [] ⟨hx, hb, hml, hown, hts⟩ (c_X0_shiftPay l D cA a F g N hW z0 z0.toNatClampNeg ejz0 hjz0) (cwV 1 hts gX0_chargeOf_X0_shiftPay rfl rfl rfl (by decide +kernel) ⟨Nat.le_of_ble_eq_true rfl, Nat.le_of_ble_eq_true rfl⟩) hK hP hD hS hA rfl rfl (by decide) (by decide) (by decide) rfl rfl rfl rfl rfl hl.1 (Nat.le_of_ble_eq_true rfl) dX0_chargeOf_34 ⟨Nat.zero_le _, Nat.zero_le _⟩ (fun r34 u34 H locs hu34 hP hD hS => ?_)
  have hP : va_P D vwCl (wX a cA F u34) H := hP
  have hD : va_D A (wX a cA F u34) := hD
  refine lv_iload_n hx hb dX0_chargeOf_37 rfl (lv_at hl 0 rfl) ?_
  refine Rd.callS (rest := []) ⟨hx, hb, hml, hown, hts⟩ (c_X0_chargeFor l D cA r34 (sMg F N (F 9 z0.toNatClampNeg) ((F 10 z0.toNatClampNeg) / 7))) (va_cwS 2 hts gX0_chargeOf_X0_chargeFor rfl rfl rfl (by decide +kernel) ⟨Nat.le_of_ble_eq_true rfl, Nat.le_of_ble_eq_true rfl⟩) hK noP rfl rfl hl.1 (Nat.le_of_ble_eq_true rfl) dX0_chargeOf_38 ⟨Nat.zero_le _, Nat.zero_le _⟩ ?_
  exact hend 41 ls _ (u34) _ _ dX0_chargeOf_41 hP hD hS (by rw [hu34]; rfl)

set_option maxHeartbeats 4000000 in
set_option maxRecDepth 100000 in
theorem b_X0_chargeOf (l : Launch) (D : va_G) (cA : ClassId) (hl9 : l.stackTraces = false) (a : Nat → Nat) (F : Nat → Nat → Int32) (g : Nat → Int32) (N : Nat) (hW : wf F N) (z0 : Int32) (hk : kSh F z0 ≠ 0) : Bx l D cA (wX a cA F g) yX0_chargeOf wsX0_chargeOf rbX0_chargeOf [.ref (a 16), .int z0] (exN (kSh F z0) eI eA eS) := by
  refine Bx.of (cc := cX0_chargeOf) (maxL := 3) (ret := (some .int)) (by decide) rfl (Nat.le_of_ble_eq_true rfl) ?_
  intro p e s m args below meth c ls hx hb hts hown hml hK hP hl htab hlocks hZ
  have hown : s.vm.findClass RX0 = some m.cls := hown
  have hi : ∀ w ∈ wsX00, w ∈ wsX0_chargeOf := by decide +kernel
  have hl : lv_has ls 3 [(0, .ref (a 16)), (1, .int z0)] := hl
  have hN : N ≤ 80 := hW.n
  have hc : F 7 0 = nI N := hW.c
  refine lv_iload_n hx hb dX0_chargeOf_0 rfl (lv_at hl 1 rfl) ?_
  refine lv_aload_n hx hb dX0_chargeOf_1 rfl (lv_at hl 0 rfl) ?_
  refine va_get (D := D) (ci := 0) (v := .int (F 7 0)) (C := RX0) (T := TX0) (N := 16) hx hb hts hi hown hK hP 0 rfl rfl 7 (by decide) (hts (.fieldLink RX0 32 "AssignmentHouse" "shiftCount" "I") (by decide +kernel)) (fun _ h9 => h9) rfl dX0_chargeOf_2 ?_
  refine (Classical.em (cI z0 (F 7 0))).elim (fun h1 => ?_) (fun h1 => ?_)
  rotate_left
  rw [show exN (kSh F z0) eI eA eS = eI from by rw [kSh, if_neg h1]; rfl]
  exact Bx.thruS (rest := []) ⟨hx, hb, hml, hown, hts⟩ htab hlocks (b_X0_needOneOf l D cA hl9 z0 (F 7 0) (cI_n h1)) (va_cwS 2 hts gX0_chargeOf_X0_needOneOf rfl rfl rfl (by decide +kernel) ⟨Nat.le_of_ble_eq_true rfl, Nat.le_of_ble_eq_true rfl⟩) hK noP hZ rfl rfl hl.1 (Nat.le_of_ble_eq_true rfl) dX0_chargeOf_5 ⟨Nat.le_of_ble_eq_true rfl, Nat.le_of_ble_eq_true rfl⟩
  exact absurd (by rw [kSh, if_pos h1]) hk

set_option maxHeartbeats 4000000 in
set_option maxRecDepth 100000 in
theorem c_X0_run (l : Launch) (D : va_G) (cA : ClassId) (a : Nat → Nat) (F : Nat → Nat → Int32) (g : Nat → Int32) (N : Nat) (hW : wf F N) (z0 : Int32) (h1 : cI z0 20) : Wi l D cA (S := Nat → Int32) (wX a cA F g) (fun g => wX a cA (runB F N z0.toNatClampNeg 4) g) yX0_run wsX0_run rmX0_run [.ref (a 16), .int z0] (fun r _ => r = sRun F N z0.toNatClampNeg) := by
  refine Wi.of (cc := cX0_run) (maxL := 6) (by decide) rfl (Nat.le_of_ble_eq_true rfl) ?_
  intro p e s m args below meth c ls A Q hx hb hts hown hml hK hP hD hA hS hl hend
  have hown : s.vm.findClass RX0 = some m.cls := hown
  have hi : ∀ w ∈ wsX00, w ∈ wsX0_run := by decide +kernel
  have hl : lv_has ls 6 [(0, .ref (a 16)), (1, .int z0)] := hl
  have hN : N ≤ 80 := hW.n
  have hc : F 7 0 = nI N := hW.c
  obtain ⟨hjz0, ejz0⟩ := cI_of h1 (n := 20) (rfl) (by omega)
  have h6 : (6 : Int32) = nI 6 := rfl
  have h4 : (4 : Int32) = nI 4 := rfl
  refine lv_iload_n hx hb dX0_run_0 rfl (lv_at hl 1 rfl) ?_
  refine lv_bipush (v := 20) hx hb dX0_run_1 (by decide) ?_
  refine Ru.callS (rest := []) ⟨hx, hb, hml, hown, hts⟩ (c_X0_needOneOf l D cA z0 20 h1.1 h1.2) (va_cwS 2 hts gX0_run_X0_needOneOf rfl rfl rfl (by decide +kernel) ⟨Nat.le_of_ble_eq_true rfl, Nat.le_of_ble_eq_true rfl⟩) hK noP rfl rfl hl.1 (Nat.le_of_ble_eq_true rfl) dX0_run_3 ⟨Nat.zero_le _, Nat.zero_le _⟩ ?_
  refine lv_iconst (v := 0) hx hb dX0_run_6 (by decide) ?_
  refine lv_istore_n (lv' := [(2, .int 0), (0, .ref (a 16)), (1, .int z0)]) hx hb dX0_run_7 rfl hl (by decide) rfl (fun ls hl => ?_)
  refine lv_iconst (v := 0) hx hb dX0_run_8 (by decide) ?_
  refine lv_istore_n (lv' := [(3, .int 0), (2, .int 0), (0, .ref (a 16)), (1, .int z0)]) hx hb dX0_run_9 rfl hl (by decide) rfl (fun ls hl => ?_)
  have K_10 : ∀ (n i : Nat) (x2 : Int32) (g : Nat → Int32) (H : Heap) (locs : List Loc) (ls : Array Slot), i + n = 6 → x2 = ps (fun i => pW F N z0.toNatClampNeg i - F 12 (i * 20 + z0.toNatClampNeg)) i → va_P D vwCl (wX a cA (runP F N z0.toNatClampNeg i) g) H → va_D A (wX a cA (runP F N z0.toNatClampNeg i) g) → va_S A s.heap H locs → lv_has ls 6 [(0, .ref (a 16)), (1, .int z0), (2, .int x2), (3, .int (nI i))] → W p l e rmX0_run s m args below meth c H locs 0 0 Q (F0 m 10 ls []) := by
    intro n
    induction n with
    | zero =>
      intro i x2 g H locs ls hin_10 ex2  hP hD hS hl
      have hiN : i = 6 := by omega
      have e9 : i = 6 := hiN
      have hP : va_P D vwCl (wX a cA (runP F N z0.toNatClampNeg 6) g) H := by rw [← hiN]; exact hP
      have hD : va_D A (wX a cA (runP F N z0.toNatClampNeg 6) g) := by rw [← hiN]; exact hD
      refine lv_iload_n hx hb dX0_run_10 rfl (lv_at hl 3 rfl) ?_
      refine lv_bipush (v := 6) hx hb dX0_run_11 (by decide) ?_
      refine lv_icmp_ge (tgt := 64) hx hb dX0_run_13 (by decide) (fun c_13 => ?_) (fun c_13 => (absurd (((br_ge h6 (by omega) (by omega : i ≤ 6)).mpr hiN)) c_13 : False).elim)
      refine lv_iconst (v := 0) hx hb dX0_run_64 (by decide) ?_
      refine lv_istore_n (lv' := [(3, .int 0), (0, .ref (a 16)), (1, .int z0), (2, .int x2)]) hx hb dX0_run_65 rfl hl (by decide) rfl (fun ls hl => ?_)
      have K_66 : ∀ (n i : Nat) (g : Nat → Int32) (H : Heap) (locs : List Loc) (ls : Array Slot), i + n = 4 → va_P D vwCl (wX a cA (runB F N z0.toNatClampNeg i) g) H → va_D A (wX a cA (runB F N z0.toNatClampNeg i) g) → va_S A s.heap H locs → lv_has ls 6 [(0, .ref (a 16)), (1, .int z0), (2, .int x2), (3, .int (nI i))] → W p l e rmX0_run s m args below meth c H locs 0 0 Q (F0 m 66 ls []) := by
        intro n
        induction n with
        | zero =>
          intro i  g H locs ls hin_66   hP hD hS hl
          have hiN : i = 4 := by omega
          have hP : va_P D vwCl (wX a cA (runB F N z0.toNatClampNeg 4) g) H := by rw [← hiN]; exact hP
          have hD : va_D A (wX a cA (runB F N z0.toNatClampNeg 4) g) := by rw [← hiN]; exact hD
          refine lv_iload_n hx hb dX0_run_66 rfl (lv_at hl 3 rfl) ?_
          refine lv_iconst (v := 4) hx hb dX0_run_67 (by decide) ?_
          refine lv_icmp_ge (tgt := 96) hx hb dX0_run_68 (by decide) (fun c_68 => ?_) (fun c_68 => (absurd (((br_ge h4 (by omega) (by omega : i ≤ 4)).mpr hiN)) c_68 : False).elim)
          refine lv_iload_n hx hb dX0_run_96 rfl (lv_at hl 2 rfl) ?_
          exact hend 97 ls _ (g) _ _ dX0_run_97 hP hD hS (by rw [ex2, e9]; rfl)
        | succ n ih_66 =>
          intro i  g H locs ls hin_66   hP hD hS hl
          have hiN : i < 4 := by omega
          refine lv_iload_n hx hb dX0_run_66 rfl (lv_at hl 3 rfl) ?_
          refine lv_iconst (v := 4) hx hb dX0_run_67 (by decide) ?_
          refine lv_icmp_ge (tgt := 96) hx hb dX0_run_68 (by decide) (fun c_68 => (absurd (((br_ge h4 (by omega) (by omega : i ≤ 4)).mp c_68)) (by omega) : False).elim) (fun c_68 => ?_)
          refine lv_aload_n hx hb dX0_run_71 rfl (lv_at hl 0 rfl) ?_
          refine va_get (D := D) (ci := 0) (v := .ref (a 13)) (C := RX0) (T := TX0) (N := 16) hx hb hts hi hown hK hP 0 rfl rfl 13 (by decide) (hts (.fieldLink RX0 50 "AssignmentHouse" "billedFor" "[I") (by decide +kernel)) (fun _ h9 => h9) rfl dX0_run_72 ?_
          refine lv_iload_n hx hb dX0_run_75 rfl (lv_at hl 3 rfl) ?_
          refine lv_bipush (v := 20) hx hb dX0_run_76 (by decide) ?_
          refine lv_imul hx hb dX0_run_78 ?_
          refine lv_iload_n hx hb dX0_run_79 rfl (lv_at hl 1 rfl) ?_
          refine lv_iadd hx hb dX0_run_80 ?_
          refine lv_aload_n hx hb dX0_run_81 rfl (lv_at hl 0 rfl) ?_
          refine lv_iload_n hx hb dX0_run_82 rfl (lv_at hl 3 rfl) ?_
          refine lv_iload_n hx hb dX0_run_83 rfl (lv_at hl 1 rfl) ?_
          refine Wi.callV (rest := [.int (((nI i) * 20) + z0), .ref (a 13)]) (q0 := 0) (ci := 0) (wr := []) [0, 1, 2, 3, 4, 5, 6, 7, 8, 9, 10, 11, 12, 13] [] ⟨hx, hb, hml, hown, hts⟩ (c_X0_weekCharge l D cA a (runB F N z0.toNatClampNeg i) g N ((runB_agr F N z0.toNatClampNeg i).wf hW) (nI i) i rfl (by omega) z0) (cwV 2 hts gX0_run_X0_weekCharge rfl rfl rfl (by decide +kernel) ⟨Nat.le_of_ble_eq_true rfl, Nat.le_of_ble_eq_true rfl⟩) hK hP hD hS hA rfl rfl (by decide) (by decide) (by decide) rfl rfl rfl rfl rfl hl.1 (Nat.le_of_ble_eq_true rfl) dX0_run_84 ⟨Nat.zero_le _, Nat.zero_le _⟩ (fun r84 u84 H locs hu84 hP hD hS => ?_)
          have h9 : r84 = cS F N z0.toNatClampNeg i := hu84.trans (runB_chg ejz0 i rfl)
          subst h9
          have hP : va_P D vwCl (wX a cA (runB F N z0.toNatClampNeg i) u84) H := hP
          have hD : va_D A (wX a cA (runB F N z0.toNatClampNeg i) u84) := hD
          refine put_call (k := 11) (b := a 13) (n := 80) (f := ((runB F N z0.toNatClampNeg i) 13)) (x := (((nI i) * 20) + z0)) (j := (i * 20 + z0.toNatClampNeg)) (v := (cS F N z0.toNatClampNeg i)) (rest := []) ⟨hx, hb, hml, hown, hts⟩ gX0_run_X0_put hK hP hD hS hA rfl (ix20 rfl ejz0) (by omega) (by decide) hl.1 (Nat.le_of_ble_eq_true rfl) dX0_run_87 ⟨Nat.zero_le _, Nat.zero_le _⟩ ⟨Nat.le_of_ble_eq_true rfl, Nat.le_of_ble_eq_true rfl⟩ (fun H locs hP hD hS => ?_)
          have hP : va_P D vwCl (wX a cA (fUp (runB F N z0.toNatClampNeg i) 13 (i * 20 + z0.toNatClampNeg) (cS F N z0.toNatClampNeg i)) u84) H := hP
          have hD : va_D A (wX a cA (fUp (runB F N z0.toNatClampNeg i) 13 (i * 20 + z0.toNatClampNeg) (cS F N z0.toNatClampNeg i)) u84) := hD
          refine lv_iinc (v := (nI (i + 1))) (lv' := [(3, .int (nI (i + 1))), (0, .ref (a 16)), (1, .int z0), (2, .int x2)]) hx hb dX0_run_90 hl (k := 3) rfl (nI_1 i) (by decide) rfl (fun ls hl => ?_)
          refine lv_goto (tgt := 66) hx hb dX0_run_93 (by decide) ?_
          exact ih_66 (i + 1)  u84 _ _ ls (by omega)   hP hD hS (lv_sub hl [1, 2, 3, 0] rfl)
      exact K_66 4 0  g _ _ ls (by omega)   hP hD hS (lv_sub hl [1, 2, 3, 0] rfl)
    | succ n ih_10 =>
      intro i x2 g H locs ls hin_10 ex2  hP hD hS hl
      have hiN : i < 6 := by omega
      refine lv_iload_n hx hb dX0_run_10 rfl (lv_at hl 3 rfl) ?_
      refine lv_bipush (v := 6) hx hb dX0_run_11 (by decide) ?_
      refine lv_icmp_ge (tgt := 64) hx hb dX0_run_13 (by decide) (fun c_13 => (absurd (((br_ge h6 (by omega) (by omega : i ≤ 6)).mp c_13)) (by omega) : False).elim) (fun c_13 => ?_)
      refine lv_aload_n hx hb dX0_run_16 rfl (lv_at hl 0 rfl) ?_
      refine lv_iload_n hx hb dX0_run_17 rfl (lv_at hl 3 rfl) ?_
      refine lv_iload_n hx hb dX0_run_18 rfl (lv_at hl 1 rfl) ?_
      refine Wi.callV (rest := []) (q0 := 0) (ci := 0) (wr := []) [0, 1, 2, 3, 4, 5, 6, 7, 8, 9, 10, 11, 12, 13] [] ⟨hx, hb, hml, hown, hts⟩ (c_X0_weekPay l D cA a (runP F N z0.toNatClampNeg i) g N ((runP_agr F N z0.toNatClampNeg i).wf hW) (nI i) z0) (cwV 2 hts gX0_run_X0_weekPay rfl rfl rfl (by decide +kernel) ⟨Nat.le_of_ble_eq_true rfl, Nat.le_of_ble_eq_true rfl⟩) hK hP hD hS hA rfl rfl (by decide) (by decide) (by decide) rfl rfl rfl rfl rfl hl.1 (Nat.le_of_ble_eq_true rfl) dX0_run_19 ⟨Nat.zero_le _, Nat.zero_le _⟩ (fun r19 u19 H locs hu19 hP hD hS => ?_)
      have h9 : r19 = pW F N z0.toNatClampNeg i := hu19.trans (runP_pay ejz0 i rfl)
      subst h9
      have hP : va_P D vwCl (wX a cA (runP F N z0.toNatClampNeg i) u19) H := hP
      have hD : va_D A (wX a cA (runP F N z0.toNatClampNeg i) u19) := hD
      refine lv_istore (lv' := [(4, .int (pW F N z0.toNatClampNeg i)), (0, .ref (a 16)), (1, .int z0), (2, .int x2), (3, .int (nI i))]) hx hb dX0_run_22 hl (by decide) rfl (fun ls hl => ?_)
      refine lv_iload_n hx hb dX0_run_24 rfl (lv_at hl 4 rfl) ?_
      refine lv_bipush (v := 20) hx hb dX0_run_25 (by decide) ?_
      refine lv_imul hx hb dX0_run_27 ?_
      refine lv_iload_n hx hb dX0_run_28 rfl (lv_at hl 2 rfl) ?_
      refine lv_iadd hx hb dX0_run_29 ?_
      refine lv_istore (lv' := [(5, .int (((nI i) * 20) + z0)), (4, .int (pW F N z0.toNatClampNeg i)), (0, .ref (a 16)), (1, .int z0), (2, .int x2), (3, .int (nI i))]) hx hb dX0_run_30 hl (by decide) rfl (fun ls hl => ?_)
      refine lv_iload_n hx hb dX0_run_32 rfl (lv_at hl 4 rfl) ?_
      refine lv_iload hx hb dX0_run_33 (lv_at hl 1 rfl) ?_
      refine lv_aload_n hx hb dX0_run_35 rfl (lv_at hl 2 rfl) ?_
      refine va_get (D := D) (ci := 0) (v := .ref (a 12)) (C := RX0) (T := TX0) (N := 16) hx hb hts hi hown hK hP 0 rfl rfl 12 (by decide) (hts (.fieldLink RX0 47 "AssignmentHouse" "paidFor" "[I") (by decide +kernel)) (fun _ h9 => h9) rfl dX0_run_36 ?_
      refine lv_iload hx hb dX0_run_39 (lv_at hl 0 rfl) ?_
      refine Rd.callS (rest := [.int (pW F N z0.toNatClampNeg i), .int x2]) ⟨hx, hb, hml, hown, hts⟩ (c_X0_at l D cA (a 12) 120 ((runP F N z0.toNatClampNeg i) 12) (((nI i) * 20) + z0) (i * 20 + z0.toNatClampNeg) (ix20 rfl ejz0) (by omega) (by decide)) (va_cwS 2 hts gX0_run_X0_at rfl rfl rfl (by decide +kernel) ⟨Nat.le_of_ble_eq_true rfl, Nat.le_of_ble_eq_true rfl⟩) hK (hP.sub [10] rfl) rfl rfl hl.1 (Nat.le_of_ble_eq_true rfl) dX0_run_41 ⟨Nat.zero_le _, Nat.zero_le _⟩ ?_
      refine lv_isub hx hb dX0_run_44 ?_
      refine lv_iadd hx hb dX0_run_45 ?_
      refine lv_istore_n (lv' := [(2, .int (x2 + ((pW F N z0.toNatClampNeg i) - ((runP F N z0.toNatClampNeg i) 12 (i * 20 + z0.toNatClampNeg))))), (5, .int (((nI i) * 20) + z0)), (4, .int (pW F N z0.toNatClampNeg i)), (0, .ref (a 16)), (1, .int z0), (3, .int (nI i))]) hx hb dX0_run_46 rfl hl (by decide) rfl (fun ls hl => ?_)
      refine lv_aload_n hx hb dX0_run_47 rfl (lv_at hl 3 rfl) ?_
      refine va_get (D := D) (ci := 0) (v := .ref (a 12)) (C := RX0) (T := TX0) (N := 16) hx hb hts hi hown hK hP 0 rfl rfl 12 (by decide) (hts (.fieldLink RX0 47 "AssignmentHouse" "paidFor" "[I") (by decide +kernel)) (fun _ h9 => h9) rfl dX0_run_48 ?_
      refine lv_iload hx hb dX0_run_51 (lv_at hl 1 rfl) ?_
      refine lv_iload hx hb dX0_run_53 (lv_at hl 2 rfl) ?_
      refine put_call (k := 10) (b := a 12) (n := 120) (f := ((runP F N z0.toNatClampNeg i) 12)) (x := (((nI i) * 20) + z0)) (j := (i * 20 + z0.toNatClampNeg)) (v := (pW F N z0.toNatClampNeg i)) (rest := []) ⟨hx, hb, hml, hown, hts⟩ gX0_run_X0_put hK hP hD hS hA rfl (ix20 rfl ejz0) (by omega) (by decide) hl.1 (Nat.le_of_ble_eq_true rfl) dX0_run_55 ⟨Nat.zero_le _, Nat.zero_le _⟩ ⟨Nat.le_of_ble_eq_true rfl, Nat.le_of_ble_eq_true rfl⟩ (fun H locs hP hD hS => ?_)
      have hP : va_P D vwCl (wX a cA (fUp (runP F N z0.toNatClampNeg i) 12 (i * 20 + z0.toNatClampNeg) (pW F N z0.toNatClampNeg i)) u19) H := hP
      have hD : va_D A (wX a cA (fUp (runP F N z0.toNatClampNeg i) 12 (i * 20 + z0.toNatClampNeg) (pW F N z0.toNatClampNeg i)) u19) := hD
      refine lv_iinc (v := (nI (i + 1))) (lv' := [(3, .int (nI (i + 1))), (2, .int (x2 + ((pW F N z0.toNatClampNeg i) - ((runP F N z0.toNatClampNeg i) 12 (i * 20 + z0.toNatClampNeg))))), (5, .int (((nI i) * 20) + z0)), (4, .int (pW F N z0.toNatClampNeg i)), (0, .ref (a 16)), (1, .int z0)]) hx hb dX0_run_58 hl (k := 5) rfl (nI_1 i) (by decide) rfl (fun ls hl => ?_)
      refine lv_goto (tgt := 10) hx hb dX0_run_61 (by decide) ?_
      exact ih_10 (i + 1) _ u19 _ _ ls (by omega) (by rw [ps_s, ex2, runP_at F N z0.toNatClampNeg i i (Nat.le_refl i)])  hP hD hS (lv_sub hl [4, 5, 1, 0] rfl)
  exact K_10 6 0 _ g _ _ ls (by omega) (rfl)  hP hD hS (lv_sub hl [2, 3, 1, 0] rfl)

set_option maxHeartbeats 4000000 in
set_option maxRecDepth 100000 in
theorem b_X0_run (l : Launch) (D : va_G) (cA : ClassId) (hl9 : l.stackTraces = false) (a : Nat → Nat) (F : Nat → Nat → Int32) (g : Nat → Int32) (N : Nat) (hW : wf F N) (z0 : Int32) (hk : kWk z0 ≠ 0) : Bx l D cA (wX a cA F g) yX0_run wsX0_run rbX0_run [.ref (a 16), .int z0] (exN (kWk z0) eI eA eS) := by
  refine Bx.of (cc := cX0_run) (maxL := 6) (ret := (some .int)) (by decide) rfl (Nat.le_of_ble_eq_true rfl) ?_
  intro p e s m args below meth c ls hx hb hts hown hml hK hP hl htab hlocks hZ
  have hown : s.vm.findClass RX0 = some m.cls := hown
  have hi : ∀ w ∈ wsX00, w ∈ wsX0_run := by decide +kernel
  have hl : lv_has ls 6 [(0, .ref (a 16)), (1, .int z0)] := hl
  have hN : N ≤ 80 := hW.n
  have hc : F 7 0 = nI N := hW.c
  refine lv_iload_n hx hb dX0_run_0 rfl (lv_at hl 1 rfl) ?_
  refine lv_bipush (v := 20) hx hb dX0_run_1 (by decide) ?_
  refine (Classical.em (cI z0 20)).elim (fun h1 => ?_) (fun h1 => ?_)
  rotate_left
  rw [show exN (kWk z0) eI eA eS = eI from by rw [kWk, if_neg h1]; rfl]
  exact Bx.thruS (rest := []) ⟨hx, hb, hml, hown, hts⟩ htab hlocks (b_X0_needOneOf l D cA hl9 z0 20 (cI_n h1)) (va_cwS 2 hts gX0_run_X0_needOneOf rfl rfl rfl (by decide +kernel) ⟨Nat.le_of_ble_eq_true rfl, Nat.le_of_ble_eq_true rfl⟩) hK noP hZ rfl rfl hl.1 (Nat.le_of_ble_eq_true rfl) dX0_run_3 ⟨Nat.le_of_ble_eq_true rfl, Nat.le_of_ble_eq_true rfl⟩
  exact absurd (by rw [kWk, if_pos h1]) hk


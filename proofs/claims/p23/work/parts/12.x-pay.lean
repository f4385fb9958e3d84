/-! the class: overtime, pay, charges; by program (wip/whole/gen) -/
set_option maxHeartbeats 4000000 in
set_option maxRecDepth 100000 in
theorem c_X0_overtimeHours (l : Launch) (D : va_G) (cA : ClassId) (a : Nat → Nat) (F : Nat → Nat → Int32) (g : Nat → Int32) (N : Nat) (hW : wf F N) (x : Int32) (one : Nat) (ei : x = nI one) (ho : one < N) : Wi l D cA (S := Nat → Int32) (wX a cA F g) (fun g => wX a cA F g) yX0_overtimeHours wsX0_overtimeHours rmX0_overtimeHours [.ref (a 16), .int x] (fun r _ => r = sOv F N one) := by
  subst ei
  refine Wi.of (cc := cX0_overtimeHours) (maxL := 6) (by decide) rfl (Nat.le_of_ble_eq_true rfl) ?_
  intro p e s m args below meth c ls A Q hx hb hts hown hml hK hP hD hA hS hl hend
  have hown : s.vm.findClass RX0 = some m.cls := hown
  have hi : ∀ w ∈ wsX00, w ∈ wsX0_overtimeHours := by decide +kernel
  have hl : lv_has ls 6 [(0, .ref (a 16)), (1, .int (nI one))] := hl
  have hN : N ≤ 80 := hW.n
  have hc : F 7 0 = nI N := hW.c
  refine lv_aload_n hx hb dX0_overtimeHours_0 rfl (lv_at hl 0 rfl) ?_
  refine lv_iload_n hx hb dX0_overtimeHours_1 rfl (lv_at hl 1 rfl) ?_
  refine Wv.callV (rest := []) (q0 := 0) (ci := 0) (wr := []) [0, 1, 2, 3, 4, 5, 6, 7, 8, 9, 10, 11, 12, 13] [] ⟨hx, hb, hml, hown, hts⟩ (c_X0_fillAheadOnDay l D cA a F g N hW (nI one) one rfl ho) (cwV 1 hts gX0_overtimeHours_X0_fillAheadOnDay rfl rfl rfl (by decide +kernel) ⟨Nat.le_of_ble_eq_true rfl, Nat.le_of_ble_eq_true rfl⟩) hK hP hD hS hA rfl rfl (by decide) (by decide) (by decide) rfl rfl rfl rfl rfl hl.1 (Nat.le_of_ble_eq_true rfl) dX0_overtimeHours_2 ⟨Nat.zero_le _, Nat.zero_le _⟩ (fun u2 H locs hu2 hP hD hS => ?_)
  have hP : va_P D vwCl (wX a cA F u2) H := hP
  have hD : va_D A (wX a cA F u2) := hD
  refine lv_aload_n hx hb dX0_overtimeHours_5 rfl (lv_at hl 0 rfl) ?_
  refine va_get (D := D) (ci := 0) (v := .ref (a 11)) (C := RX0) (T := TX0) (N := 16) hx hb hts hi hown hK hP 0 rfl rfl 11 (by decide) (hts (.fieldLink RX0 44 "AssignmentHouse" "hoursOf" "[I") (by decide +kernel)) (fun _ h9 => h9) rfl dX0_overtimeHours_6 ?_
  refine lv_iload_n hx hb dX0_overtimeHours_9 rfl (lv_at hl 1 rfl) ?_
  refine Rd.callS (rest := []) ⟨hx, hb, hml, hown, hts⟩ (c_X0_at l D cA (a 11) 80 (F 11) (nI one) one (rfl) (by omega) (by decide)) (va_cwS 2 hts gX0_overtimeHours_X0_at rfl rfl rfl (by decide +kernel) ⟨Nat.le_of_ble_eq_true rfl, Nat.le_of_ble_eq_true rfl⟩) hK (hP.sub [9] rfl) rfl rfl hl.1 (Nat.le_of_ble_eq_true rfl) dX0_overtimeHours_10 ⟨Nat.zero_le _, Nat.zero_le _⟩ ?_
  refine lv_istore_n (lv' := [(2, .int (F 11 one)), (0, .ref (a 16)), (1, .int (nI one))]) hx hb dX0_overtimeHours_13 rfl hl (by decide) rfl (fun ls hl => ?_)
  refine lv_aload_n hx hb dX0_overtimeHours_14 rfl (lv_at hl 1 rfl) ?_
  refine va_get (D := D) (ci := 0) (v := .ref (a 15)) (C := RX0) (T := TX0) (N := 16) hx hb hts hi hown hK hP 0 rfl rfl 15 (by decide) (hts (.fieldLink RX0 56 "AssignmentHouse" "aheadOnDay" "[I") (by decide +kernel)) (fun _ h9 => h9) rfl dX0_overtimeHours_15 ?_
  refine lv_aload_n hx hb dX0_overtimeHours_18 rfl (lv_at hl 1 rfl) ?_
  refine va_get (D := D) (ci := 0) (v := .ref (a 10)) (C := RX0) (T := TX0) (N := 16) hx hb hts hi hown hK hP 0 rfl rfl 10 (by decide) (hts (.fieldLink RX0 41 "AssignmentHouse" "dayOf" "[I") (by decide +kernel)) (fun _ h9 => h9) rfl dX0_overtimeHours_19 ?_
  refine lv_iload_n hx hb dX0_overtimeHours_22 rfl (lv_at hl 2 rfl) ?_
  refine Rd.callS (rest := [.ref (a 15)]) ⟨hx, hb, hml, hown, hts⟩ (c_X0_at l D cA (a 10) 80 (F 10) (nI one) one (rfl) (by omega) (by decide)) (va_cwS 2 hts gX0_overtimeHours_X0_at rfl rfl rfl (by decide +kernel) ⟨Nat.le_of_ble_eq_true rfl, Nat.le_of_ble_eq_true rfl⟩) hK (hP.sub [8] rfl) rfl rfl hl.1 (Nat.le_of_ble_eq_true rfl) dX0_overtimeHours_23 ⟨Nat.zero_le _, Nat.zero_le _⟩ ?_
  refine lv_bipush (v := 7) hx hb dX0_overtimeHours_26 (by decide) ?_
  refine lv_irem hx hb dX0_overtimeHours_28 (by decide) ?_
  refine Rd.callS (rest := []) ⟨hx, hb, hml, hown, hts⟩ (c_X0_at l D cA (a 15) 7 u2 ((F 10 one) - (F 10 one) / 7 * 7) (dayN F one % 7) (rem7 hW ho) (by omega) (by decide)) (va_cwS 2 hts gX0_overtimeHours_X0_at rfl rfl rfl (by decide +kernel) ⟨Nat.le_of_ble_eq_true rfl, Nat.le_of_ble_eq_true rfl⟩) hK (hP.sub [13] rfl) rfl rfl hl.1 (Nat.le_of_ble_eq_true rfl) dX0_overtimeHours_29 ⟨Nat.zero_le _, Nat.zero_le _⟩ ?_
  refine lv_istore_n (lv' := [(3, .int (u2 (dayN F one % 7))), (2, .int (F 11 one)), (0, .ref (a 16)), (1, .int (nI one))]) hx hb dX0_overtimeHours_32 rfl hl (by decide) rfl (fun ls hl => ?_)
  refine lv_iload_n hx hb dX0_overtimeHours_33 rfl (lv_at hl 0 rfl) ?_
  refine lv_iload_n hx hb dX0_overtimeHours_34 rfl (lv_at hl 1 rfl) ?_
  refine lv_iadd hx hb dX0_overtimeHours_35 ?_
  refine Rd.callS (rest := []) ⟨hx, hb, hml, hown, hts⟩ (c_X0_plainOfDay l D cA ((u2 (dayN F one % 7)) + (F 11 one))) (va_cwS 1 hts gX0_overtimeHours_X0_plainOfDay rfl rfl rfl (by decide +kernel) ⟨Nat.le_of_ble_eq_true rfl, Nat.le_of_ble_eq_true rfl⟩) hK noP rfl rfl hl.1 (Nat.le_of_ble_eq_true rfl) dX0_overtimeHours_36 ⟨Nat.zero_le _, Nat.zero_le _⟩ ?_
  refine lv_iload_n hx hb dX0_overtimeHours_39 rfl (lv_at hl 0 rfl) ?_
  refine Rd.callS (rest := [.int (if ((u2 (dayN F one % 7)) + (F 11 one)) < 8 then ((u2 (dayN F one % 7)) + (F 11 one)) else 8)]) ⟨hx, hb, hml, hown, hts⟩ (c_X0_plainOfDay l D cA (u2 (dayN F one % 7))) (va_cwS 1 hts gX0_overtimeHours_X0_plainOfDay rfl rfl rfl (by decide +kernel) ⟨Nat.le_of_ble_eq_true rfl, Nat.le_of_ble_eq_true rfl⟩) hK noP rfl rfl hl.1 (Nat.le_of_ble_eq_true rfl) dX0_overtimeHours_40 ⟨Nat.zero_le _, Nat.zero_le _⟩ ?_
  refine lv_isub hx hb dX0_overtimeHours_43 ?_
  refine lv_istore (lv' := [(4, .int ((if ((u2 (dayN F one % 7)) + (F 11 one)) < 8 then ((u2 (dayN F one % 7)) + (F 11 one)) else 8) - (if (u2 (dayN F one % 7)) < 8 then (u2 (dayN F one % 7)) else 8))), (3, .int (u2 (dayN F one % 7))), (2, .int (F 11 one)), (0, .ref (a 16)), (1, .int (nI one))]) hx hb dX0_overtimeHours_44 hl (by decide) rfl (fun ls hl => ?_)
  refine lv_iconst (v := 0) hx hb dX0_overtimeHours_46 (by decide) ?_
  refine lv_bipush (v := 40) hx hb dX0_overtimeHours_47 (by decide) ?_
  refine lv_aload_n hx hb dX0_overtimeHours_49 rfl (lv_at hl 3 rfl) ?_
  refine Rd.callV (rest := [.int 40, .int 0]) (q0 := 0) (ci := 0) ⟨hx, hb, hml, hown, hts⟩ (c_X0_plainByDayAhead l D cA a F u2) (cwV 0 hts gX0_overtimeHours_X0_plainByDayAhead rfl rfl rfl (by decide +kernel) ⟨Nat.le_of_ble_eq_true rfl, Nat.le_of_ble_eq_true rfl⟩) hK hP rfl rfl rfl rfl rfl hl.1 (Nat.le_of_ble_eq_true rfl) dX0_overtimeHours_50 ⟨Nat.zero_le _, Nat.zero_le _⟩ ?_
  refine lv_isub hx hb dX0_overtimeHours_53 ?_
  refine va_mmax hx hb (hml.trans hl.1.symm) hown (hts (.methodLink RX0 133 Lib.Math.max.name) (by decide +kernel)) (hts (.static Lib.Math.max.name) (by decide +kernel)) (hts (.initialized "java/lang/Math") (by decide +kernel)) (hts (.code Lib.Math.max.name Lib.Math.max.code 2 (some .int)) (by decide +kernel)) (Nat.le_of_ble_eq_true rfl) (Nat.le_of_ble_eq_true rfl) (Nat.zero_le _) (Nat.zero_le _) dX0_overtimeHours_54 ?_
  refine lv_istore (lv' := [(5, .int (if 0 < (40 - (ps (fun i => if u2 i < 8 then u2 i else 8) 7)) then (40 - (ps (fun i => if u2 i < 8 then u2 i else 8) 7)) else 0)), (4, .int ((if ((u2 (dayN F one % 7)) + (F 11 one)) < 8 then ((u2 (dayN F one % 7)) + (F 11 one)) else 8) - (if (u2 (dayN F one % 7)) < 8 then (u2 (dayN F one % 7)) else 8))), (3, .int (u2 (dayN F one % 7))), (2, .int (F 11 one)), (0, .ref (a 16)), (1, .int (nI one))]) hx hb dX0_overtimeHours_57 hl (by decide) rfl (fun ls hl => ?_)
  refine lv_iload_n hx hb dX0_overtimeHours_59 rfl (lv_at hl 3 rfl) ?_
  refine lv_iload hx hb dX0_overtimeHours_60 (lv_at hl 1 rfl) ?_
  refine lv_iload hx hb dX0_overtimeHours_62 (lv_at hl 0 rfl) ?_
  refine va_mmin hx hb (hml.trans hl.1.symm) hown (hts (.methodLink RX0 138 Lib.Math.min.name) (by decide +kernel)) (hts (.static Lib.Math.min.name) (by decide +kernel)) (hts (.initialized "java/lang/Math") (by decide +kernel)) (hts (.code Lib.Math.min.name Lib.Math.min.code 2 (some .int)) (by decide +kernel)) (Nat.le_of_ble_eq_true rfl) (Nat.le_of_ble_eq_true rfl) (Nat.zero_le _) (Nat.zero_le _) dX0_overtimeHours_64 ?_
  refine lv_isub hx hb dX0_overtimeHours_67 ?_
  exact hend 68 ls _ (u2) _ _ dX0_overtimeHours_68 hP hD hS (ov_eq hW ho hu2 rfl rfl rfl)

set_option maxHeartbeats 4000000 in
set_option maxRecDepth 100000 in
theorem c_X0_shiftPay (l : Launch) (D : va_G) (cA : ClassId) (a : Nat → Nat) (F : Nat → Nat → Int32) (g : Nat → Int32) (N : Nat) (hW : wf F N) (x : Int32) (one : Nat) (ei : x = nI one) (ho : one < N) : Wi l D cA (S := Nat → Int32) (wX a cA F g) (fun g => wX a cA F g) yX0_shiftPay wsX0_shiftPay rmX0_shiftPay [.ref (a 16), .int x] (fun r _ => r = sPy F N one) := by
  subst ei
  refine Wi.of (cc := cX0_shiftPay) (maxL := 5) (by decide) rfl (Nat.le_of_ble_eq_true rfl) ?_
  intro p e s m args below meth c ls A Q hx hb hts hown hml hK hP hD hA hS hl hend
  have hown : s.vm.findClass RX0 = some m.cls := hown
  have hi : ∀ w ∈ wsX00, w ∈ wsX0_shiftPay := by decide +kernel
  have hl : lv_has ls 5 [(0, .ref (a 16)), (1, .int (nI one))] := hl
  have hN : N ≤ 80 := hW.n
  have hc : F 7 0 = nI N := hW.c
  have hd7 : dayN F one < 140 := (hW.day ho).1
  refine lv_aload_n hx hb dX0_shiftPay_0 rfl (lv_at hl 0 rfl) ?_
  refine lv_iload_n hx hb dX0_shiftPay_1 rfl (lv_at hl 1 rfl) ?_
  refine Wi.callV (rest := []) (q0 := 0) (ci := 0) (wr := []) [0, 1, 2, 3, 4, 5, 6, 7, 8, 9, 10, 11, 12, 13] [] ⟨hx, hb, hml, hown, hts⟩ (c_X0_overtimeHours l D cA a F g N hW (nI one) one rfl ho) (cwV 1 hts gX0_shiftPay_X0_overtimeHours rfl rfl rfl (by decide +kernel) ⟨Nat.le_of_ble_eq_true rfl, Nat.le_of_ble_eq_true rfl⟩) hK hP hD hS hA rfl rfl (by decide) (by decide) (by decide) rfl rfl rfl rfl rfl hl.1 (Nat.le_of_ble_eq_true rfl) dX0_shiftPay_2 ⟨Nat.zero_le _, Nat.zero_le _⟩ (fun r2 u2 H locs hu2 hP hD hS => ?_)
  have hP : va_P D vwCl (wX a cA F u2) H := hP
  have hD : va_D A (wX a cA F u2) := hD
  refine lv_istore_n (lv' := [(2, .int r2), (0, .ref (a 16)), (1, .int (nI one))]) hx hb dX0_shiftPay_5 rfl hl (by decide) rfl (fun ls hl => ?_)
  refine lv_aload_n hx hb dX0_shiftPay_6 rfl (lv_at hl 1 rfl) ?_
  refine va_get (D := D) (ci := 0) (v := .ref (a 11)) (C := RX0) (T := TX0) (N := 16) hx hb hts hi hown hK hP 0 rfl rfl 11 (by decide) (hts (.fieldLink RX0 44 "AssignmentHouse" "hoursOf" "[I") (by decide +kernel)) (fun _ h9 => h9) rfl dX0_shiftPay_7 ?_
  refine lv_iload_n hx hb dX0_shiftPay_10 rfl (lv_at hl 2 rfl) ?_
  refine Rd.callS (rest := []) ⟨hx, hb, hml, hown, hts⟩ (c_X0_at l D cA (a 11) 80 (F 11) (nI one) one (rfl) (by omega) (by decide)) (va_cwS 2 hts gX0_shiftPay_X0_at rfl rfl rfl (by decide +kernel) ⟨Nat.le_of_ble_eq_true rfl, Nat.le_of_ble_eq_true rfl⟩) hK (hP.sub [9] rfl) rfl rfl hl.1 (Nat.le_of_ble_eq_true rfl) dX0_shiftPay_11 ⟨Nat.zero_le _, Nat.zero_le _⟩ ?_
  refine lv_iload_n hx hb dX0_shiftPay_14 rfl (lv_at hl 0 rfl) ?_
  refine lv_isub hx hb dX0_shiftPay_15 ?_
  refine lv_istore_n (lv' := [(3, .int ((F 11 one) - r2)), (2, .int r2), (0, .ref (a 16)), (1, .int (nI one))]) hx hb dX0_shiftPay_16 rfl hl (by decide) rfl (fun ls hl => ?_)
  refine lv_aload_n hx hb dX0_shiftPay_17 rfl (lv_at hl 2 rfl) ?_
  refine lv_aload_n hx hb dX0_shiftPay_18 rfl (lv_at hl 2 rfl) ?_
  refine va_get (D := D) (ci := 0) (v := .ref (a 8)) (C := RX0) (T := TX0) (N := 16) hx hb hts hi hown hK hP 0 rfl rfl 8 (by decide) (hts (.fieldLink RX0 35 "AssignmentHouse" "workerOf" "[I") (by decide +kernel)) (fun _ h9 => h9) rfl dX0_shiftPay_19 ?_
  refine lv_iload_n hx hb dX0_shiftPay_22 rfl (lv_at hl 3 rfl) ?_
  refine Rd.callS (rest := [.ref (a 16)]) ⟨hx, hb, hml, hown, hts⟩ (c_X0_at l D cA (a 8) 80 (F 8) (nI one) one (rfl) (by omega) (by decide)) (va_cwS 2 hts gX0_shiftPay_X0_at rfl rfl rfl (by decide +kernel) ⟨Nat.le_of_ble_eq_true rfl, Nat.le_of_ble_eq_true rfl⟩) hK (hP.sub [6] rfl) rfl rfl hl.1 (Nat.le_of_ble_eq_true rfl) dX0_shiftPay_23 ⟨Nat.zero_le _, Nat.zero_le _⟩ ?_
  refine lv_aload_n hx hb dX0_shiftPay_26 rfl (lv_at hl 2 rfl) ?_
  refine va_get (D := D) (ci := 0) (v := .ref (a 9)) (C := RX0) (T := TX0) (N := 16) hx hb hts hi hown hK hP 0 rfl rfl 9 (by decide) (hts (.fieldLink RX0 38 "AssignmentHouse" "siteOf" "[I") (by decide +kernel)) (fun _ h9 => h9) rfl dX0_shiftPay_27 ?_
  refine lv_iload_n hx hb dX0_shiftPay_30 rfl (lv_at hl 3 rfl) ?_
  refine Rd.callS (rest := [.int (F 8 one), .ref (a 16)]) ⟨hx, hb, hml, hown, hts⟩ (c_X0_at l D cA (a 9) 80 (F 9) (nI one) one (rfl) (by omega) (by decide)) (va_cwS 2 hts gX0_shiftPay_X0_at rfl rfl rfl (by decide +kernel) ⟨Nat.le_of_ble_eq_true rfl, Nat.le_of_ble_eq_true rfl⟩) hK (hP.sub [7] rfl) rfl rfl hl.1 (Nat.le_of_ble_eq_true rfl) dX0_shiftPay_31 ⟨Nat.zero_le _, Nat.zero_le _⟩ ?_
  refine lv_aload_n hx hb dX0_shiftPay_34 rfl (lv_at hl 2 rfl) ?_
  refine va_get (D := D) (ci := 0) (v := .ref (a 10)) (C := RX0) (T := TX0) (N := 16) hx hb hts hi hown hK hP 0 rfl rfl 10 (by decide) (hts (.fieldLink RX0 41 "AssignmentHouse" "dayOf" "[I") (by decide +kernel)) (fun _ h9 => h9) rfl dX0_shiftPay_35 ?_
  refine lv_iload_n hx hb dX0_shiftPay_38 rfl (lv_at hl 3 rfl) ?_
  refine Rd.callS (rest := [.int (F 9 one), .int (F 8 one), .ref (a 16)]) ⟨hx, hb, hml, hown, hts⟩ (c_X0_at l D cA (a 10) 80 (F 10) (nI one) one (rfl) (by omega) (by decide)) (va_cwS 2 hts gX0_shiftPay_X0_at rfl rfl rfl (by decide +kernel) ⟨Nat.le_of_ble_eq_true rfl, Nat.le_of_ble_eq_true rfl⟩) hK (hP.sub [8] rfl) rfl rfl hl.1 (Nat.le_of_ble_eq_true rfl) dX0_shiftPay_39 ⟨Nat.zero_le _, Nat.zero_le _⟩ ?_
  refine Rd.callS (rest := [.int (F 9 one), .int (F 8 one), .ref (a 16)]) ⟨hx, hb, hml, hown, hts⟩ (c_X0_weekOf l D cA (F 10 one)) (va_cwS 1 hts gX0_shiftPay_X0_weekOf rfl rfl rfl (by decide +kernel) ⟨Nat.le_of_ble_eq_true rfl, Nat.le_of_ble_eq_true rfl⟩) hK noP rfl rfl hl.1 (Nat.le_of_ble_eq_true rfl) dX0_shiftPay_42 ⟨Nat.zero_le _, Nat.zero_le _⟩ ?_
  refine Rd.callV (rest := []) (q0 := 0) (ci := 0) ⟨hx, hb, hml, hown, hts⟩ (c_X0_rateThere l D cA a F u2 N hW (F 8 one) (F 9 one) (F 9 one).toNatClampNeg (hW.site ho).2 (hW.site ho).1 ((F 10 one) / 7) (dayN F one / 7) (hW.week ho) (by omega)) (cwV 3 hts gX0_shiftPay_X0_rateThere rfl rfl rfl (by decide +kernel) ⟨Nat.le_of_ble_eq_true rfl, Nat.le_of_ble_eq_true rfl⟩) hK hP rfl rfl rfl rfl rfl hl.1 (Nat.le_of_ble_eq_true rfl) dX0_shiftPay_45 ⟨Nat.zero_le _, Nat.zero_le _⟩ ?_
  refine lv_istore (lv' := [(4, .int (if F 5 0 ≤ sEqV F N (F 8 one) (F 9 one) (dayN F one / 7) then F 1 (F 9 one).toNatClampNeg else F 0 (F 9 one).toNatClampNeg)), (3, .int ((F 11 one) - r2)), (2, .int r2), (0, .ref (a 16)), (1, .int (nI one))]) hx hb dX0_shiftPay_48 hl (by decide) rfl (fun ls hl => ?_)
  refine lv_iconst (v := 2) hx hb dX0_shiftPay_50 (by decide) ?_
  refine lv_iload_n hx hb dX0_shiftPay_51 rfl (lv_at hl 1 rfl) ?_
  refine lv_imul hx hb dX0_shiftPay_52 ?_
  refine lv_iconst (v := 3) hx hb dX0_shiftPay_53 (by decide) ?_
  refine lv_iload_n hx hb dX0_shiftPay_54 rfl (lv_at hl 2 rfl) ?_
  refine lv_imul hx hb dX0_shiftPay_55 ?_
  refine lv_iadd hx hb dX0_shiftPay_56 ?_
  refine lv_iload hx hb dX0_shiftPay_57 (lv_at hl 0 rfl) ?_
  refine lv_imul hx hb dX0_shiftPay_59 ?_
  refine lv_iconst (v := 2) hx hb dX0_shiftPay_60 (by decide) ?_
  refine lv_idiv hx hb dX0_shiftPay_61 (by decide) ?_
  exact hend 62 ls _ (u2) _ _ dX0_shiftPay_62 hP hD hS (by rw [hu2]; rfl)

set_option maxHeartbeats 4000000 in
set_option maxRecDepth 100000 in
theorem c_X0_weekPay (l : Launch) (D : va_G) (cA : ClassId) (a : Nat → Nat) (F : Nat → Nat → Int32) (g : Nat → Int32) (N : Nat) (hW : wf F N) (w k : Int32) : Wi l D cA (S := Nat → Int32) (wX a cA F g) (fun g => wX a cA F g) yX0_weekPay wsX0_weekPay rmX0_weekPay [.ref (a 16), .int w, .int k] (fun r _ => r = ps (tPw F N w k) N) := by
  refine Wi.of (cc := cX0_weekPay) (maxL := 5) (by decide) rfl (Nat.le_of_ble_eq_true rfl) ?_
  intro p e s m args below meth c ls A Q hx hb hts hown hml hK hP hD hA hS hl hend
  have hown : s.vm.findClass RX0 = some m.cls := hown
  have hi : ∀ w ∈ wsX00, w ∈ wsX0_weekPay := by decide +kernel
  have hl : lv_has ls 5 [(0, .ref (a 16)), (1, .int w), (2, .int k)] := hl
  have hN : N ≤ 80 := hW.n
  have hc : F 7 0 = nI N := hW.c
  refine lv_iconst (v := 0) hx hb dX0_weekPay_0 (by decide) ?_
  refine lv_istore_n (lv' := [(3, .int 0), (0, .ref (a 16)), (1, .int w), (2, .int k)]) hx hb dX0_weekPay_1 rfl hl (by decide) rfl (fun ls hl => ?_)
  refine lv_iconst (v := 0) hx hb dX0_weekPay_2 (by decide) ?_
  refine lv_istore (lv' := [(4, .int 0), (3, .int 0), (0, .ref (a 16)), (1, .int w), (2, .int k)]) hx hb dX0_weekPay_3 hl (by decide) rfl (fun ls hl => ?_)
  have K_5 : ∀ (n i : Nat) (x3 : Int32) (g : Nat → Int32) (H : Heap) (locs : List Loc) (ls : Array Slot), i + n = N → x3 = ps (tPw F N w k) i → va_P D vwCl (wX a cA F g) H → va_D A (wX a cA F g) → va_S A s.heap H locs → lv_has ls 5 [(0, .ref (a 16)), (1, .int w), (2, .int k), (3, .int x3), (4, .int (nI i))] → W p l e rmX0_weekPay s m args below meth c H locs 0 0 Q (F0 m 5 ls []) := by
    intro n
    induction n with
    | zero =>
      intro i x3 g H locs ls hin_5 ex3  hP hD hS hl
      have hiN : i = N := by omega
      refine lv_iload hx hb dX0_weekPay_5 (lv_at hl 4 rfl) ?_
      refine lv_aload_n hx hb dX0_weekPay_7 rfl (lv_at hl 0 rfl) ?_
      refine va_get (D := D) (ci := 0) (v := .int (F 7 0)) (C := RX0) (T := TX0) (N := 16) hx hb hts hi hown hK hP 0 rfl rfl 7 (by decide) (hts (.fieldLink RX0 32 "AssignmentHouse" "shiftCount" "I") (by decide +kernel)) (fun _ h9 => h9) rfl dX0_weekPay_8 ?_
      refine lv_icmp_ge (tgt := 40) hx hb dX0_weekPay_11 (by decide) (fun c_11 => ?_) (fun c_11 => (absurd (((br_ge hc (by omega) (by omega : i ≤ N)).mpr hiN)) c_11 : False).elim)
      refine lv_iload_n hx hb dX0_weekPay_40 rfl (lv_at hl 3 rfl) ?_
      exact hend 41 ls _ (g) _ _ dX0_weekPay_41 hP hD hS (by rw [ex3, hiN])
    | succ n ih_5 =>
      intro i x3 g H locs ls hin_5 ex3  hP hD hS hl
      have hiN : i < N := by omega
      refine lv_iload hx hb dX0_weekPay_5 (lv_at hl 4 rfl) ?_
      refine lv_aload_n hx hb dX0_weekPay_7 rfl (lv_at hl 0 rfl) ?_
      refine va_get (D := D) (ci := 0) (v := .int (F 7 0)) (C := RX0) (T := TX0) (N := 16) hx hb hts hi hown hK hP 0 rfl rfl 7 (by decide) (hts (.fieldLink RX0 32 "AssignmentHouse" "shiftCount" "I") (by decide +kernel)) (fun _ h9 => h9) rfl dX0_weekPay_8 ?_
      refine lv_icmp_ge (tgt := 40) hx hb dX0_weekPay_11 (by decide) (fun c_11 => (absurd (((br_ge hc (by omega) (by omega : i ≤ N)).mp c_11)) (by omega) : False).elim) (fun c_11 => ?_)
      refine lv_aload_n hx hb dX0_weekPay_14 rfl (lv_at hl 0 rfl) ?_
      refine lv_iload hx hb dX0_weekPay_15 (lv_at hl 4 rfl) ?_
      refine lv_iload_n hx hb dX0_weekPay_17 rfl (lv_at hl 1 rfl) ?_
      refine lv_iload_n hx hb dX0_weekPay_18 rfl (lv_at hl 2 rfl) ?_
      refine Rd.callV (rest := []) (q0 := 0) (ci := 0) ⟨hx, hb, hml, hown, hts⟩ (c_X0_isOfWorker l D cA a F g (nI i) i rfl (by omega) w k) (cwV 3 hts gX0_weekPay_X0_isOfWorker rfl rfl rfl (by decide +kernel) ⟨Nat.le_of_ble_eq_true rfl, Nat.le_of_ble_eq_true rfl⟩) hK hP rfl rfl rfl rfl rfl hl.1 (Nat.le_of_ble_eq_true rfl) dX0_weekPay_19 ⟨Nat.zero_le _, Nat.zero_le _⟩ ?_
      refine lv_if_eq (tgt := 34) hx hb dX0_weekPay_22 (by decide) (fun c_22 => ?_) (fun c_22 => ?_)
      · skip
        have hq : ¬ (F 8 i = w ∧ F 10 i / 7 = k) := fun h => absurd c_22 (by rw [if_pos h]; decide)
        refine lv_iinc (v := (nI (i + 1))) (lv' := [(4, .int (nI (i + 1))), (0, .ref (a 16)), (1, .int w), (2, .int k), (3, .int x3)]) hx hb dX0_weekPay_34 hl (k := 4) rfl (nI_1 i) (by decide) rfl (fun ls hl => ?_)
        refine lv_goto (tgt := 5) hx hb dX0_weekPay_37 (by decide) ?_
        exact ih_5 (i + 1) _ g _ _ ls (by omega) (by rw [ps_s, ex3]; unfold tPw; rw [if_neg hq, i32_a0])  hP hD hS (lv_sub hl [1, 2, 3, 4, 0] rfl)
      · skip
        have hq : (F 8 i = w ∧ F 10 i / 7 = k) := Classical.byContradiction (fun h => c_22 (if_neg h))
        refine lv_iload_n hx hb dX0_weekPay_25 rfl (lv_at hl 3 rfl) ?_
        refine lv_aload_n hx hb dX0_weekPay_26 rfl (lv_at hl 0 rfl) ?_
        refine lv_iload hx hb dX0_weekPay_27 (lv_at hl 4 rfl) ?_
        refine Wi.callV (rest := [.int x3]) (q0 := 0) (ci := 0) (wr := []) [0, 1, 2, 3, 4, 5, 6, 7, 8, 9, 10, 11, 12, 13] [] ⟨hx, hb, hml, hown, hts⟩ (c_X0_shiftPay l D cA a F g N hW (nI i) i rfl (by omega)) (cwV 1 hts gX0_weekPay_X0_shiftPay rfl rfl rfl (by decide +kernel) ⟨Nat.le_of_ble_eq_true rfl, Nat.le_of_ble_eq_true rfl⟩) hK hP hD hS hA rfl rfl (by decide) (by decide) (by decide) rfl rfl rfl rfl rfl hl.1 (Nat.le_of_ble_eq_true rfl) dX0_weekPay_29 ⟨Nat.zero_le _, Nat.zero_le _⟩ (fun r29 u29 H locs hu29 hP hD hS => ?_)
        have hP : va_P D vwCl (wX a cA F u29) H := hP
        have hD : va_D A (wX a cA F u29) := hD
        refine lv_iadd hx hb dX0_weekPay_32 ?_
        refine lv_istore_n (lv' := [(3, .int (x3 + r29)), (0, .ref (a 16)), (1, .int w), (2, .int k), (4, .int (nI i))]) hx hb dX0_weekPay_33 rfl hl (by decide) rfl (fun ls hl => ?_)
        refine lv_iinc (v := (nI (i + 1))) (lv' := [(4, .int (nI (i + 1))), (3, .int (x3 + r29)), (0, .ref (a 16)), (1, .int w), (2, .int k)]) hx hb dX0_weekPay_34 hl (k := 4) rfl (nI_1 i) (by decide) rfl (fun ls hl => ?_)
        refine lv_goto (tgt := 5) hx hb dX0_weekPay_37 (by decide) ?_
        exact ih_5 (i + 1) _ u29 _ _ ls (by omega) (by rw [ps_s, ex3, hu29]; unfold tPw; rw [if_pos hq])  hP hD hS (lv_sub hl [2, 3, 4, 1, 0] rfl)
  exact K_5 N 0 _ g _ _ ls (by omega) (rfl)  hP hD hS (lv_sub hl [2, 3, 4, 1, 0] rfl)

set_option maxHeartbeats 4000000 in
set_option maxRecDepth 100000 in
theorem c_X0_weekCharge (l : Launch) (D : va_G) (cA : ClassId) (a : Nat → Nat) (F : Nat → Nat → Int32) (g : Nat → Int32) (N : Nat) (hW : wf F N) (t : Int32) (tn : Nat) (et : t = nI tn) (ht : tn < 4) (k : Int32) : Wi l D cA (S := Nat → Int32) (wX a cA F g) (fun g => wX a cA F g) yX0_weekCharge wsX0_weekCharge rmX0_weekCharge [.ref (a 16), .int t, .int k] (fun r _ => r = ps (tCt F N t k) N) := by
  refine Wi.of (cc := cX0_weekCharge) (maxL := 6) (by decide) rfl (Nat.le_of_ble_eq_true rfl) ?_
  intro p e s m args below meth c ls A Q hx hb hts hown hml hK hP hD hA hS hl hend
  have hown : s.vm.findClass RX0 = some m.cls := hown
  have hi : ∀ w ∈ wsX00, w ∈ wsX0_weekCharge := by decide +kernel
  have hl : lv_has ls 6 [(0, .ref (a 16)), (1, .int t), (2, .int k)] := hl
  have hN : N ≤ 80 := hW.n
  have hc : F 7 0 = nI N := hW.c
  refine lv_aload_n hx hb dX0_weekCharge_0 rfl (lv_at hl 0 rfl) ?_
  refine lv_iload_n hx hb dX0_weekCharge_1 rfl (lv_at hl 1 rfl) ?_
  refine lv_iload_n hx hb dX0_weekCharge_2 rfl (lv_at hl 2 rfl) ?_
  refine Rd.callV (rest := []) (q0 := 0) (ci := 0) ⟨hx, hb, hml, hown, hts⟩ (c_X0_marginAt l D cA a F g N hW t tn et ht k) (cwV 2 hts gX0_weekCharge_X0_marginAt rfl rfl rfl (by decide +kernel) ⟨Nat.le_of_ble_eq_true rfl, Nat.le_of_ble_eq_true rfl⟩) hK hP rfl rfl rfl rfl rfl hl.1 (Nat.le_of_ble_eq_true rfl) dX0_weekCharge_3 ⟨Nat.zero_le _, Nat.zero_le _⟩ ?_
  refine lv_istore_n (lv' := [(3, .int (sMg F N t k)), (0, .ref (a 16)), (1, .int t), (2, .int k)]) hx hb dX0_weekCharge_6 rfl hl (by decide) rfl (fun ls hl => ?_)
  refine lv_iconst (v := 0) hx hb dX0_weekCharge_7 (by decide) ?_
  refine lv_istore (lv' := [(4, .int 0), (3, .int (sMg F N t k)), (0, .ref (a 16)), (1, .int t), (2, .int k)]) hx hb dX0_weekCharge_8 hl (by decide) rfl (fun ls hl => ?_)
  refine lv_iconst (v := 0) hx hb dX0_weekCharge_10 (by decide) ?_
  refine lv_istore (lv' := [(5, .int 0), (4, .int 0), (3, .int (sMg F N t k)), (0, .ref (a 16)), (1, .int t), (2, .int k)]) hx hb dX0_weekCharge_11 hl (by decide) rfl (fun ls hl => ?_)
  have K_13 : ∀ (n i : Nat) (x4 : Int32) (g : Nat → Int32) (H : Heap) (locs : List Loc) (ls : Array Slot), i + n = N → x4 = ps (tCt F N t k) i → va_P D vwCl (wX a cA F g) H → va_D A (wX a cA F g) → va_S A s.heap H locs → lv_has ls 6 [(0, .ref (a 16)), (1, .int t), (2, .int k), (3, .int (sMg F N t k)), (4, .int x4), (5, .int (nI i))] → W p l e rmX0_weekCharge s m args below meth c H locs 0 0 Q (F0 m 13 ls []) := by
    intro n
    induction n with
    | zero =>
      intro i x4 g H locs ls hin_13 ex4  hP hD hS hl
      have hiN : i = N := by omega
      refine lv_iload hx hb dX0_weekCharge_13 (lv_at hl 5 rfl) ?_
      refine lv_aload_n hx hb dX0_weekCharge_15 rfl (lv_at hl 0 rfl) ?_
      refine va_get (D := D) (ci := 0) (v := .int (F 7 0)) (C := RX0) (T := TX0) (N := 16) hx hb hts hi hown hK hP 0 rfl rfl 7 (by decide) (hts (.fieldLink RX0 32 "AssignmentHouse" "shiftCount" "I") (by decide +kernel)) (fun _ h9 => h9) rfl dX0_weekCharge_16 ?_
      refine lv_icmp_ge (tgt := 54) hx hb dX0_weekCharge_19 (by decide) (fun c_19 => ?_) (fun c_19 => (absurd (((br_ge hc (by omega) (by omega : i ≤ N)).mpr hiN)) c_19 : False).elim)
      refine lv_iload hx hb dX0_weekCharge_54 (lv_at hl 4 rfl) ?_
      exact hend 56 ls _ (g) _ _ dX0_weekCharge_56 hP hD hS (by rw [ex4, hiN])
    | succ n ih_13 =>
      intro i x4 g H locs ls hin_13 ex4  hP hD hS hl
      have hiN : i < N := by omega
      refine lv_iload hx hb dX0_weekCharge_13 (lv_at hl 5 rfl) ?_
      refine lv_aload_n hx hb dX0_weekCharge_15 rfl (lv_at hl 0 rfl) ?_
      refine va_get (D := D) (ci := 0) (v := .int (F 7 0)) (C := RX0) (T := TX0) (N := 16) hx hb hts hi hown hK hP 0 rfl rfl 7 (by decide) (hts (.fieldLink RX0 32 "AssignmentHouse" "shiftCount" "I") (by decide +kernel)) (fun _ h9 => h9) rfl dX0_weekCharge_16 ?_
      refine lv_icmp_ge (tgt := 54) hx hb dX0_weekCharge_19 (by decide) (fun c_19 => (absurd (((br_ge hc (by omega) (by omega : i ≤ N)).mp c_19)) (by omega) : False).elim) (fun c_19 => ?_)
      refine lv_aload_n hx hb dX0_weekCharge_22 rfl (lv_at hl 0 rfl) ?_
      refine lv_iload hx hb dX0_weekCharge_23 (lv_at hl 5 rfl) ?_
      refine lv_iload_n hx hb dX0_weekCharge_25 rfl (lv_at hl 1 rfl) ?_
      refine lv_iload_n hx hb dX0_weekCharge_26 rfl (lv_at hl 2 rfl) ?_
      refine Rd.callV (rest := []) (q0 := 0) (ci := 0) ⟨hx, hb, hml, hown, hts⟩ (c_X0_isAtSite l D cA a F g (nI i) i rfl (by omega) t k) (cwV 3 hts gX0_weekCharge_X0_isAtSite rfl rfl rfl (by decide +kernel) ⟨Nat.le_of_ble_eq_true rfl, Nat.le_of_ble_eq_true rfl⟩) hK hP rfl rfl rfl rfl rfl hl.1 (Nat.le_of_ble_eq_true rfl) dX0_weekCharge_27 ⟨Nat.zero_le _, Nat.zero_le _⟩ ?_
      refine lv_if_eq (tgt := 48) hx hb dX0_weekCharge_30 (by decide) (fun c_30 => ?_) (fun c_30 => ?_)
      · skip
        have hq : ¬ (F 9 i = t ∧ F 10 i / 7 = k) := fun h => absurd c_30 (by rw [if_pos h]; decide)
        refine lv_iinc (v := (nI (i + 1))) (lv' := [(5, .int (nI (i + 1))), (0, .ref (a 16)), (1, .int t), (2, .int k), (3, .int (sMg F N t k)), (4, .int x4)]) hx hb dX0_weekCharge_48 hl (k := 5) rfl (nI_1 i) (by decide) rfl (fun ls hl => ?_)
        refine lv_goto (tgt := 13) hx hb dX0_weekCharge_51 (by decide) ?_
        exact ih_13 (i + 1) _ g _ _ ls (by omega) (by rw [ps_s, ex4]; unfold tCt; rw [if_neg hq, i32_a0])  hP hD hS (lv_sub hl [1, 2, 3, 4, 5, 0] rfl)
      · skip
        have hq : (F 9 i = t ∧ F 10 i / 7 = k) := Classical.byContradiction (fun h => c_30 (if_neg h))
        refine lv_iload hx hb dX0_weekCharge_33 (lv_at hl 4 rfl) ?_
        refine lv_aload_n hx hb dX0_weekCharge_35 rfl (lv_at hl 0 rfl) ?_
        refine lv_iload hx hb dX0_weekCharge_36 (lv_at hl 5 rfl) ?_
        refine Wi.callV (rest := [.int x4]) (q0 := 0) (ci := 0) (wr := []) [0, 1, 2, 3, 4, 5, 6, 7, 8, 9, 10, 11, 12, 13] [] ⟨hx, hb, hml, hown, hts⟩ (c_X0_shiftPay l D cA a F g N hW (nI i) i rfl (by omega)) (cwV 1 hts gX0_weekCharge_X0_shiftPay rfl rfl rfl (by decide +kernel) ⟨Nat.le_of_ble_eq_true rfl, Nat.le_of_ble_eq_true rfl⟩) hK hP hD hS hA rfl rfl (by decide) (by decide) (by decide) rfl rfl rfl rfl rfl hl.1 (Nat.le_of_ble_eq_true rfl) dX0_weekCharge_38 ⟨Nat.zero_le _, Nat.zero_le _⟩ (fun r38 u38 H locs hu38 hP hD hS => ?_)
        have hP : va_P D vwCl (wX a cA F u38) H := hP
        have hD : va_D A (wX a cA F u38) := hD
        refine lv_iload_n hx hb dX0_weekCharge_41 rfl (lv_at hl 3 rfl) ?_
        refine Rd.callS (rest := [.int x4]) ⟨hx, hb, hml, hown, hts⟩ (c_X0_chargeFor l D cA r38 (sMg F N t k)) (va_cwS 2 hts gX0_weekCharge_X0_chargeFor rfl rfl rfl (by decide +kernel) ⟨Nat.le_of_ble_eq_true rfl, Nat.le_of_ble_eq_true rfl⟩) hK noP rfl rfl hl.1 (Nat.le_of_ble_eq_true rfl) dX0_weekCharge_42 ⟨Nat.zero_le _, Nat.zero_le _⟩ ?_
        refine lv_iadd hx hb dX0_weekCharge_45 ?_
        refine lv_istore (lv' := [(4, .int (x4 + (r38 * (100 + (sMg F N t k)) / 100))), (0, .ref (a 16)), (1, .int t), (2, .int k), (3, .int (sMg F N t k)), (5, .int (nI i))]) hx hb dX0_weekCharge_46 hl (by decide) rfl (fun ls hl => ?_)
        refine lv_iinc (v := (nI (i + 1))) (lv' := [(5, .int (nI (i + 1))), (4, .int (x4 + (r38 * (100 + (sMg F N t k)) / 100))), (0, .ref (a 16)), (1, .int t), (2, .int k), (3, .int (sMg F N t k))]) hx hb dX0_weekCharge_48 hl (k := 5) rfl (nI_1 i) (by decide) rfl (fun ls hl => ?_)
        refine lv_goto (tgt := 13) hx hb dX0_weekCharge_51 (by decide) ?_
        exact ih_13 (i + 1) _ u38 _ _ ls (by omega) (by rw [ps_s, ex4, hu38]; unfold tCt; rw [if_pos hq]; unfold sCh; rw [hq.1, hq.2])  hP hD hS (lv_sub hl [2, 3, 4, 5, 1, 0] rfl)
  exact K_13 N 0 _ g _ _ ls (by omega) (rfl)  hP hD hS (lv_sub hl [3, 4, 5, 2, 1, 0] rfl)


/-! the class: equal pay, rates, margins; the scratch row; by program (wip/whole/gen) -/
abbrev rmX0_weeksWorked : Room := { frames := 1, cells := 0, slots := 0, locals := 21 }
abbrev rmX0_isEqual : Room := { frames := 2, cells := 0, slots := 0, locals := 45 }
abbrev rmX0_rateThere : Room := { frames := 3, cells := 0, slots := 0, locals := 72 }
abbrev rmX0_marginAt : Room := { frames := 3, cells := 0, slots := 0, locals := 68 }
abbrev rmX0_put : Room := { frames := 0, cells := 0, slots := 0, locals := 0 }
abbrev rmX0_fillAheadOnDay : Room := { frames := 2, cells := 0, slots := 0, locals := 44 }
abbrev rmX0_overtimeHours : Room := { frames := 3, cells := 0, slots := 0, locals := 72 }
abbrev rmX0_shiftPay : Room := { frames := 4, cells := 0, slots := 0, locals := 97 }
abbrev rmX0_weekPay : Room := { frames := 5, cells := 0, slots := 0, locals := 121 }
abbrev rmX0_weekCharge : Room := { frames := 5, cells := 0, slots := 0, locals := 121 }
set_option maxHeartbeats 4000000 in
set_option maxRecDepth 100000 in
theorem c_X0_weeksWorked (l : Launch) (D : va_G) (cA : ClassId) (a : Nat → Nat) (F : Nat → Nat → Int32) (g : Nat → Int32) (N : Nat) (hW : wf F N) (w t : Int32) : Rd l D cA (wX a cA F g) yX0_weeksWorked wsX0_weeksWorked rmX0_weeksWorked [.ref (a 16), .int w, .int t] (wksM F w t N) := by
  refine Rd.of (cc := cX0_weeksWorked) (maxL := 5) (by decide) rfl (Nat.le_of_ble_eq_true rfl) ?_
  intro p e s m args below meth c ls Q hx hb hts hown hml hK hP hl hend
  have hown : s.vm.findClass RX0 = some m.cls := hown
  have hi : ∀ w ∈ wsX00, w ∈ wsX0_weeksWorked := by decide +kernel
  have hl : lv_has ls 5 [(0, .ref (a 16)), (1, .int w), (2, .int t)] := hl
  have hN : N ≤ 80 := hW.n
  have hc : F 7 0 = nI N := hW.c
  refine lv_iconst (v := 0) hx hb dX0_weeksWorked_0 (by decide) ?_
  refine lv_istore_n (lv' := [(3, .int 0), (0, .ref (a 16)), (1, .int w), (2, .int t)]) hx hb dX0_weeksWorked_1 rfl hl (by decide) rfl (fun ls hl => ?_)
  refine lv_iconst (v := 0) hx hb dX0_weeksWorked_2 (by decide) ?_
  refine lv_istore (lv' := [(4, .int 0), (3, .int 0), (0, .ref (a 16)), (1, .int w), (2, .int t)]) hx hb dX0_weeksWorked_3 hl (by decide) rfl (fun ls hl => ?_)
  have K_5 : ∀ (n i : Nat) (x3 : Int32) (ls : Array Slot), i + n = N → x3 = wksM F w t i → lv_has ls 5 [(0, .ref (a 16)), (1, .int w), (2, .int t), (3, .int x3), (4, .int (nI i))] → W p l e rmX0_weeksWorked s m args below meth c s.heap [] 0 0 Q (F0 m 5 ls []) := by
    intro n
    induction n with
    | zero =>
      intro i x3 ls hin_5 ex3 hl
      have hiN : i = N := by omega
      refine lv_iload hx hb dX0_weeksWorked_5 (lv_at hl 4 rfl) ?_
      refine lv_aload_n hx hb dX0_weeksWorked_7 rfl (lv_at hl 0 rfl) ?_
      refine va_get (D := D) (ci := 0) (v := .int (F 7 0)) (C := RX0) (T := TX0) (N := 16) hx hb hts hi hown hK hP 0 rfl rfl 7 (by decide) (hts (.fieldLink RX0 32 "AssignmentHouse" "shiftCount" "I") (by decide +kernel)) (fun _ h9 => h9) rfl dX0_weeksWorked_8 ?_
      refine lv_icmp_ge (tgt := 76) hx hb dX0_weeksWorked_11 (by decide) (fun c_11 => ?_) (fun c_11 => (absurd (((br_ge hc (by omega) (by omega : i ≤ N)).mpr hiN)) c_11 : False).elim)
      refine lv_iload_n hx hb dX0_weeksWorked_76 rfl (lv_at hl 3 rfl) ?_
      exact hend 77 ls _ dX0_weeksWorked_77 (by rw [ex3, hiN])
    | succ n ih_5 =>
      intro i x3 ls hin_5 ex3 hl
      have hiN : i < N := by omega
      refine lv_iload hx hb dX0_weeksWorked_5 (lv_at hl 4 rfl) ?_
      refine lv_aload_n hx hb dX0_weeksWorked_7 rfl (lv_at hl 0 rfl) ?_
      refine va_get (D := D) (ci := 0) (v := .int (F 7 0)) (C := RX0) (T := TX0) (N := 16) hx hb hts hi hown hK hP 0 rfl rfl 7 (by decide) (hts (.fieldLink RX0 32 "AssignmentHouse" "shiftCount" "I") (by decide +kernel)) (fun _ h9 => h9) rfl dX0_weeksWorked_8 ?_
      refine lv_icmp_ge (tgt := 76) hx hb dX0_weeksWorked_11 (by decide) (fun c_11 => (absurd (((br_ge hc (by omega) (by omega : i ≤ N)).mp c_11)) (by omega) : False).elim) (fun c_11 => ?_)
      refine lv_aload_n hx hb dX0_weeksWorked_14 rfl (lv_at hl 0 rfl) ?_
      refine va_get (D := D) (ci := 0) (v := .ref (a 8)) (C := RX0) (T := TX0) (N := 16) hx hb hts hi hown hK hP 0 rfl rfl 8 (by decide) (hts (.fieldLink RX0 35 "AssignmentHouse" "workerOf" "[I") (by decide +kernel)) (fun _ h9 => h9) rfl dX0_weeksWorked_15 ?_
      refine lv_iload hx hb dX0_weeksWorked_18 (lv_at hl 4 rfl) ?_
      refine Rd.callS (rest := []) ⟨hx, hb, hml, hown, hts⟩ (c_X0_at l D cA (a 8) 80 (F 8) (nI i) i (rfl) (by omega) (by decide)) (va_cwS 2 hts gX0_weeksWorked_X0_at rfl rfl rfl (by decide +kernel) ⟨Nat.le_of_ble_eq_true rfl, Nat.le_of_ble_eq_true rfl⟩) hK (hP.sub [6] rfl) rfl rfl hl.1 (Nat.le_of_ble_eq_true rfl) dX0_weeksWorked_20 ⟨Nat.zero_le _, Nat.zero_le _⟩ ?_
      refine lv_iload_n hx hb dX0_weeksWorked_23 rfl (lv_at hl 1 rfl) ?_
      refine lv_icmp_ne (tgt := 70) hx hb dX0_weeksWorked_24 (by decide) (fun c_24 => ?_) (fun c_24 => ?_)
      · skip
        refine lv_iinc (v := (nI (i + 1))) (lv' := [(4, .int (nI (i + 1))), (0, .ref (a 16)), (1, .int w), (2, .int t), (3, .int x3)]) hx hb dX0_weeksWorked_70 hl (k := 4) rfl (nI_1 i) (by decide) rfl (fun ls hl => ?_)
        refine lv_goto (tgt := 5) hx hb dX0_weeksWorked_73 (by decide) ?_
        exact ih_5 (i + 1) _ ls (by omega) (by rw [ex3, wks_s, if_neg (fun h => c_24 h.1)]) (lv_sub hl [1, 2, 3, 4, 0] rfl)
      · skip
        refine lv_aload_n hx hb dX0_weeksWorked_27 rfl (lv_at hl 0 rfl) ?_
        refine va_get (D := D) (ci := 0) (v := .ref (a 9)) (C := RX0) (T := TX0) (N := 16) hx hb hts hi hown hK hP 0 rfl rfl 9 (by decide) (hts (.fieldLink RX0 38 "AssignmentHouse" "siteOf" "[I") (by decide +kernel)) (fun _ h9 => h9) rfl dX0_weeksWorked_28 ?_
        refine lv_iload hx hb dX0_weeksWorked_31 (lv_at hl 4 rfl) ?_
        refine Rd.callS (rest := []) ⟨hx, hb, hml, hown, hts⟩ (c_X0_at l D cA (a 9) 80 (F 9) (nI i) i (rfl) (by omega) (by decide)) (va_cwS 2 hts gX0_weeksWorked_X0_at rfl rfl rfl (by decide +kernel) ⟨Nat.le_of_ble_eq_true rfl, Nat.le_of_ble_eq_true rfl⟩) hK (hP.sub [7] rfl) rfl rfl hl.1 (Nat.le_of_ble_eq_true rfl) dX0_weeksWorked_33 ⟨Nat.zero_le _, Nat.zero_le _⟩ ?_
        refine lv_iload_n hx hb dX0_weeksWorked_36 rfl (lv_at hl 2 rfl) ?_
        refine lv_icmp_ne (tgt := 70) hx hb dX0_weeksWorked_37 (by decide) (fun c_37 => ?_) (fun c_37 => ?_)
        · skip
          refine lv_iinc (v := (nI (i + 1))) (lv' := [(4, .int (nI (i + 1))), (0, .ref (a 16)), (1, .int w), (2, .int t), (3, .int x3)]) hx hb dX0_weeksWorked_70 hl (k := 4) rfl (nI_1 i) (by decide) rfl (fun ls hl => ?_)
          refine lv_goto (tgt := 5) hx hb dX0_weeksWorked_73 (by decide) ?_
          exact ih_5 (i + 1) _ ls (by omega) (by rw [ex3, wks_s, if_neg (fun h => c_37 h.2.1)]) (lv_sub hl [1, 2, 3, 4, 0] rfl)
        · skip
          refine lv_aload_n hx hb dX0_weeksWorked_40 rfl (lv_at hl 0 rfl) ?_
          refine va_get (D := D) (ci := 0) (v := .ref (a 11)) (C := RX0) (T := TX0) (N := 16) hx hb hts hi hown hK hP 0 rfl rfl 11 (by decide) (hts (.fieldLink RX0 44 "AssignmentHouse" "hoursOf" "[I") (by decide +kernel)) (fun _ h9 => h9) rfl dX0_weeksWorked_41 ?_
          refine lv_iload hx hb dX0_weeksWorked_44 (lv_at hl 4 rfl) ?_
          refine Rd.callS (rest := []) ⟨hx, hb, hml, hown, hts⟩ (c_X0_at l D cA (a 11) 80 (F 11) (nI i) i (rfl) (by omega) (by decide)) (va_cwS 2 hts gX0_weeksWorked_X0_at rfl rfl rfl (by decide +kernel) ⟨Nat.le_of_ble_eq_true rfl, Nat.le_of_ble_eq_true rfl⟩) hK (hP.sub [9] rfl) rfl rfl hl.1 (Nat.le_of_ble_eq_true rfl) dX0_weeksWorked_46 ⟨Nat.zero_le _, Nat.zero_le _⟩ ?_
          refine lv_iconst (v := 1) hx hb dX0_weeksWorked_49 (by decide) ?_
          refine lv_icmp_lt (tgt := 70) hx hb dX0_weeksWorked_50 (by decide) (fun c_50 => ?_) (fun c_50 => ?_)
          · skip
            refine lv_iinc (v := (nI (i + 1))) (lv' := [(4, .int (nI (i + 1))), (0, .ref (a 16)), (1, .int w), (2, .int t), (3, .int x3)]) hx hb dX0_weeksWorked_70 hl (k := 4) rfl (nI_1 i) (by decide) rfl (fun ls hl => ?_)
            refine lv_goto (tgt := 5) hx hb dX0_weeksWorked_73 (by decide) ?_
            exact ih_5 (i + 1) _ ls (by omega) (by rw [ex3, wks_s, if_neg (fun h => absurd c_50 (Int32.not_lt.mpr h.2.2))]) (lv_sub hl [1, 2, 3, 4, 0] rfl)
          · skip
            refine lv_iload_n hx hb dX0_weeksWorked_53 rfl (lv_at hl 3 rfl) ?_
            refine lv_iconst (v := 1) hx hb dX0_weeksWorked_54 (by decide) ?_
            refine lv_aload_n hx hb dX0_weeksWorked_55 rfl (lv_at hl 0 rfl) ?_
            refine va_get (D := D) (ci := 0) (v := .ref (a 10)) (C := RX0) (T := TX0) (N := 16) hx hb hts hi hown hK hP 0 rfl rfl 10 (by decide) (hts (.fieldLink RX0 41 "AssignmentHouse" "dayOf" "[I") (by decide +kernel)) (fun _ h9 => h9) rfl dX0_weeksWorked_56 ?_
            refine lv_iload hx hb dX0_weeksWorked_59 (lv_at hl 4 rfl) ?_
            refine Rd.callS (rest := [.int 1, .int x3]) ⟨hx, hb, hml, hown, hts⟩ (c_X0_at l D cA (a 10) 80 (F 10) (nI i) i (rfl) (by omega) (by decide)) (va_cwS 2 hts gX0_weeksWorked_X0_at rfl rfl rfl (by decide +kernel) ⟨Nat.le_of_ble_eq_true rfl, Nat.le_of_ble_eq_true rfl⟩) hK (hP.sub [8] rfl) rfl rfl hl.1 (Nat.le_of_ble_eq_true rfl) dX0_weeksWorked_61 ⟨Nat.zero_le _, Nat.zero_le _⟩ ?_
            refine Rd.callS (rest := [.int 1, .int x3]) ⟨hx, hb, hml, hown, hts⟩ (c_X0_weekOf l D cA (F 10 i)) (va_cwS 1 hts gX0_weeksWorked_X0_weekOf rfl rfl rfl (by decide +kernel) ⟨Nat.le_of_ble_eq_true rfl, Nat.le_of_ble_eq_true rfl⟩) hK noP rfl rfl hl.1 (Nat.le_of_ble_eq_true rfl) dX0_weeksWorked_64 ⟨Nat.zero_le _, Nat.zero_le _⟩ ?_
            refine lv_ishl hx hb dX0_weeksWorked_67 ?_
            refine lv_ior hx hb dX0_weeksWorked_68 ?_
            refine lv_istore_n (lv' := [(3, .int (x3 ||| (1 <<< (((F 10 i) / 7) &&& 31)))), (0, .ref (a 16)), (1, .int w), (2, .int t), (4, .int (nI i))]) hx hb dX0_weeksWorked_69 rfl hl (by decide) rfl (fun ls hl => ?_)
            refine lv_iinc (v := (nI (i + 1))) (lv' := [(4, .int (nI (i + 1))), (3, .int (x3 ||| (1 <<< (((F 10 i) / 7) &&& 31)))), (0, .ref (a 16)), (1, .int w), (2, .int t)]) hx hb dX0_weeksWorked_70 hl (k := 4) rfl (nI_1 i) (by decide) rfl (fun ls hl => ?_)
            refine lv_goto (tgt := 5) hx hb dX0_weeksWorked_73 (by decide) ?_
            exact ih_5 (i + 1) _ ls (by omega) (by rw [ex3, wks_s, if_pos ⟨c_24, c_37, Int32.not_lt.mp c_50⟩]) (lv_sub hl [2, 3, 4, 1, 0] rfl)
  exact K_5 N 0 _ ls (by omega) (rfl) (lv_sub hl [2, 3, 4, 1, 0] rfl)

set_option maxHeartbeats 4000000 in
set_option maxRecDepth 100000 in
theorem c_X0_isEqual (l : Launch) (D : va_G) (cA : ClassId) (a : Nat → Nat) (F : Nat → Nat → Int32) (g : Nat → Int32) (N : Nat) (hW : wf F N) (w t x : Int32) (k : Nat) (ek : x = nI k) (hk : k ≤ 20) : Rd l D cA (wX a cA F g) yX0_isEqual wsX0_isEqual rmX0_isEqual [.ref (a 16), .int w, .int t, .int x] (if F 5 0 ≤ sEqV F N w t k then 1 else 0) := by
  refine Rd.ofz (cc := cX0_isEqual) (maxL := 8) (by decide) rfl (Nat.le_of_ble_eq_true rfl) ?_
  intro p e s m args below meth c ls Q hx hb hts hown hml hK hP hl hend
  have hown : s.vm.findClass RX0 = some m.cls := hown
  have hi : ∀ w ∈ wsX00, w ∈ wsX0_isEqual := by decide +kernel
  have hl : lv_has ls 8 [(0, .ref (a 16)), (1, .int w), (2, .int t), (3, .int x)] := hl
  have hN : N ≤ 80 := hW.n
  have hc : F 7 0 = nI N := hW.c
  refine lv_aload_n hx hb dX0_isEqual_0 rfl (lv_at hl 0 rfl) ?_
  refine lv_iload_n hx hb dX0_isEqual_1 rfl (lv_at hl 1 rfl) ?_
  refine lv_iload_n hx hb dX0_isEqual_2 rfl (lv_at hl 2 rfl) ?_
  refine Rd.callV (rest := []) (q0 := 0) (ci := 0) ⟨hx, hb, hml, hown, hts⟩ (c_X0_weeksWorked l D cA a F g N hW w t) (cwV 2 hts gX0_isEqual_X0_weeksWorked rfl rfl rfl (by decide +kernel) ⟨Nat.le_of_ble_eq_true rfl, Nat.le_of_ble_eq_true rfl⟩) hK hP rfl rfl rfl rfl rfl hl.1 (Nat.le_of_ble_eq_true rfl) dX0_isEqual_3 ⟨Nat.zero_le _, Nat.zero_le _⟩ ?_
  refine lv_istore (lv' := [(4, .int (wksM F w t N)), (0, .ref (a 16)), (1, .int w), (2, .int t), (3, .int x)]) hx hb dX0_isEqual_6 hl (by decide) rfl (fun ls hl => ?_)
  refine lv_iconst (v := 0) hx hb dX0_isEqual_8 (by decide) ?_
  refine lv_istore (lv' := [(5, .int 0), (4, .int (wksM F w t N)), (0, .ref (a 16)), (1, .int w), (2, .int t), (3, .int x)]) hx hb dX0_isEqual_9 hl (by decide) rfl (fun ls hl => ?_)
  refine lv_iconst (v := 0) hx hb dX0_isEqual_11 (by decide) ?_
  refine lv_istore (lv' := [(6, .int 0), (5, .int 0), (4, .int (wksM F w t N)), (0, .ref (a 16)), (1, .int w), (2, .int t), (3, .int x)]) hx hb dX0_isEqual_12 hl (by decide) rfl (fun ls hl => ?_)
  refine lv_iload_n hx hb dX0_isEqual_14 rfl (lv_at hl 6 rfl) ?_
  refine lv_iconst (v := 1) hx hb dX0_isEqual_15 (by decide) ?_
  refine lv_isub hx hb dX0_isEqual_16 ?_
  refine lv_istore (lv' := [(7, .int (x - 1)), (6, .int 0), (5, .int 0), (4, .int (wksM F w t N)), (0, .ref (a 16)), (1, .int w), (2, .int t), (3, .int x)]) hx hb dX0_isEqual_17 hl (by decide) rfl (fun ls hl => ?_)
  have K_19 : ∀ (j : Nat) (x5 x6 x7 : Int32) (ls : Array Slot), j ≤ 20 → x7 = nI j - 1 → eqL (fun j => wkd F w t (nI j) N) (F 6 0) j x5 x6 = sEqV F N w t k → lv_has ls 8 [(0, .ref (a 16)), (4, .int (wksM F w t N)), (5, .int x5), (6, .int x6), (7, .int x7)] → W p l e rmX0_isEqual s m args below meth c s.heap [] 0 0 Q (F0 m 19 ls []) := by
    intro j
    induction j with
    | zero =>
      intro x5 x6 x7 ls hj ex7 hq hl
      have ex7 : x7 = -1 := ex7
      subst ex7
      refine lv_iload hx hb dX0_isEqual_19 (lv_at hl 4 rfl) ?_
      refine lv_if_lt (tgt := 62) hx hb dX0_isEqual_21 (by decide) (fun c_21 => ?_) (fun c_21 => (c_21 (by decide) : False).elim)
      refine lv_iload hx hb dX0_isEqual_62 (lv_at hl 2 rfl) ?_
      refine lv_aload_n hx hb dX0_isEqual_64 rfl (lv_at hl 0 rfl) ?_
      refine va_get (D := D) (ci := 0) (v := .int (F 5 0)) (C := RX0) (T := TX0) (N := 16) hx hb hts hi hown hK hP 0 rfl rfl 5 (by decide) (hts (.fieldLink RX0 25 "AssignmentHouse" "equalSpan" "I") (by decide +kernel)) (fun _ h9 => h9) rfl dX0_isEqual_65 ?_
      refine lv_icmp_lt (tgt := 75) hx hb dX0_isEqual_68 (by decide) (fun c_68 => ?_) (fun c_68 => ?_)
      · skip
        refine lv_iconst (v := 0) hx hb dX0_isEqual_75 (by decide) ?_
        have hv : x5 = sEqV F N w t k := by rw [← hq]; first | rfl | (rw [eqL_s, if_neg (Int32.not_le.mpr c_30)])
        exact hend 76 ls _ dX0_isEqual_76 (by rw [← hv]; exact (if_neg (Int32.not_le.mpr c_68)).symm) (Or.inl rfl)
      · skip
        refine lv_iconst (v := 1) hx hb dX0_isEqual_71 (by decide) ?_
        refine lv_goto (tgt := 76) hx hb dX0_isEqual_72 (by decide) ?_
        have hv : x5 = sEqV F N w t k := by rw [← hq]; first | rfl | (rw [eqL_s, if_neg (Int32.not_le.mpr c_30)])
        exact hend 76 ls _ dX0_isEqual_76 (by rw [← hv]; exact (if_pos (Int32.not_lt.mp c_68)).symm) (Or.inr rfl)
    | succ j ih_19 =>
      intro x5 x6 x7 ls hj ex7 hq hl
      have ex7 : x7 = nI j := by rw [ex7]; exact nI_pred j
      subst ex7
      refine lv_iload hx hb dX0_isEqual_19 (lv_at hl 4 rfl) ?_
      refine lv_if_lt (tgt := 62) hx hb dX0_isEqual_21 (by decide) (fun c_21 => (absurd c_21 (nI_pos (by omega)) : False).elim) (fun c_21 => ?_)
      refine lv_iload hx hb dX0_isEqual_24 (lv_at hl 3 rfl) ?_
      refine lv_aload_n hx hb dX0_isEqual_26 rfl (lv_at hl 0 rfl) ?_
      refine va_get (D := D) (ci := 0) (v := .int (F 6 0)) (C := RX0) (T := TX0) (N := 16) hx hb hts hi hown hK hP 0 rfl rfl 6 (by decide) (hts (.fieldLink RX0 29 "AssignmentHouse" "equalGap" "I") (by decide +kernel)) (fun _ h9 => h9) rfl dX0_isEqual_27 ?_
      refine lv_icmp_gt (tgt := 62) hx hb dX0_isEqual_30 (by decide) (fun c_30 => ?_) (fun c_30 => ?_)
      · skip
        refine lv_iload hx hb dX0_isEqual_62 (lv_at hl 2 rfl) ?_
        refine lv_aload_n hx hb dX0_isEqual_64 rfl (lv_at hl 0 rfl) ?_
        refine va_get (D := D) (ci := 0) (v := .int (F 5 0)) (C := RX0) (T := TX0) (N := 16) hx hb hts hi hown hK hP 0 rfl rfl 5 (by decide) (hts (.fieldLink RX0 25 "AssignmentHouse" "equalSpan" "I") (by decide +kernel)) (fun _ h9 => h9) rfl dX0_isEqual_65 ?_
        refine lv_icmp_lt (tgt := 75) hx hb dX0_isEqual_68 (by decide) (fun c_68 => ?_) (fun c_68 => ?_)
        · skip
          refine lv_iconst (v := 0) hx hb dX0_isEqual_75 (by decide) ?_
          have hv : x5 = sEqV F N w t k := by rw [← hq]; first | rfl | (rw [eqL_s, if_neg (Int32.not_le.mpr c_30)])
          exact hend 76 ls _ dX0_isEqual_76 (by rw [← hv]; exact (if_neg (Int32.not_le.mpr c_68)).symm) (Or.inl rfl)
        · skip
          refine lv_iconst (v := 1) hx hb dX0_isEqual_71 (by decide) ?_
          refine lv_goto (tgt := 76) hx hb dX0_isEqual_72 (by decide) ?_
          have hv : x5 = sEqV F N w t k := by rw [← hq]; first | rfl | (rw [eqL_s, if_neg (Int32.not_le.mpr c_30)])
          exact hend 76 ls _ dX0_isEqual_76 (by rw [← hv]; exact (if_pos (Int32.not_lt.mp c_68)).symm) (Or.inr rfl)
      · skip
        refine lv_iload hx hb dX0_isEqual_33 (lv_at hl 1 rfl) ?_
        refine lv_iload hx hb dX0_isEqual_35 (lv_at hl 4 rfl) ?_
        refine lv_ishr hx hb dX0_isEqual_37 ?_
        refine lv_iconst (v := 1) hx hb dX0_isEqual_38 (by decide) ?_
        refine lv_iand hx hb dX0_isEqual_39 ?_
        refine lv_iconst (v := 1) hx hb dX0_isEqual_40 (by decide) ?_
        refine lv_icmp_ne (tgt := 53) hx hb dX0_isEqual_41 (by decide) (fun c_41 => ?_) (fun c_41 => ?_)
        · skip
          refine lv_iinc (v := (x6 + 1)) (lv' := [(6, .int (x6 + 1)), (0, .ref (a 16)), (4, .int (wksM F w t N)), (5, .int x5), (7, .int (nI j))]) hx hb dX0_isEqual_53 hl (k := 3) rfl (rfl) (by decide) rfl (fun ls hl => ?_)
          refine lv_iinc (v := (nI j - 1)) (lv' := [(7, .int (nI j - 1)), (6, .int (x6 + 1)), (0, .ref (a 16)), (4, .int (wksM F w t N)), (5, .int x5)]) hx hb dX0_isEqual_56 hl (k := 4) rfl (i32_m1 _) (by decide) rfl (fun ls hl => ?_)
          refine lv_goto (tgt := 19) hx hb dX0_isEqual_59 (by decide) ?_
          exact ih_19 _ _ _ ls (by omega) rfl (by rw [← hq]; rw [eqL_s, if_pos (Int32.not_lt.mp c_30), if_neg (fun h => c_41 ((wks_bit hW w t (by omega)).mpr h))]) (lv_sub hl [2, 3, 4, 1, 0] rfl)
        · skip
          refine lv_iinc (v := (x5 + 1)) (lv' := [(5, .int (x5 + 1)), (0, .ref (a 16)), (4, .int (wksM F w t N)), (6, .int x6), (7, .int (nI j))]) hx hb dX0_isEqual_44 hl (k := 2) rfl (rfl) (by decide) rfl (fun ls hl => ?_)
          refine lv_iconst (v := 0) hx hb dX0_isEqual_47 (by decide) ?_
          refine lv_istore (lv' := [(6, .int 0), (5, .int (x5 + 1)), (0, .ref (a 16)), (4, .int (wksM F w t N)), (7, .int (nI j))]) hx hb dX0_isEqual_48 hl (by decide) rfl (fun ls hl => ?_)
          refine lv_goto (tgt := 56) hx hb dX0_isEqual_50 (by decide) ?_
          refine lv_iinc (v := (nI j - 1)) (lv' := [(7, .int (nI j - 1)), (6, .int 0), (5, .int (x5 + 1)), (0, .ref (a 16)), (4, .int (wksM F w t N))]) hx hb dX0_isEqual_56 hl (k := 4) rfl (i32_m1 _) (by decide) rfl (fun ls hl => ?_)
          refine lv_goto (tgt := 19) hx hb dX0_isEqual_59 (by decide) ?_
          exact ih_19 _ _ _ ls (by omega) rfl (by rw [← hq]; rw [eqL_s, if_pos (Int32.not_lt.mp c_30), if_pos ((wks_bit hW w t (by omega)).mp c_41)]) (lv_sub hl [3, 4, 2, 1, 0] rfl)
  exact K_19 k _ _ _ ls hk (by rw [ek]) rfl (lv_sub hl [4, 3, 2, 1, 0] rfl)

set_option maxHeartbeats 4000000 in
set_option maxRecDepth 100000 in
theorem c_X0_rateThere (l : Launch) (D : va_G) (cA : ClassId) (a : Nat → Nat) (F : Nat → Nat → Int32) (g : Nat → Int32) (N : Nat) (hW : wf F N) (w t : Int32) (tn : Nat) (et : t = nI tn) (ht : tn < 4) (x : Int32) (k : Nat) (ek : x = nI k) (hk : k ≤ 20) : Rd l D cA (wX a cA F g) yX0_rateThere wsX0_rateThere rmX0_rateThere [.ref (a 16), .int w, .int t, .int x] (if F 5 0 ≤ sEqV F N w t k then F 1 tn else F 0 tn) := by
  refine Rd.of (cc := cX0_rateThere) (maxL := 4) (by decide) rfl (Nat.le_of_ble_eq_true rfl) ?_
  intro p e s m args below meth c ls Q hx hb hts hown hml hK hP hl hend
  have hown : s.vm.findClass RX0 = some m.cls := hown
  have hi : ∀ w ∈ wsX00, w ∈ wsX0_rateThere := by decide +kernel
  have hl : lv_has ls 4 [(0, .ref (a 16)), (1, .int w), (2, .int t), (3, .int x)] := hl
  have hN : N ≤ 80 := hW.n
  have hc : F 7 0 = nI N := hW.c
  refine lv_aload_n hx hb dX0_rateThere_0 rfl (lv_at hl 0 rfl) ?_
  refine lv_iload_n hx hb dX0_rateThere_1 rfl (lv_at hl 1 rfl) ?_
  refine lv_iload_n hx hb dX0_rateThere_2 rfl (lv_at hl 2 rfl) ?_
  refine lv_iload_n hx hb dX0_rateThere_3 rfl (lv_at hl 3 rfl) ?_
  refine Rd.callV (rest := []) (q0 := 0) (ci := 0) ⟨hx, hb, hml, hown, hts⟩ (c_X0_isEqual l D cA a F g N hW w t x k ek hk) (cwV 3 hts gX0_rateThere_X0_isEqual rfl rfl rfl (by decide +kernel) ⟨Nat.le_of_ble_eq_true rfl, Nat.le_of_ble_eq_true rfl⟩) hK hP rfl rfl rfl rfl rfl hl.1 (Nat.le_of_ble_eq_true rfl) dX0_rateThere_4 ⟨Nat.zero_le _, Nat.zero_le _⟩ ?_
  refine lv_if_eq (tgt := 21) hx hb dX0_rateThere_7 (by decide) (fun c_7 => ?_) (fun c_7 => ?_)
  · skip
    have hq : ¬ (F 5 0 ≤ sEqV F N w t k) := fun h => absurd c_7 (by rw [if_pos h]; decide)
    refine lv_aload_n hx hb dX0_rateThere_21 rfl (lv_at hl 0 rfl) ?_
    refine va_get (D := D) (ci := 0) (v := .ref (a 0)) (C := RX0) (T := TX0) (N := 16) hx hb hts hi hown hK hP 0 rfl rfl 0 (by decide) (hts (.fieldLink RX0 9 "AssignmentHouse" "plainRate" "[I") (by decide +kernel)) (fun _ h9 => h9) rfl dX0_rateThere_22 ?_
    refine lv_iload_n hx hb dX0_rateThere_25 rfl (lv_at hl 2 rfl) ?_
    refine Rd.callS (rest := []) ⟨hx, hb, hml, hown, hts⟩ (c_X0_at l D cA (a 0) 4 (F 0) (t) tn (et) (by omega) (by decide)) (va_cwS 2 hts gX0_rateThere_X0_at rfl rfl rfl (by decide +kernel) ⟨Nat.le_of_ble_eq_true rfl, Nat.le_of_ble_eq_true rfl⟩) hK (hP.sub [1] rfl) rfl rfl hl.1 (Nat.le_of_ble_eq_true rfl) dX0_rateThere_26 ⟨Nat.zero_le _, Nat.zero_le _⟩ ?_
    exact hend 29 ls _ dX0_rateThere_29 (by first | (rw [if_pos hq]; done) | rw [if_neg hq])
  · skip
    have hq : (F 5 0 ≤ sEqV F N w t k) := Classical.byContradiction (fun h => c_7 (if_neg h))
    refine lv_aload_n hx hb dX0_rateThere_10 rfl (lv_at hl 0 rfl) ?_
    refine va_get (D := D) (ci := 0) (v := .ref (a 1)) (C := RX0) (T := TX0) (N := 16) hx hb hts hi hown hK hP 0 rfl rfl 1 (by decide) (hts (.fieldLink RX0 13 "AssignmentHouse" "equalRate" "[I") (by decide +kernel)) (fun _ h9 => h9) rfl dX0_rateThere_11 ?_
    refine lv_iload_n hx hb dX0_rateThere_14 rfl (lv_at hl 2 rfl) ?_
    refine Rd.callS (rest := []) ⟨hx, hb, hml, hown, hts⟩ (c_X0_at l D cA (a 1) 4 (F 1) (t) tn (et) (by omega) (by decide)) (va_cwS 2 hts gX0_rateThere_X0_at rfl rfl rfl (by decide +kernel) ⟨Nat.le_of_ble_eq_true rfl, Nat.le_of_ble_eq_true rfl⟩) hK (hP.sub [2] rfl) rfl rfl hl.1 (Nat.le_of_ble_eq_true rfl) dX0_rateThere_15 ⟨Nat.zero_le _, Nat.zero_le _⟩ ?_
    refine lv_goto (tgt := 29) hx hb dX0_rateThere_18 (by decide) ?_
    exact hend 29 ls _ dX0_rateThere_29 (by first | (rw [if_pos hq]; done) | rw [if_neg hq])

set_option maxHeartbeats 4000000 in
set_option maxRecDepth 100000 in
theorem c_X0_marginAt (l : Launch) (D : va_G) (cA : ClassId) (a : Nat → Nat) (F : Nat → Nat → Int32) (g : Nat → Int32) (N : Nat) (hW : wf F N) (t : Int32) (tn : Nat) (et : t = nI tn) (ht : tn < 4) (k : Int32) : Rd l D cA (wX a cA F g) yX0_marginAt wsX0_marginAt rmX0_marginAt [.ref (a 16), .int t, .int k] (sMg F N t k) := by
  refine Rd.of (cc := cX0_marginAt) (maxL := 4) (by decide) rfl (Nat.le_of_ble_eq_true rfl) ?_
  intro p e s m args below meth c ls Q hx hb hts hown hml hK hP hl hend
  have hown : s.vm.findClass RX0 = some m.cls := hown
  have hi : ∀ w ∈ wsX00, w ∈ wsX0_marginAt := by decide +kernel
  have hl : lv_has ls 4 [(0, .ref (a 16)), (1, .int t), (2, .int k)] := hl
  have hN : N ≤ 80 := hW.n
  have hc : F 7 0 = nI N := hW.c
  have hcl : t.toNatClampNeg = tn := by rw [et]; exact nI_clamp (by omega)
  refine lv_aload_n hx hb dX0_marginAt_0 rfl (lv_at hl 0 rfl) ?_
  refine lv_iload_n hx hb dX0_marginAt_1 rfl (lv_at hl 1 rfl) ?_
  refine lv_iload_n hx hb dX0_marginAt_2 rfl (lv_at hl 2 rfl) ?_
  refine Rd.callV (rest := []) (q0 := 0) (ci := 0) ⟨hx, hb, hml, hown, hts⟩ (c_X0_hoursAtSite l D cA a F g N hW t k) (cwV 2 hts gX0_marginAt_X0_hoursAtSite rfl rfl rfl (by decide +kernel) ⟨Nat.le_of_ble_eq_true rfl, Nat.le_of_ble_eq_true rfl⟩) hK hP rfl rfl rfl rfl rfl hl.1 (Nat.le_of_ble_eq_true rfl) dX0_marginAt_3 ⟨Nat.zero_le _, Nat.zero_le _⟩ ?_
  refine lv_aload_n hx hb dX0_marginAt_6 rfl (lv_at hl 0 rfl) ?_
  refine va_get (D := D) (ci := 0) (v := .ref (a 4)) (C := RX0) (T := TX0) (N := 16) hx hb hts hi hown hK hP 0 rfl rfl 4 (by decide) (hts (.fieldLink RX0 22 "AssignmentHouse" "lowVolume" "[I") (by decide +kernel)) (fun _ h9 => h9) rfl dX0_marginAt_7 ?_
  refine lv_iload_n hx hb dX0_marginAt_10 rfl (lv_at hl 1 rfl) ?_
  refine Rd.callS (rest := [.int (ps (tAt F t k) N)]) ⟨hx, hb, hml, hown, hts⟩ (c_X0_at l D cA (a 4) 4 (F 4) (t) tn (et) (by omega) (by decide)) (va_cwS 2 hts gX0_marginAt_X0_at rfl rfl rfl (by decide +kernel) ⟨Nat.le_of_ble_eq_true rfl, Nat.le_of_ble_eq_true rfl⟩) hK (hP.sub [5] rfl) rfl rfl hl.1 (Nat.le_of_ble_eq_true rfl) dX0_marginAt_11 ⟨Nat.zero_le _, Nat.zero_le _⟩ ?_
  refine lv_icmp_lt (tgt := 21) hx hb dX0_marginAt_14 (by decide) (fun c_14 => ?_) (fun c_14 => ?_)
  · skip
    refine lv_iconst (v := 0) hx hb dX0_marginAt_21 (by decide) ?_
    refine lv_istore_n (lv' := [(3, .int 0), (0, .ref (a 16)), (1, .int t), (2, .int k)]) hx hb dX0_marginAt_22 rfl hl (by decide) rfl (fun ls hl => ?_)
    refine lv_iload_n hx hb dX0_marginAt_23 rfl (lv_at hl 0 rfl) ?_
    refine lv_if_eq (tgt := 38) hx hb dX0_marginAt_24 (by decide) (fun c_24 => ?_) (fun c_24 => (absurd (by decide) c_24 : False).elim)
    refine lv_aload_n hx hb dX0_marginAt_38 rfl (lv_at hl 1 rfl) ?_
    refine va_get (D := D) (ci := 0) (v := .ref (a 2)) (C := RX0) (T := TX0) (N := 16) hx hb hts hi hown hK hP 0 rfl rfl 2 (by decide) (hts (.fieldLink RX0 16 "AssignmentHouse" "highMargin" "[I") (by decide +kernel)) (fun _ h9 => h9) rfl dX0_marginAt_39 ?_
    refine lv_iload_n hx hb dX0_marginAt_42 rfl (lv_at hl 2 rfl) ?_
    refine Rd.callS (rest := []) ⟨hx, hb, hml, hown, hts⟩ (c_X0_at l D cA (a 2) 4 (F 2) (t) tn (et) (by omega) (by decide)) (va_cwS 2 hts gX0_marginAt_X0_at rfl rfl rfl (by decide +kernel) ⟨Nat.le_of_ble_eq_true rfl, Nat.le_of_ble_eq_true rfl⟩) hK (hP.sub [3] rfl) rfl rfl hl.1 (Nat.le_of_ble_eq_true rfl) dX0_marginAt_43 ⟨Nat.zero_le _, Nat.zero_le _⟩ ?_
    exact hend 46 ls _ dX0_marginAt_46 (by unfold sMg; rw [hcl]; first | (rw [if_pos (Int32.not_lt.mp c_14)]; done) | rw [if_neg (Int32.not_le.mpr c_14)])
  · skip
    refine lv_iconst (v := 1) hx hb dX0_marginAt_17 (by decide) ?_
    refine lv_goto (tgt := 22) hx hb dX0_marginAt_18 (by decide) ?_
    refine lv_istore_n (lv' := [(3, .int 1), (0, .ref (a 16)), (1, .int t), (2, .int k)]) hx hb dX0_marginAt_22 rfl hl (by decide) rfl (fun ls hl => ?_)
    refine lv_iload_n hx hb dX0_marginAt_23 rfl (lv_at hl 0 rfl) ?_
    refine lv_if_eq (tgt := 38) hx hb dX0_marginAt_24 (by decide) (fun c_24 => (absurd c_24 (by decide) : False).elim) (fun c_24 => ?_)
    refine lv_aload_n hx hb dX0_marginAt_27 rfl (lv_at hl 1 rfl) ?_
    refine va_get (D := D) (ci := 0) (v := .ref (a 3)) (C := RX0) (T := TX0) (N := 16) hx hb hts hi hown hK hP 0 rfl rfl 3 (by decide) (hts (.fieldLink RX0 19 "AssignmentHouse" "lowMargin" "[I") (by decide +kernel)) (fun _ h9 => h9) rfl dX0_marginAt_28 ?_
    refine lv_iload_n hx hb dX0_marginAt_31 rfl (lv_at hl 2 rfl) ?_
    refine Rd.callS (rest := []) ⟨hx, hb, hml, hown, hts⟩ (c_X0_at l D cA (a 3) 4 (F 3) (t) tn (et) (by omega) (by decide)) (va_cwS 2 hts gX0_marginAt_X0_at rfl rfl rfl (by decide +kernel) ⟨Nat.le_of_ble_eq_true rfl, Nat.le_of_ble_eq_true rfl⟩) hK (hP.sub [4] rfl) rfl rfl hl.1 (Nat.le_of_ble_eq_true rfl) dX0_marginAt_32 ⟨Nat.zero_le _, Nat.zero_le _⟩ ?_
    refine lv_goto (tgt := 46) hx hb dX0_marginAt_35 (by decide) ?_
    exact hend 46 ls _ dX0_marginAt_46 (by unfold sMg; rw [hcl]; first | (rw [if_pos (Int32.not_lt.mp c_14)]; done) | rw [if_neg (Int32.not_le.mpr c_14)])

set_option maxHeartbeats 4000000 in
set_option maxRecDepth 100000 in
theorem c_X0_put (l : Launch) (D : va_G) (cA : ClassId) (b : Nat) (n : Nat) (f : Nat → Int32) (x : Int32) (j : Nat) (ei : x = nI j) (hj : j < n) (hn : n ≤ 120) (v : Int32) : Wv l D cA (S := Unit) [(b, .inl (cA, n, .inl f))] (fun _ => [(b, .inl (cA, n, .inl (upd f j v)))]) yX0_put wsX0_put rmX0_put [.ref b, .int x, .int v] (fun _ => True) := by
  refine Wv.of (cc := cX0_put) (maxL := 3) (by decide) rfl (Nat.le_of_ble_eq_true rfl) ?_
  intro p e s m args below meth c ls A Q hx hb hts hown hml hK hP hD hA hS hl hend
  have hown : s.vm.findClass RX0 = some m.cls := hown
  have hl : lv_has ls 3 [(0, .ref b), (1, .int x), (2, .int v)] := hl
  refine lv_iload_n hx hb dX0_put_0 rfl (lv_at hl 1 rfl) ?_
  refine lv_if_lt (tgt := 14) hx hb dX0_put_1 (by decide) (fun c_1 => (absurd c_1 (by rw [ei]; exact nI_pos (by omega)) : False).elim) (fun c_1 => ?_)
  refine lv_iload_n hx hb dX0_put_4 rfl (lv_at hl 1 rfl) ?_
  refine lv_aload_n hx hb dX0_put_5 rfl (lv_at hl 0 rfl) ?_
  refine va_alen hx hb hK hP 0 0 rfl rfl (v := nI n) rfl dX0_put_6 ?_
  refine lv_icmp_ge (tgt := 14) hx hb dX0_put_7 (by decide) (fun c_7 => (absurd c_7 (by rw [ei, nI_leI (by omega) (by omega)]; omega) : False).elim) (fun c_7 => ?_)
  refine lv_aload_n hx hb dX0_put_10 rfl (lv_at hl 0 rfl) ?_
  refine lv_iload_n hx hb dX0_put_11 rfl (lv_at hl 1 rfl) ?_
  refine lv_iload_n hx hb dX0_put_12 rfl (lv_at hl 2 rfl) ?_
  refine ri_ast hx hb hK hP hD hS 0 rfl ei hj hn dX0_put_13 (fun H locs hP hD hS => ?_)
  exact hend 14 ls (()) _ _ dX0_put_14 hP hD hS (trivial)

section PUT
variable {p : Program} {l : Launch} {e : Env} {R : Room} {s : State} {m : MethodId} {args : Array Value} {below : List Frame} {meth : Method} {c : Code} {H : Heap} {locs : List Loc} {cells slots : Nat} {Q : State → Prop}
variable {cc : ByteArray} {pc nL index : Nat} {ls : Array Slot} {rest : List Value} {D : va_G} {cA : ClassId} {A0 : Nat → Prop} {H0 : Heap} {w : va_W} {Ts : List Cond} {b n j k : Nat} {f : Nat → Int32} {x v : Int32}
theorem put_call (S : CallFix p m c cc nL s args Ts RX0) (hg : GoodIn Ts (va_wsS RX0 index yX0_put wsX0_put)) (hK : KA D cA s) (hP : va_P D vwCl w H) (hD : va_D A0 w) (hS : va_S A0 H0 H locs) (hA : ∀ q : Nat, H0.size ≤ q → A0 q) (hk : w[k]? = some (b, .inl (cA, n, .inl f))) (ei : x = nI j) (hj : j < n) (hn : n ≤ 120) (hls : ls.size = nL) (hrm : (rest.map fun v => v.category).sum ≤ 8) (hdg : decode cc pc = .ok (.invokestatic index, 3)) (hf : cells ≤ R.cells ∧ slots ≤ R.slots) (hR : rmX0_put.frames + 1 ≤ R.frames ∧ 8 + (3 + 11) + rmX0_put.locals ≤ R.locals)
    (kk : ∀ (H1 : Heap) (locs1 : List Loc), va_P D vwCl (w.set k (b, .inl (cA, n, .inl (upd f j v)))) H1 → va_D A0 (w.set k (b, .inl (cA, n, .inl (upd f j v)))) → va_S A0 H0 H1 locs1 → W p l e R s m args below meth c H1 locs1 cells slots Q (F0 m (pc + 3) ls rest)) : W p l e R s m args below meth c H locs cells slots Q (F0 m pc ls (.int v :: .int x :: .ref b :: rest)) := by
  have hC : [k].map (fun i => w[i]?) = ([(b, .inl (cA, n, .inl f))] : va_W).map some := by simp [hk]
  have hF := va_free hD hS hA [k] hC
  have hpre := PreWr (As := [.ref b, .int x, .int v]) [k] hC rfl hK hP hD
  refine va_callv (va_runS (rest := rest) S (c_X0_put l D cA b n f x j ei hj hn v H.size) (va_cwS 3 S.2.2.2.2 hg rfl rfl rfl (by decide +kernel) hR) hpre rfl rfl hls rfl (lv_room hrm) hdg ⟨hf.1, hf.2⟩) hS (fun q _ h => hF q h) hF (fun u t H1 locs1 ht hvm hw hB hz1 hk1 hS1 => ?_)
  obtain ⟨hP1, hK1, hD1⟩ := hB
  rw [ht] at hP1
  refine kk H1 locs1 (P_upd hP hD hk (hP1 0 _ rfl) (fun q h1 h2 => hk1 q h1 (fun hA9 => ?_))) (hD.set hk) hS1
  rcases hA9 with ⟨k9, e9, h9⟩ | h9
  · rcases k9 with _ | k9
    · cases h9; exact h2 rfl
    · cases h9
  · omega
end PUT
set_option maxHeartbeats 4000000 in
set_option maxRecDepth 100000 in
theorem c_X0_fillAheadOnDay (l : Launch) (D : va_G) (cA : ClassId) (a : Nat → Nat) (F : Nat → Nat → Int32) (g : Nat → Int32) (N : Nat) (hW : wf F N) (x : Int32) (one : Nat) (ei : x = nI one) (ho : one < N) : Wv l D cA (S := Nat → Int32) (wX a cA F g) (fun g => wX a cA F g) yX0_fillAheadOnDay wsX0_fillAheadOnDay rmX0_fillAheadOnDay [.ref (a 16), .int x] (fun g => ∀ j, j < 7 → g j = ps (tAh F one j) N) := by
  subst ei
  refine Wv.of (cc := cX0_fillAheadOnDay) (maxL := 9) (by decide) rfl (Nat.le_of_ble_eq_true rfl) ?_
  intro p e s m args below meth c ls A Q hx hb hts hown hml hK hP hD hA hS hl hend
  have hown : s.vm.findClass RX0 = some m.cls := hown
  have hi : ∀ w ∈ wsX00, w ∈ wsX0_fillAheadOnDay := by decide +kernel
  have hl : lv_has ls 9 [(0, .ref (a 16)), (1, .int (nI one))] := hl
  have hN : N ≤ 80 := hW.n
  have hc : F 7 0 = nI N := hW.c
  have h7 : (7 : Int32) = nI 7 := rfl
  refine lv_aload_n hx hb dX0_fillAheadOnDay_0 rfl (lv_at hl 0 rfl) ?_
  refine va_get (D := D) (ci := 0) (v := .ref (a 8)) (C := RX0) (T := TX0) (N := 16) hx hb hts hi hown hK hP 0 rfl rfl 8 (by decide) (hts (.fieldLink RX0 35 "AssignmentHouse" "workerOf" "[I") (by decide +kernel)) (fun _ h9 => h9) rfl dX0_fillAheadOnDay_1 ?_
  refine lv_iload_n hx hb dX0_fillAheadOnDay_4 rfl (lv_at hl 1 rfl) ?_
  refine Rd.callS (rest := []) ⟨hx, hb, hml, hown, hts⟩ (c_X0_at l D cA (a 8) 80 (F 8) (nI one) one (rfl) (by omega) (by decide)) (va_cwS 2 hts gX0_fillAheadOnDay_X0_at rfl rfl rfl (by decide +kernel) ⟨Nat.le_of_ble_eq_true rfl, Nat.le_of_ble_eq_true rfl⟩) hK (hP.sub [6] rfl) rfl rfl hl.1 (Nat.le_of_ble_eq_true rfl) dX0_fillAheadOnDay_5 ⟨Nat.zero_le _, Nat.zero_le _⟩ ?_
  refine lv_istore_n (lv' := [(2, .int (F 8 one)), (0, .ref (a 16)), (1, .int (nI one))]) hx hb dX0_fillAheadOnDay_8 rfl hl (by decide) rfl (fun ls hl => ?_)
  refine lv_aload_n hx hb dX0_fillAheadOnDay_9 rfl (lv_at hl 1 rfl) ?_
  refine va_get (D := D) (ci := 0) (v := .ref (a 10)) (C := RX0) (T := TX0) (N := 16) hx hb hts hi hown hK hP 0 rfl rfl 10 (by decide) (hts (.fieldLink RX0 41 "AssignmentHouse" "dayOf" "[I") (by decide +kernel)) (fun _ h9 => h9) rfl dX0_fillAheadOnDay_10 ?_
  refine lv_iload_n hx hb dX0_fillAheadOnDay_13 rfl (lv_at hl 2 rfl) ?_
  refine Rd.callS (rest := []) ⟨hx, hb, hml, hown, hts⟩ (c_X0_at l D cA (a 10) 80 (F 10) (nI one) one (rfl) (by omega) (by decide)) (va_cwS 2 hts gX0_fillAheadOnDay_X0_at rfl rfl rfl (by decide +kernel) ⟨Nat.le_of_ble_eq_true rfl, Nat.le_of_ble_eq_true rfl⟩) hK (hP.sub [8] rfl) rfl rfl hl.1 (Nat.le_of_ble_eq_true rfl) dX0_fillAheadOnDay_14 ⟨Nat.zero_le _, Nat.zero_le _⟩ ?_
  refine lv_istore_n (lv' := [(3, .int (F 10 one)), (2, .int (F 8 one)), (0, .ref (a 16)), (1, .int (nI one))]) hx hb dX0_fillAheadOnDay_17 rfl hl (by decide) rfl (fun ls hl => ?_)
  refine lv_iload_n hx hb dX0_fillAheadOnDay_18 rfl (lv_at hl 0 rfl) ?_
  refine Rd.callS (rest := []) ⟨hx, hb, hml, hown, hts⟩ (c_X0_weekOf l D cA (F 10 one)) (va_cwS 1 hts gX0_fillAheadOnDay_X0_weekOf rfl rfl rfl (by decide +kernel) ⟨Nat.le_of_ble_eq_true rfl, Nat.le_of_ble_eq_true rfl⟩) hK noP rfl rfl hl.1 (Nat.le_of_ble_eq_true rfl) dX0_fillAheadOnDay_19 ⟨Nat.zero_le _, Nat.zero_le _⟩ ?_
  refine lv_istore (lv' := [(4, .int ((F 10 one) / 7)), (3, .int (F 10 one)), (2, .int (F 8 one)), (0, .ref (a 16)), (1, .int (nI one))]) hx hb dX0_fillAheadOnDay_22 hl (by decide) rfl (fun ls hl => ?_)
  refine lv_iconst (v := 0) hx hb dX0_fillAheadOnDay_24 (by decide) ?_
  refine lv_istore (lv' := [(5, .int 0), (4, .int ((F 10 one) / 7)), (3, .int (F 10 one)), (2, .int (F 8 one)), (0, .ref (a 16)), (1, .int (nI one))]) hx hb dX0_fillAheadOnDay_25 hl (by decide) rfl (fun ls hl => ?_)
  have K_27 : ∀ (n i : Nat) (g : Nat → Int32) (H : Heap) (locs : List Loc) (ls : Array Slot), i + n = 7 → (∀ j, j < i → g j = 0) → va_P D vwCl (wX a cA F g) H → va_D A (wX a cA F g) → va_S A s.heap H locs → lv_has ls 9 [(0, .ref (a 16)), (1, .int (nI one)), (2, .int (F 8 one)), (3, .int (F 10 one)), (4, .int ((F 10 one) / 7)), (5, .int (nI i))] → W p l e rmX0_fillAheadOnDay s m args below meth c H locs 0 0 Q (F0 m 27 ls []) := by
    intro n
    induction n with
    | zero =>
      intro i  g H locs ls hin_27  inv_g hP hD hS hl
      have hiN : i = 7 := by omega
      refine lv_iload hx hb dX0_fillAheadOnDay_27 (lv_at hl 5 rfl) ?_
      refine lv_bipush (v := 7) hx hb dX0_fillAheadOnDay_29 (by decide) ?_
      refine lv_icmp_ge (tgt := 50) hx hb dX0_fillAheadOnDay_31 (by decide) (fun c_31 => ?_) (fun c_31 => (absurd (((br_ge h7 (by omega) (by omega : i ≤ 7)).mpr hiN)) c_31 : False).elim)
      refine lv_iconst (v := 0) hx hb dX0_fillAheadOnDay_50 (by decide) ?_
      refine lv_istore (lv' := [(5, .int 0), (0, .ref (a 16)), (1, .int (nI one)), (2, .int (F 8 one)), (3, .int (F 10 one)), (4, .int ((F 10 one) / 7))]) hx hb dX0_fillAheadOnDay_51 hl (by decide) rfl (fun ls hl => ?_)
      have K_53 : ∀ (n i : Nat) (g : Nat → Int32) (H : Heap) (locs : List Loc) (ls : Array Slot), i + n = N → (∀ j, j < 7 → g j = ps (tAh F one j) i) → va_P D vwCl (wX a cA F g) H → va_D A (wX a cA F g) → va_S A s.heap H locs → lv_has ls 9 [(0, .ref (a 16)), (1, .int (nI one)), (2, .int (F 8 one)), (3, .int (F 10 one)), (4, .int ((F 10 one) / 7)), (5, .int (nI i))] → W p l e rmX0_fillAheadOnDay s m args below meth c H locs 0 0 Q (F0 m 53 ls []) := by
        intro n
        induction n with
        | zero =>
          intro i  g H locs ls hin_53  inv_g hP hD hS hl
          have hiN : i = N := by omega
          refine lv_iload hx hb dX0_fillAheadOnDay_53 (lv_at hl 5 rfl) ?_
          refine lv_aload_n hx hb dX0_fillAheadOnDay_55 rfl (lv_at hl 0 rfl) ?_
          refine va_get (D := D) (ci := 0) (v := .int (F 7 0)) (C := RX0) (T := TX0) (N := 16) hx hb hts hi hown hK hP 0 rfl rfl 7 (by decide) (hts (.fieldLink RX0 32 "AssignmentHouse" "shiftCount" "I") (by decide +kernel)) (fun _ h9 => h9) rfl dX0_fillAheadOnDay_56 ?_
          refine lv_icmp_ge (tgt := 156) hx hb dX0_fillAheadOnDay_59 (by decide) (fun c_59 => ?_) (fun c_59 => (absurd (((br_ge hc (by omega) (by omega : i ≤ N)).mpr hiN)) c_59 : False).elim)
          exact hend 156 ls (g) _ _ dX0_fillAheadOnDay_156 hP hD hS (fun j h => by rw [inv_g j h, hiN])
        | succ n ih_53 =>
          intro i  g H locs ls hin_53  inv_g hP hD hS hl
          have hiN : i < N := by omega
          have hr7 := rem7 hW hiN
          refine lv_iload hx hb dX0_fillAheadOnDay_53 (lv_at hl 5 rfl) ?_
          refine lv_aload_n hx hb dX0_fillAheadOnDay_55 rfl (lv_at hl 0 rfl) ?_
          refine va_get (D := D) (ci := 0) (v := .int (F 7 0)) (C := RX0) (T := TX0) (N := 16) hx hb hts hi hown hK hP 0 rfl rfl 7 (by decide) (hts (.fieldLink RX0 32 "AssignmentHouse" "shiftCount" "I") (by decide +kernel)) (fun _ h9 => h9) rfl dX0_fillAheadOnDay_56 ?_
          refine lv_icmp_ge (tgt := 156) hx hb dX0_fillAheadOnDay_59 (by decide) (fun c_59 => (absurd (((br_ge hc (by omega) (by omega : i ≤ N)).mp c_59)) (by omega) : False).elim) (fun c_59 => ?_)
          refine lv_aload_n hx hb dX0_fillAheadOnDay_62 rfl (lv_at hl 0 rfl) ?_
          refine va_get (D := D) (ci := 0) (v := .ref (a 10)) (C := RX0) (T := TX0) (N := 16) hx hb hts hi hown hK hP 0 rfl rfl 10 (by decide) (hts (.fieldLink RX0 41 "AssignmentHouse" "dayOf" "[I") (by decide +kernel)) (fun _ h9 => h9) rfl dX0_fillAheadOnDay_63 ?_
          refine lv_iload hx hb dX0_fillAheadOnDay_66 (lv_at hl 5 rfl) ?_
          refine Rd.callS (rest := []) ⟨hx, hb, hml, hown, hts⟩ (c_X0_at l D cA (a 10) 80 (F 10) (nI i) i (rfl) (by omega) (by decide)) (va_cwS 2 hts gX0_fillAheadOnDay_X0_at rfl rfl rfl (by decide +kernel) ⟨Nat.le_of_ble_eq_true rfl, Nat.le_of_ble_eq_true rfl⟩) hK (hP.sub [8] rfl) rfl rfl hl.1 (Nat.le_of_ble_eq_true rfl) dX0_fillAheadOnDay_68 ⟨Nat.zero_le _, Nat.zero_le _⟩ ?_
          refine lv_istore (lv' := [(6, .int (F 10 i)), (0, .ref (a 16)), (1, .int (nI one)), (2, .int (F 8 one)), (3, .int (F 10 one)), (4, .int ((F 10 one) / 7)), (5, .int (nI i))]) hx hb dX0_fillAheadOnDay_71 hl (by decide) rfl (fun ls hl => ?_)
          refine lv_iload hx hb dX0_fillAheadOnDay_73 (lv_at hl 0 rfl) ?_
          refine lv_iload_n hx hb dX0_fillAheadOnDay_75 rfl (lv_at hl 4 rfl) ?_
          refine lv_icmp_lt (tgt := 91) hx hb dX0_fillAheadOnDay_76 (by decide) (fun c_76 => ?_) (fun c_76 => ?_)
          · skip
            refine lv_iconst (v := 1) hx hb dX0_fillAheadOnDay_91 (by decide) ?_
            refine lv_goto (tgt := 96) hx hb dX0_fillAheadOnDay_92 (by decide) ?_
            refine lv_istore (lv' := [(7, .int 1), (6, .int (F 10 i)), (0, .ref (a 16)), (1, .int (nI one)), (2, .int (F 8 one)), (3, .int (F 10 one)), (4, .int ((F 10 one) / 7)), (5, .int (nI i))]) hx hb dX0_fillAheadOnDay_96 hl (by decide) rfl (fun ls hl => ?_)
            refine lv_iload hx hb dX0_fillAheadOnDay_98 (lv_at hl 0 rfl) ?_
            refine lv_if_eq (tgt := 150) hx hb dX0_fillAheadOnDay_100 (by decide) (fun c_100 => (absurd c_100 (by decide) : False).elim) (fun c_100 => ?_)
            refine lv_aload_n hx hb dX0_fillAheadOnDay_103 rfl (lv_at hl 2 rfl) ?_
            refine lv_iload hx hb dX0_fillAheadOnDay_104 (lv_at hl 7 rfl) ?_
            refine lv_iload_n hx hb dX0_fillAheadOnDay_106 rfl (lv_at hl 4 rfl) ?_
            refine lv_iload hx hb dX0_fillAheadOnDay_107 (lv_at hl 6 rfl) ?_
            refine Rd.callV (rest := []) (q0 := 0) (ci := 0) ⟨hx, hb, hml, hown, hts⟩ (c_X0_isOfWorker l D cA a F g (nI i) i rfl (by omega) (F 8 one) ((F 10 one) / 7)) (cwV 3 hts gX0_fillAheadOnDay_X0_isOfWorker rfl rfl rfl (by decide +kernel) ⟨Nat.le_of_ble_eq_true rfl, Nat.le_of_ble_eq_true rfl⟩) hK hP rfl rfl rfl rfl rfl hl.1 (Nat.le_of_ble_eq_true rfl) dX0_fillAheadOnDay_109 ⟨Nat.zero_le _, Nat.zero_le _⟩ ?_
            refine lv_if_eq (tgt := 150) hx hb dX0_fillAheadOnDay_112 (by decide) (fun c_112 => ?_) (fun c_112 => ?_)
            · skip
              have hq : ¬ (F 8 i = F 8 one ∧ F 10 i / 7 = F 10 one / 7) := fun h => absurd c_112 (by rw [if_pos h]; decide)
              refine lv_iinc (v := (nI (i + 1))) (lv' := [(5, .int (nI (i + 1))), (7, .int 1), (6, .int (F 10 i)), (0, .ref (a 16)), (1, .int (nI one)), (2, .int (F 8 one)), (3, .int (F 10 one)), (4, .int ((F 10 one) / 7))]) hx hb dX0_fillAheadOnDay_150 hl (k := 7) rfl (nI_1 i) (by decide) rfl (fun ls hl => ?_)
              refine lv_goto (tgt := 53) hx hb dX0_fillAheadOnDay_153 (by decide) ?_
              exact ih_53 (i + 1)  g _ _ ls (by omega)  (ah_skip inv_g (fun j h9 => hq h9.2.1)) hP hD hS (lv_sub hl [3, 4, 5, 6, 7, 0] rfl)
            · skip
              have hq : (F 8 i = F 8 one ∧ F 10 i / 7 = F 10 one / 7) := Classical.byContradiction (fun h => c_112 (if_neg h))
              refine lv_iload hx hb dX0_fillAheadOnDay_115 (lv_at hl 1 rfl) ?_
              refine lv_bipush (v := 7) hx hb dX0_fillAheadOnDay_117 (by decide) ?_
              refine lv_irem hx hb dX0_fillAheadOnDay_119 (by decide) ?_
              refine lv_istore (lv' := [(8, .int ((F 10 i) - (F 10 i) / 7 * 7)), (7, .int 1), (6, .int (F 10 i)), (0, .ref (a 16)), (1, .int (nI one)), (2, .int (F 8 one)), (3, .int (F 10 one)), (4, .int ((F 10 one) / 7)), (5, .int (nI i))]) hx hb dX0_fillAheadOnDay_120 hl (by decide) rfl (fun ls hl => ?_)
              refine lv_aload_n hx hb dX0_fillAheadOnDay_122 rfl (lv_at hl 3 rfl) ?_
              refine va_get (D := D) (ci := 0) (v := .ref (a 15)) (C := RX0) (T := TX0) (N := 16) hx hb hts hi hown hK hP 0 rfl rfl 15 (by decide) (hts (.fieldLink RX0 56 "AssignmentHouse" "aheadOnDay" "[I") (by decide +kernel)) (fun _ h9 => h9) rfl dX0_fillAheadOnDay_123 ?_
              refine lv_iload hx hb dX0_fillAheadOnDay_126 (lv_at hl 0 rfl) ?_
              refine lv_aload_n hx hb dX0_fillAheadOnDay_128 rfl (lv_at hl 3 rfl) ?_
              refine va_get (D := D) (ci := 0) (v := .ref (a 15)) (C := RX0) (T := TX0) (N := 16) hx hb hts hi hown hK hP 0 rfl rfl 15 (by decide) (hts (.fieldLink RX0 56 "AssignmentHouse" "aheadOnDay" "[I") (by decide +kernel)) (fun _ h9 => h9) rfl dX0_fillAheadOnDay_129 ?_
              refine lv_iload hx hb dX0_fillAheadOnDay_132 (lv_at hl 0 rfl) ?_
              refine Rd.callS (rest := [.int ((F 10 i) - (F 10 i) / 7 * 7), .ref (a 15)]) ⟨hx, hb, hml, hown, hts⟩ (c_X0_at l D cA (a 15) 7 g ((F 10 i) - (F 10 i) / 7 * 7) (dayN F i % 7) (hr7) (by omega) (by decide)) (va_cwS 2 hts gX0_fillAheadOnDay_X0_at rfl rfl rfl (by decide +kernel) ⟨Nat.le_of_ble_eq_true rfl, Nat.le_of_ble_eq_true rfl⟩) hK (hP.sub [13] rfl) rfl rfl hl.1 (Nat.le_of_ble_eq_true rfl) dX0_fillAheadOnDay_134 ⟨Nat.zero_le _, Nat.zero_le _⟩ ?_
              refine lv_aload_n hx hb dX0_fillAheadOnDay_137 rfl (lv_at hl 3 rfl) ?_
              refine va_get (D := D) (ci := 0) (v := .ref (a 11)) (C := RX0) (T := TX0) (N := 16) hx hb hts hi hown hK hP 0 rfl rfl 11 (by decide) (hts (.fieldLink RX0 44 "AssignmentHouse" "hoursOf" "[I") (by decide +kernel)) (fun _ h9 => h9) rfl dX0_fillAheadOnDay_138 ?_
              refine lv_iload hx hb dX0_fillAheadOnDay_141 (lv_at hl 8 rfl) ?_
              refine Rd.callS (rest := [.int (g (dayN F i % 7)), .int ((F 10 i) - (F 10 i) / 7 * 7), .ref (a 15)]) ⟨hx, hb, hml, hown, hts⟩ (c_X0_at l D cA (a 11) 80 (F 11) (nI i) i (rfl) (by omega) (by decide)) (va_cwS 2 hts gX0_fillAheadOnDay_X0_at rfl rfl rfl (by decide +kernel) ⟨Nat.le_of_ble_eq_true rfl, Nat.le_of_ble_eq_true rfl⟩) hK (hP.sub [9] rfl) rfl rfl hl.1 (Nat.le_of_ble_eq_true rfl) dX0_fillAheadOnDay_143 ⟨Nat.zero_le _, Nat.zero_le _⟩ ?_
              refine lv_iadd hx hb dX0_fillAheadOnDay_146 ?_
              refine put_call (k := 13) (b := a 15) (n := 7) (f := g) (x := ((F 10 i) - (F 10 i) / 7 * 7)) (j := (dayN F i % 7)) (v := ((g (dayN F i % 7)) + (F 11 i))) (rest := []) ⟨hx, hb, hml, hown, hts⟩ gX0_fillAheadOnDay_X0_put hK hP hD hS hA rfl (hr7) (by omega) (by decide) hl.1 (Nat.le_of_ble_eq_true rfl) dX0_fillAheadOnDay_147 ⟨Nat.zero_le _, Nat.zero_le _⟩ ⟨Nat.le_of_ble_eq_true rfl, Nat.le_of_ble_eq_true rfl⟩ (fun H locs hP hD hS => ?_)
              have hP : va_P D vwCl (wX a cA F (upd g (dayN F i % 7) ((g (dayN F i % 7)) + (F 11 i)))) H := hP
              have hD : va_D A (wX a cA F (upd g (dayN F i % 7) ((g (dayN F i % 7)) + (F 11 i)))) := hD
              refine lv_iinc (v := (nI (i + 1))) (lv' := [(5, .int (nI (i + 1))), (8, .int ((F 10 i) - (F 10 i) / 7 * 7)), (7, .int 1), (6, .int (F 10 i)), (0, .ref (a 16)), (1, .int (nI one)), (2, .int (F 8 one)), (3, .int (F 10 one)), (4, .int ((F 10 one) / 7))]) hx hb dX0_fillAheadOnDay_150 hl (k := 8) rfl (nI_1 i) (by decide) rfl (fun ls hl => ?_)
              refine lv_goto (tgt := 53) hx hb dX0_fillAheadOnDay_153 (by decide) ?_
              exact ih_53 (i + 1)  (upd g (dayN F i % 7) ((g (dayN F i % 7)) + (F 11 i))) _ _ ls (by omega)  (ah_upd inv_g (Or.inl c_76) hq) hP hD hS (lv_sub hl [4, 5, 6, 7, 8, 0] rfl)
          · skip
            refine lv_iload hx hb dX0_fillAheadOnDay_79 (lv_at hl 0 rfl) ?_
            refine lv_iload_n hx hb dX0_fillAheadOnDay_81 rfl (lv_at hl 4 rfl) ?_
            refine lv_icmp_ne (tgt := 95) hx hb dX0_fillAheadOnDay_82 (by decide) (fun c_82 => ?_) (fun c_82 => ?_)
            · skip
              refine lv_iconst (v := 0) hx hb dX0_fillAheadOnDay_95 (by decide) ?_
              refine lv_istore (lv' := [(7, .int 0), (6, .int (F 10 i)), (0, .ref (a 16)), (1, .int (nI one)), (2, .int (F 8 one)), (3, .int (F 10 one)), (4, .int ((F 10 one) / 7)), (5, .int (nI i))]) hx hb dX0_fillAheadOnDay_96 hl (by decide) rfl (fun ls hl => ?_)
              refine lv_iload hx hb dX0_fillAheadOnDay_98 (lv_at hl 0 rfl) ?_
              refine lv_if_eq (tgt := 150) hx hb dX0_fillAheadOnDay_100 (by decide) (fun c_100 => ?_) (fun c_100 => (absurd (by decide) c_100 : False).elim)
              refine lv_iinc (v := (nI (i + 1))) (lv' := [(5, .int (nI (i + 1))), (7, .int 0), (6, .int (F 10 i)), (0, .ref (a 16)), (1, .int (nI one)), (2, .int (F 8 one)), (3, .int (F 10 one)), (4, .int ((F 10 one) / 7))]) hx hb dX0_fillAheadOnDay_150 hl (k := 7) rfl (nI_1 i) (by decide) rfl (fun ls hl => ?_)
              refine lv_goto (tgt := 53) hx hb dX0_fillAheadOnDay_153 (by decide) ?_
              exact ih_53 (i + 1)  g _ _ ls (by omega)  (ah_skip inv_g (fun j h9 => h9.1.elim c_76 (fun z => c_82 z.1))) hP hD hS (lv_sub hl [3, 4, 5, 6, 7, 0] rfl)
            · skip
              refine lv_iload hx hb dX0_fillAheadOnDay_85 (lv_at hl 6 rfl) ?_
              refine lv_iload_n hx hb dX0_fillAheadOnDay_87 rfl (lv_at hl 2 rfl) ?_
              refine lv_icmp_ge (tgt := 95) hx hb dX0_fillAheadOnDay_88 (by decide) (fun c_88 => ?_) (fun c_88 => ?_)
              · skip
                refine lv_iconst (v := 0) hx hb dX0_fillAheadOnDay_95 (by decide) ?_
                refine lv_istore (lv' := [(7, .int 0), (6, .int (F 10 i)), (0, .ref (a 16)), (1, .int (nI one)), (2, .int (F 8 one)), (3, .int (F 10 one)), (4, .int ((F 10 one) / 7)), (5, .int (nI i))]) hx hb dX0_fillAheadOnDay_96 hl (by decide) rfl (fun ls hl => ?_)
                refine lv_iload hx hb dX0_fillAheadOnDay_98 (lv_at hl 0 rfl) ?_
                refine lv_if_eq (tgt := 150) hx hb dX0_fillAheadOnDay_100 (by decide) (fun c_100 => ?_) (fun c_100 => (absurd (by decide) c_100 : False).elim)
                refine lv_iinc (v := (nI (i + 1))) (lv' := [(5, .int (nI (i + 1))), (7, .int 0), (6, .int (F 10 i)), (0, .ref (a 16)), (1, .int (nI one)), (2, .int (F 8 one)), (3, .int (F 10 one)), (4, .int ((F 10 one) / 7))]) hx hb dX0_fillAheadOnDay_150 hl (k := 7) rfl (nI_1 i) (by decide) rfl (fun ls hl => ?_)
                refine lv_goto (tgt := 53) hx hb dX0_fillAheadOnDay_153 (by decide) ?_
                exact ih_53 (i + 1)  g _ _ ls (by omega)  (ah_skip inv_g (fun j h9 => h9.1.elim c_76 (fun z => absurd z.2 (Int32.not_lt.mpr c_88)))) hP hD hS (lv_sub hl [3, 4, 5, 6, 7, 0] rfl)
              · skip
                refine lv_iconst (v := 1) hx hb dX0_fillAheadOnDay_91 (by decide) ?_
                refine lv_goto (tgt := 96) hx hb dX0_fillAheadOnDay_92 (by decide) ?_
                refine lv_istore (lv' := [(7, .int 1), (6, .int (F 10 i)), (0, .ref (a 16)), (1, .int (nI one)), (2, .int (F 8 one)), (3, .int (F 10 one)), (4, .int ((F 10 one) / 7)), (5, .int (nI i))]) hx hb dX0_fillAheadOnDay_96 hl (by decide) rfl (fun ls hl => ?_)
                refine lv_iload hx hb dX0_fillAheadOnDay_98 (lv_at hl 0 rfl) ?_
                refine lv_if_eq (tgt := 150) hx hb dX0_fillAheadOnDay_100 (by decide) (fun c_100 => (absurd c_100 (by decide) : False).elim) (fun c_100 => ?_)
                refine lv_aload_n hx hb dX0_fillAheadOnDay_103 rfl (lv_at hl 2 rfl) ?_
                refine lv_iload hx hb dX0_fillAheadOnDay_104 (lv_at hl 7 rfl) ?_
                refine lv_iload_n hx hb dX0_fillAheadOnDay_106 rfl (lv_at hl 4 rfl) ?_
                refine lv_iload hx hb dX0_fillAheadOnDay_107 (lv_at hl 6 rfl) ?_
                refine Rd.callV (rest := []) (q0 := 0) (ci := 0) ⟨hx, hb, hml, hown, hts⟩ (c_X0_isOfWorker l D cA a F g (nI i) i rfl (by omega) (F 8 one) ((F 10 one) / 7)) (cwV 3 hts gX0_fillAheadOnDay_X0_isOfWorker rfl rfl rfl (by decide +kernel) ⟨Nat.le_of_ble_eq_true rfl, Nat.le_of_ble_eq_true rfl⟩) hK hP rfl rfl rfl rfl rfl hl.1 (Nat.le_of_ble_eq_true rfl) dX0_fillAheadOnDay_109 ⟨Nat.zero_le _, Nat.zero_le _⟩ ?_
                refine lv_if_eq (tgt := 150) hx hb dX0_fillAheadOnDay_112 (by decide) (fun c_112 => ?_) (fun c_112 => ?_)
                · skip
                  have hq : ¬ (F 8 i = F 8 one ∧ F 10 i / 7 = F 10 one / 7) := fun h => absurd c_112 (by rw [if_pos h]; decide)
                  refine lv_iinc (v := (nI (i + 1))) (lv' := [(5, .int (nI (i + 1))), (7, .int 1), (6, .int (F 10 i)), (0, .ref (a 16)), (1, .int (nI one)), (2, .int (F 8 one)), (3, .int (F 10 one)), (4, .int ((F 10 one) / 7))]) hx hb dX0_fillAheadOnDay_150 hl (k := 7) rfl (nI_1 i) (by decide) rfl (fun ls hl => ?_)
                  refine lv_goto (tgt := 53) hx hb dX0_fillAheadOnDay_153 (by decide) ?_
                  exact ih_53 (i + 1)  g _ _ ls (by omega)  (ah_skip inv_g (fun j h9 => hq h9.2.1)) hP hD hS (lv_sub hl [3, 4, 5, 6, 7, 0] rfl)
                · skip
                  have hq : (F 8 i = F 8 one ∧ F 10 i / 7 = F 10 one / 7) := Classical.byContradiction (fun h => c_112 (if_neg h))
                  refine lv_iload hx hb dX0_fillAheadOnDay_115 (lv_at hl 1 rfl) ?_
                  refine lv_bipush (v := 7) hx hb dX0_fillAheadOnDay_117 (by decide) ?_
                  refine lv_irem hx hb dX0_fillAheadOnDay_119 (by decide) ?_
                  refine lv_istore (lv' := [(8, .int ((F 10 i) - (F 10 i) / 7 * 7)), (7, .int 1), (6, .int (F 10 i)), (0, .ref (a 16)), (1, .int (nI one)), (2, .int (F 8 one)), (3, .int (F 10 one)), (4, .int ((F 10 one) / 7)), (5, .int (nI i))]) hx hb dX0_fillAheadOnDay_120 hl (by decide) rfl (fun ls hl => ?_)
                  refine lv_aload_n hx hb dX0_fillAheadOnDay_122 rfl (lv_at hl 3 rfl) ?_
                  refine va_get (D := D) (ci := 0) (v := .ref (a 15)) (C := RX0) (T := TX0) (N := 16) hx hb hts hi hown hK hP 0 rfl rfl 15 (by decide) (hts (.fieldLink RX0 56 "AssignmentHouse" "aheadOnDay" "[I") (by decide +kernel)) (fun _ h9 => h9) rfl dX0_fillAheadOnDay_123 ?_
                  refine lv_iload hx hb dX0_fillAheadOnDay_126 (lv_at hl 0 rfl) ?_
                  refine lv_aload_n hx hb dX0_fillAheadOnDay_128 rfl (lv_at hl 3 rfl) ?_
                  refine va_get (D := D) (ci := 0) (v := .ref (a 15)) (C := RX0) (T := TX0) (N := 16) hx hb hts hi hown hK hP 0 rfl rfl 15 (by decide) (hts (.fieldLink RX0 56 "AssignmentHouse" "aheadOnDay" "[I") (by decide +kernel)) (fun _ h9 => h9) rfl dX0_fillAheadOnDay_129 ?_
                  refine lv_iload hx hb dX0_fillAheadOnDay_132 (lv_at hl 0 rfl) ?_
                  refine Rd.callS (rest := [.int ((F 10 i) - (F 10 i) / 7 * 7), .ref (a 15)]) ⟨hx, hb, hml, hown, hts⟩ (c_X0_at l D cA (a 15) 7 g ((F 10 i) - (F 10 i) / 7 * 7) (dayN F i % 7) (hr7) (by omega) (by decide)) (va_cwS 2 hts gX0_fillAheadOnDay_X0_at rfl rfl rfl (by decide +kernel) ⟨Nat.le_of_ble_eq_true rfl, Nat.le_of_ble_eq_true rfl⟩) hK (hP.sub [13] rfl) rfl rfl hl.1 (Nat.le_of_ble_eq_true rfl) dX0_fillAheadOnDay_134 ⟨Nat.zero_le _, Nat.zero_le _⟩ ?_
                  refine lv_aload_n hx hb dX0_fillAheadOnDay_137 rfl (lv_at hl 3 rfl) ?_
                  refine va_get (D := D) (ci := 0) (v := .ref (a 11)) (C := RX0) (T := TX0) (N := 16) hx hb hts hi hown hK hP 0 rfl rfl 11 (by decide) (hts (.fieldLink RX0 44 "AssignmentHouse" "hoursOf" "[I") (by decide +kernel)) (fun _ h9 => h9) rfl dX0_fillAheadOnDay_138 ?_
                  refine lv_iload hx hb dX0_fillAheadOnDay_141 (lv_at hl 8 rfl) ?_
                  refine Rd.callS (rest := [.int (g (dayN F i % 7)), .int ((F 10 i) - (F 10 i) / 7 * 7), .ref (a 15)]) ⟨hx, hb, hml, hown, hts⟩ (c_X0_at l D cA (a 11) 80 (F 11) (nI i) i (rfl) (by omega) (by decide)) (va_cwS 2 hts gX0_fillAheadOnDay_X0_at rfl rfl rfl (by decide +kernel) ⟨Nat.le_of_ble_eq_true rfl, Nat.le_of_ble_eq_true rfl⟩) hK (hP.sub [9] rfl) rfl rfl hl.1 (Nat.le_of_ble_eq_true rfl) dX0_fillAheadOnDay_143 ⟨Nat.zero_le _, Nat.zero_le _⟩ ?_
                  refine lv_iadd hx hb dX0_fillAheadOnDay_146 ?_
                  refine put_call (k := 13) (b := a 15) (n := 7) (f := g) (x := ((F 10 i) - (F 10 i) / 7 * 7)) (j := (dayN F i % 7)) (v := ((g (dayN F i % 7)) + (F 11 i))) (rest := []) ⟨hx, hb, hml, hown, hts⟩ gX0_fillAheadOnDay_X0_put hK hP hD hS hA rfl (hr7) (by omega) (by decide) hl.1 (Nat.le_of_ble_eq_true rfl) dX0_fillAheadOnDay_147 ⟨Nat.zero_le _, Nat.zero_le _⟩ ⟨Nat.le_of_ble_eq_true rfl, Nat.le_of_ble_eq_true rfl⟩ (fun H locs hP hD hS => ?_)
                  have hP : va_P D vwCl (wX a cA F (upd g (dayN F i % 7) ((g (dayN F i % 7)) + (F 11 i)))) H := hP
                  have hD : va_D A (wX a cA F (upd g (dayN F i % 7) ((g (dayN F i % 7)) + (F 11 i)))) := hD
                  refine lv_iinc (v := (nI (i + 1))) (lv' := [(5, .int (nI (i + 1))), (8, .int ((F 10 i) - (F 10 i) / 7 * 7)), (7, .int 1), (6, .int (F 10 i)), (0, .ref (a 16)), (1, .int (nI one)), (2, .int (F 8 one)), (3, .int (F 10 one)), (4, .int ((F 10 one) / 7))]) hx hb dX0_fillAheadOnDay_150 hl (k := 8) rfl (nI_1 i) (by decide) rfl (fun ls hl => ?_)
                  refine lv_goto (tgt := 53) hx hb dX0_fillAheadOnDay_153 (by decide) ?_
                  exact ih_53 (i + 1)  (upd g (dayN F i % 7) ((g (dayN F i % 7)) + (F 11 i))) _ _ ls (by omega)  (ah_upd inv_g (Or.inr ⟨c_82, Int32.not_le.mp c_88⟩) hq) hP hD hS (lv_sub hl [4, 5, 6, 7, 8, 0] rfl)
      exact K_53 N 0  g _ _ ls (by omega)  (fun j h => inv_g j (by omega)) hP hD hS (lv_sub hl [1, 2, 3, 4, 5, 0] rfl)
    | succ n ih_27 =>
      intro i  g H locs ls hin_27  inv_g hP hD hS hl
      have hiN : i < 7 := by omega
      refine lv_iload hx hb dX0_fillAheadOnDay_27 (lv_at hl 5 rfl) ?_
      refine lv_bipush (v := 7) hx hb dX0_fillAheadOnDay_29 (by decide) ?_
      refine lv_icmp_ge (tgt := 50) hx hb dX0_fillAheadOnDay_31 (by decide) (fun c_31 => (absurd (((br_ge h7 (by omega) (by omega : i ≤ 7)).mp c_31)) (by omega) : False).elim) (fun c_31 => ?_)
      refine lv_aload_n hx hb dX0_fillAheadOnDay_34 rfl (lv_at hl 0 rfl) ?_
      refine va_get (D := D) (ci := 0) (v := .ref (a 15)) (C := RX0) (T := TX0) (N := 16) hx hb hts hi hown hK hP 0 rfl rfl 15 (by decide) (hts (.fieldLink RX0 56 "AssignmentHouse" "aheadOnDay" "[I") (by decide +kernel)) (fun _ h9 => h9) rfl dX0_fillAheadOnDay_35 ?_
      refine lv_iload hx hb dX0_fillAheadOnDay_38 (lv_at hl 5 rfl) ?_
      refine lv_iconst (v := 0) hx hb dX0_fillAheadOnDay_40 (by decide) ?_
      refine put_call (k := 13) (b := a 15) (n := 7) (f := g) (x := (nI i)) (j := i) (v := 0) (rest := []) ⟨hx, hb, hml, hown, hts⟩ gX0_fillAheadOnDay_X0_put hK hP hD hS hA rfl (rfl) (by omega) (by decide) hl.1 (Nat.le_of_ble_eq_true rfl) dX0_fillAheadOnDay_41 ⟨Nat.zero_le _, Nat.zero_le _⟩ ⟨Nat.le_of_ble_eq_true rfl, Nat.le_of_ble_eq_true rfl⟩ (fun H locs hP hD hS => ?_)
      have hP : va_P D vwCl (wX a cA F (upd g i 0)) H := hP
      have hD : va_D A (wX a cA F (upd g i 0)) := hD
      refine lv_iinc (v := (nI (i + 1))) (lv' := [(5, .int (nI (i + 1))), (0, .ref (a 16)), (1, .int (nI one)), (2, .int (F 8 one)), (3, .int (F 10 one)), (4, .int ((F 10 one) / 7))]) hx hb dX0_fillAheadOnDay_44 hl (k := 5) rfl (nI_1 i) (by decide) rfl (fun ls hl => ?_)
      refine lv_goto (tgt := 27) hx hb dX0_fillAheadOnDay_47 (by decide) ?_
      exact ih_27 (i + 1)  (upd g i 0) _ _ ls (by omega)  (z_upd inv_g) hP hD hS (lv_sub hl [1, 2, 3, 4, 5, 0] rfl)
  exact K_27 7 0  g _ _ ls (by omega)  (fun j h => absurd h (by omega)) hP hD hS (lv_sub hl [4, 5, 3, 2, 1, 0] rfl)


/-! the reads of the class, by program (wip/whole/gen) -/
abbrev rmX0_at : Room := { frames := 0, cells := 0, slots := 0, locals := 0 }
abbrev rmX0_weekOf : Room := { frames := 0, cells := 0, slots := 0, locals := 0 }
abbrev rmX0_plainOfDay : Room := { frames := 1, cells := 0, slots := 0, locals := 21 }
abbrev rmX0_chargeFor : Room := { frames := 0, cells := 0, slots := 0, locals := 0 }
abbrev rmX0_isOfWorker : Room := { frames := 1, cells := 0, slots := 0, locals := 21 }
abbrev rmX0_isAtSite : Room := { frames := 1, cells := 0, slots := 0, locals := 21 }
abbrev rmX0_hoursOnDay : Room := { frames := 1, cells := 0, slots := 0, locals := 21 }
abbrev rmX0_hoursAtSite : Room := { frames := 2, cells := 0, slots := 0, locals := 44 }
abbrev rmX0_minutesLeft : Room := { frames := 1, cells := 0, slots := 0, locals := 21 }
abbrev rmX0_plainByDayAhead : Room := { frames := 2, cells := 0, slots := 0, locals := 41 }
abbrev rmX0_shifts : Room := { frames := 0, cells := 0, slots := 0, locals := 0 }
theorem noP {D : va_G} {H : Heap} : va_P D vwCl [] H := fun k q h => by simp at h
set_option maxHeartbeats 4000000 in
set_option maxRecDepth 100000 in
theorem c_X0_at (l : Launch) (D : va_G) (cA : ClassId) (b : Nat) (n : Nat) (f : Nat → Int32) (x : Int32) (j : Nat) (ei : x = nI j) (hj : j < n) (hn : n ≤ 120) : Rd l D cA [(b, .inl (cA, n, .inl f))] yX0_at wsX0_at rmX0_at [.ref b, .int x] (f j) := by
  refine Rd.of (cc := cX0_at) (maxL := 2) (by decide) rfl (Nat.le_of_ble_eq_true rfl) ?_
  intro p e s m args below meth c ls Q hx hb hts hown hml hK hP hl hend
  have hown : s.vm.findClass RX0 = some m.cls := hown
  have hl : lv_has ls 2 [(0, .ref b), (1, .int x)] := hl
  refine lv_iload_n hx hb dX0_at_0 rfl (lv_at hl 1 rfl) ?_
  refine lv_if_lt (tgt := 16) hx hb dX0_at_1 (by decide) (fun c_1 => (absurd c_1 (by rw [ei]; exact nI_pos (by omega)) : False).elim) (fun c_1 => ?_)
  refine lv_iload_n hx hb dX0_at_4 rfl (lv_at hl 1 rfl) ?_
  refine lv_aload_n hx hb dX0_at_5 rfl (lv_at hl 0 rfl) ?_
  refine va_alen hx hb hK hP 0 0 rfl rfl (v := nI n) rfl dX0_at_6 ?_
  refine lv_icmp_ge (tgt := 16) hx hb dX0_at_7 (by decide) (fun c_7 => (absurd c_7 (by rw [ei, nI_leI (by omega) (by omega)]; omega) : False).elim) (fun c_7 => ?_)
  refine lv_aload_n hx hb dX0_at_10 rfl (lv_at hl 0 rfl) ?_
  refine lv_iload_n hx hb dX0_at_11 rfl (lv_at hl 1 rfl) ?_
  refine ri_ald hx hb hK hP 0 rfl ei hj hn dX0_at_12 ?_
  refine lv_goto (tgt := 17) hx hb dX0_at_13 (by decide) ?_
  exact hend 17 ls _ dX0_at_17 (rfl)

set_option maxHeartbeats 4000000 in
set_option maxRecDepth 100000 in
theorem c_X0_weekOf (l : Launch) (D : va_G) (cA : ClassId) (x : Int32) : Rd l D cA [] yX0_weekOf wsX0_weekOf rmX0_weekOf [.int x] (x / 7) := by
  refine Rd.of (cc := cX0_weekOf) (maxL := 1) (by decide) rfl (Nat.le_of_ble_eq_true rfl) ?_
  intro p e s m args below meth c ls Q hx hb hts hown hml hK hP hl hend
  have hown : s.vm.findClass RX0 = some m.cls := hown
  have hl : lv_has ls 1 [(0, .int x)] := hl
  refine lv_iload_n hx hb dX0_weekOf_0 rfl (lv_at hl 0 rfl) ?_
  refine lv_bipush (v := 7) hx hb dX0_weekOf_1 (by decide) ?_
  refine lv_idiv hx hb dX0_weekOf_3 (by decide) ?_
  exact hend 4 ls _ dX0_weekOf_4 (rfl)

set_option maxHeartbeats 4000000 in
set_option maxRecDepth 100000 in
theorem c_X0_plainOfDay (l : Launch) (D : va_G) (cA : ClassId) (x : Int32) : Rd l D cA [] yX0_plainOfDay wsX0_plainOfDay rmX0_plainOfDay [.int x] (if x < 8 then x else 8) := by
  refine Rd.of (cc := cX0_plainOfDay) (maxL := 1) (by decide) rfl (Nat.le_of_ble_eq_true rfl) ?_
  intro p e s m args below meth c ls Q hx hb hts hown hml hK hP hl hend
  have hown : s.vm.findClass RX0 = some m.cls := hown
  have hl : lv_has ls 1 [(0, .int x)] := hl
  refine lv_bipush (v := 8) hx hb dX0_plainOfDay_0 (by decide) ?_
  refine lv_iload_n hx hb dX0_plainOfDay_2 rfl (lv_at hl 0 rfl) ?_
  refine va_mmin hx hb (hml.trans hl.1.symm) hown (hts (.methodLink RX0 138 Lib.Math.min.name) (by decide +kernel)) (hts (.static Lib.Math.min.name) (by decide +kernel)) (hts (.initialized "java/lang/Math") (by decide +kernel)) (hts (.code Lib.Math.min.name Lib.Math.min.code 2 (some .int)) (by decide +kernel)) (Nat.le_of_ble_eq_true rfl) (Nat.le_of_ble_eq_true rfl) (Nat.zero_le _) (Nat.zero_le _) dX0_plainOfDay_3 ?_
  exact hend 6 ls _ dX0_plainOfDay_6 (rfl)

set_option maxHeartbeats 4000000 in
set_option maxRecDepth 100000 in
theorem c_X0_chargeFor (l : Launch) (D : va_G) (cA : ClassId) (x y : Int32) : Rd l D cA [] yX0_chargeFor wsX0_chargeFor rmX0_chargeFor [.int x, .int y] (x * (100 + y) / 100) := by
  refine Rd.of (cc := cX0_chargeFor) (maxL := 2) (by decide) rfl (Nat.le_of_ble_eq_true rfl) ?_
  intro p e s m args below meth c ls Q hx hb hts hown hml hK hP hl hend
  have hown : s.vm.findClass RX0 = some m.cls := hown
  have hl : lv_has ls 2 [(0, .int x), (1, .int y)] := hl
  refine lv_iload_n hx hb dX0_chargeFor_0 rfl (lv_at hl 0 rfl) ?_
  refine lv_bipush (v := 100) hx hb dX0_chargeFor_1 (by decide) ?_
  refine lv_iload_n hx hb dX0_chargeFor_3 rfl (lv_at hl 1 rfl) ?_
  refine lv_iadd hx hb dX0_chargeFor_4 ?_
  refine lv_imul hx hb dX0_chargeFor_5 ?_
  refine lv_bipush (v := 100) hx hb dX0_chargeFor_6 (by decide) ?_
  refine lv_idiv hx hb dX0_chargeFor_8 (by decide) ?_
  exact hend 9 ls _ dX0_chargeFor_9 (rfl)

set_option maxHeartbeats 4000000 in
set_option maxRecDepth 100000 in
theorem c_X0_isOfWorker (l : Launch) (D : va_G) (cA : ClassId) (a : Nat → Nat) (F : Nat → Nat → Int32) (g : Nat → Int32) (x : Int32) (j : Nat) (ei : x = nI j) (hj : j < 80) (w k : Int32) : Rd l D cA (wX a cA F g) yX0_isOfWorker wsX0_isOfWorker rmX0_isOfWorker [.ref (a 16), .int x, .int w, .int k] (if F 8 j = w ∧ F 10 j / 7 = k then 1 else 0) := by
  refine Rd.ofz (cc := cX0_isOfWorker) (maxL := 4) (by decide) rfl (Nat.le_of_ble_eq_true rfl) ?_
  intro p e s m args below meth c ls Q hx hb hts hown hml hK hP hl hend
  have hown : s.vm.findClass RX0 = some m.cls := hown
  have hi : ∀ w ∈ wsX00, w ∈ wsX0_isOfWorker := by decide +kernel
  have hl : lv_has ls 4 [(0, .ref (a 16)), (1, .int x), (2, .int w), (3, .int k)] := hl
  refine lv_aload_n hx hb dX0_isOfWorker_0 rfl (lv_at hl 0 rfl) ?_
  refine va_get (D := D) (ci := 0) (v := .ref (a 8)) (C := RX0) (T := TX0) (N := 16) hx hb hts hi hown hK hP 0 rfl rfl 8 (by decide) (hts (.fieldLink RX0 35 "AssignmentHouse" "workerOf" "[I") (by decide +kernel)) (fun _ h9 => h9) rfl dX0_isOfWorker_1 ?_
  refine lv_iload_n hx hb dX0_isOfWorker_4 rfl (lv_at hl 1 rfl) ?_
  refine Rd.callS (rest := []) ⟨hx, hb, hml, hown, hts⟩ (c_X0_at l D cA (a 8) 80 (F 8) (x) j (ei) (by omega) (by decide)) (va_cwS 2 hts gX0_isOfWorker_X0_at rfl rfl rfl (by decide +kernel) ⟨Nat.le_of_ble_eq_true rfl, Nat.le_of_ble_eq_true rfl⟩) hK (hP.sub [6] rfl) rfl rfl hl.1 (Nat.le_of_ble_eq_true rfl) dX0_isOfWorker_5 ⟨Nat.zero_le _, Nat.zero_le _⟩ ?_
  refine lv_iload_n hx hb dX0_isOfWorker_8 rfl (lv_at hl 2 rfl) ?_
  refine lv_icmp_ne (tgt := 31) hx hb dX0_isOfWorker_9 (by decide) (fun c_9 => ?_) (fun c_9 => ?_)
  · skip
    refine lv_iconst (v := 0) hx hb dX0_isOfWorker_31 (by decide) ?_
    exact hend 32 ls _ dX0_isOfWorker_32 (by first | (rw [if_pos ⟨c_9, c_24⟩]; done) | (rw [if_neg (fun h => c_24 h.2)]; done) | rw [if_neg (fun h => c_9 h.1)]) (Or.inl rfl)
  · skip
    refine lv_aload_n hx hb dX0_isOfWorker_12 rfl (lv_at hl 0 rfl) ?_
    refine va_get (D := D) (ci := 0) (v := .ref (a 10)) (C := RX0) (T := TX0) (N := 16) hx hb hts hi hown hK hP 0 rfl rfl 10 (by decide) (hts (.fieldLink RX0 41 "AssignmentHouse" "dayOf" "[I") (by decide +kernel)) (fun _ h9 => h9) rfl dX0_isOfWorker_13 ?_
    refine lv_iload_n hx hb dX0_isOfWorker_16 rfl (lv_at hl 1 rfl) ?_
    refine Rd.callS (rest := []) ⟨hx, hb, hml, hown, hts⟩ (c_X0_at l D cA (a 10) 80 (F 10) (x) j (ei) (by omega) (by decide)) (va_cwS 2 hts gX0_isOfWorker_X0_at rfl rfl rfl (by decide +kernel) ⟨Nat.le_of_ble_eq_true rfl, Nat.le_of_ble_eq_true rfl⟩) hK (hP.sub [8] rfl) rfl rfl hl.1 (Nat.le_of_ble_eq_true rfl) dX0_isOfWorker_17 ⟨Nat.zero_le _, Nat.zero_le _⟩ ?_
    refine Rd.callS (rest := []) ⟨hx, hb, hml, hown, hts⟩ (c_X0_weekOf l D cA (F 10 j)) (va_cwS 1 hts gX0_isOfWorker_X0_weekOf rfl rfl rfl (by decide +kernel) ⟨Nat.le_of_ble_eq_true rfl, Nat.le_of_ble_eq_true rfl⟩) hK noP rfl rfl hl.1 (Nat.le_of_ble_eq_true rfl) dX0_isOfWorker_20 ⟨Nat.zero_le _, Nat.zero_le _⟩ ?_
    refine lv_iload_n hx hb dX0_isOfWorker_23 rfl (lv_at hl 3 rfl) ?_
    refine lv_icmp_ne (tgt := 31) hx hb dX0_isOfWorker_24 (by decide) (fun c_24 => ?_) (fun c_24 => ?_)
    · skip
      refine lv_iconst (v := 0) hx hb dX0_isOfWorker_31 (by decide) ?_
      exact hend 32 ls _ dX0_isOfWorker_32 (by first | (rw [if_pos ⟨c_9, c_24⟩]; done) | (rw [if_neg (fun h => c_24 h.2)]; done) | rw [if_neg (fun h => c_9 h.1)]) (Or.inl rfl)
    · skip
      refine lv_iconst (v := 1) hx hb dX0_isOfWorker_27 (by decide) ?_
      refine lv_goto (tgt := 32) hx hb dX0_isOfWorker_28 (by decide) ?_
      exact hend 32 ls _ dX0_isOfWorker_32 (by first | (rw [if_pos ⟨c_9, c_24⟩]; done) | (rw [if_neg (fun h => c_24 h.2)]; done) | rw [if_neg (fun h => c_9 h.1)]) (Or.inr rfl)

set_option maxHeartbeats 4000000 in
set_option maxRecDepth 100000 in
theorem c_X0_isAtSite (l : Launch) (D : va_G) (cA : ClassId) (a : Nat → Nat) (F : Nat → Nat → Int32) (g : Nat → Int32) (x : Int32) (j : Nat) (ei : x = nI j) (hj : j < 80) (w k : Int32) : Rd l D cA (wX a cA F g) yX0_isAtSite wsX0_isAtSite rmX0_isAtSite [.ref (a 16), .int x, .int w, .int k] (if F 9 j = w ∧ F 10 j / 7 = k then 1 else 0) := by
  refine Rd.ofz (cc := cX0_isAtSite) (maxL := 4) (by decide) rfl (Nat.le_of_ble_eq_true rfl) ?_
  intro p e s m args below meth c ls Q hx hb hts hown hml hK hP hl hend
  have hown : s.vm.findClass RX0 = some m.cls := hown
  have hi : ∀ w ∈ wsX00, w ∈ wsX0_isAtSite := by decide +kernel
  have hl : lv_has ls 4 [(0, .ref (a 16)), (1, .int x), (2, .int w), (3, .int k)] := hl
  refine lv_aload_n hx hb dX0_isAtSite_0 rfl (lv_at hl 0 rfl) ?_
  refine va_get (D := D) (ci := 0) (v := .ref (a 9)) (C := RX0) (T := TX0) (N := 16) hx hb hts hi hown hK hP 0 rfl rfl 9 (by decide) (hts (.fieldLink RX0 38 "AssignmentHouse" "siteOf" "[I") (by decide +kernel)) (fun _ h9 => h9) rfl dX0_isAtSite_1 ?_
  refine lv_iload_n hx hb dX0_isAtSite_4 rfl (lv_at hl 1 rfl) ?_
  refine Rd.callS (rest := []) ⟨hx, hb, hml, hown, hts⟩ (c_X0_at l D cA (a 9) 80 (F 9) (x) j (ei) (by omega) (by decide)) (va_cwS 2 hts gX0_isAtSite_X0_at rfl rfl rfl (by decide +kernel) ⟨Nat.le_of_ble_eq_true rfl, Nat.le_of_ble_eq_true rfl⟩) hK (hP.sub [7] rfl) rfl rfl hl.1 (Nat.le_of_ble_eq_true rfl) dX0_isAtSite_5 ⟨Nat.zero_le _, Nat.zero_le _⟩ ?_
  refine lv_iload_n hx hb dX0_isAtSite_8 rfl (lv_at hl 2 rfl) ?_
  refine lv_icmp_ne (tgt := 31) hx hb dX0_isAtSite_9 (by decide) (fun c_9 => ?_) (fun c_9 => ?_)
  · skip
    refine lv_iconst (v := 0) hx hb dX0_isAtSite_31 (by decide) ?_
    exact hend 32 ls _ dX0_isAtSite_32 (by first | (rw [if_pos ⟨c_9, c_24⟩]; done) | (rw [if_neg (fun h => c_24 h.2)]; done) | rw [if_neg (fun h => c_9 h.1)]) (Or.inl rfl)
  · skip
    refine lv_aload_n hx hb dX0_isAtSite_12 rfl (lv_at hl 0 rfl) ?_
    refine va_get (D := D) (ci := 0) (v := .ref (a 10)) (C := RX0) (T := TX0) (N := 16) hx hb hts hi hown hK hP 0 rfl rfl 10 (by decide) (hts (.fieldLink RX0 41 "AssignmentHouse" "dayOf" "[I") (by decide +kernel)) (fun _ h9 => h9) rfl dX0_isAtSite_13 ?_
    refine lv_iload_n hx hb dX0_isAtSite_16 rfl (lv_at hl 1 rfl) ?_
    refine Rd.callS (rest := []) ⟨hx, hb, hml, hown, hts⟩ (c_X0_at l D cA (a 10) 80 (F 10) (x) j (ei) (by omega) (by decide)) (va_cwS 2 hts gX0_isAtSite_X0_at rfl rfl rfl (by decide +kernel) ⟨Nat.le_of_ble_eq_true rfl, Nat.le_of_ble_eq_true rfl⟩) hK (hP.sub [8] rfl) rfl rfl hl.1 (Nat.le_of_ble_eq_true rfl) dX0_isAtSite_17 ⟨Nat.zero_le _, Nat.zero_le _⟩ ?_
    refine Rd.callS (rest := []) ⟨hx, hb, hml, hown, hts⟩ (c_X0_weekOf l D cA (F 10 j)) (va_cwS 1 hts gX0_isAtSite_X0_weekOf rfl rfl rfl (by decide +kernel) ⟨Nat.le_of_ble_eq_true rfl, Nat.le_of_ble_eq_true rfl⟩) hK noP rfl rfl hl.1 (Nat.le_of_ble_eq_true rfl) dX0_isAtSite_20 ⟨Nat.zero_le _, Nat.zero_le _⟩ ?_
    refine lv_iload_n hx hb dX0_isAtSite_23 rfl (lv_at hl 3 rfl) ?_
    refine lv_icmp_ne (tgt := 31) hx hb dX0_isAtSite_24 (by decide) (fun c_24 => ?_) (fun c_24 => ?_)
    · skip
      refine lv_iconst (v := 0) hx hb dX0_isAtSite_31 (by decide) ?_
      exact hend 32 ls _ dX0_isAtSite_32 (by first | (rw [if_pos ⟨c_9, c_24⟩]; done) | (rw [if_neg (fun h => c_24 h.2)]; done) | rw [if_neg (fun h => c_9 h.1)]) (Or.inl rfl)
    · skip
      refine lv_iconst (v := 1) hx hb dX0_isAtSite_27 (by decide) ?_
      refine lv_goto (tgt := 32) hx hb dX0_isAtSite_28 (by decide) ?_
      exact hend 32 ls _ dX0_isAtSite_32 (by first | (rw [if_pos ⟨c_9, c_24⟩]; done) | (rw [if_neg (fun h => c_24 h.2)]; done) | rw [if_neg (fun h => c_9 h.1)]) (Or.inr rfl)

set_option maxHeartbeats 4000000 in
set_option maxRecDepth 100000 in
theorem c_X0_hoursOnDay (l : Launch) (D : va_G) (cA : ClassId) (a : Nat → Nat) (F : Nat → Nat → Int32) (g : Nat → Int32) (N : Nat) (hW : wf F N) (w d : Int32) : Rd l D cA (wX a cA F g) yX0_hoursOnDay wsX0_hoursOnDay rmX0_hoursOnDay [.ref (a 16), .int w, .int d] (ps (tOn F w d) N) := by
  refine Rd.of (cc := cX0_hoursOnDay) (maxL := 5) (by decide) rfl (Nat.le_of_ble_eq_true rfl) ?_
  intro p e s m args below meth c ls Q hx hb hts hown hml hK hP hl hend
  have hown : s.vm.findClass RX0 = some m.cls := hown
  have hi : ∀ w ∈ wsX00, w ∈ wsX0_hoursOnDay := by decide +kernel
  have hl : lv_has ls 5 [(0, .ref (a 16)), (1, .int w), (2, .int d)] := hl
  have hN : N ≤ 80 := hW.n
  have hc : F 7 0 = nI N := hW.c
  refine lv_iconst (v := 0) hx hb dX0_hoursOnDay_0 (by decide) ?_
  refine lv_istore_n (lv' := [(3, .int 0), (0, .ref (a 16)), (1, .int w), (2, .int d)]) hx hb dX0_hoursOnDay_1 rfl hl (by decide) rfl (fun ls hl => ?_)
  refine lv_iconst (v := 0) hx hb dX0_hoursOnDay_2 (by decide) ?_
  refine lv_istore (lv' := [(4, .int 0), (3, .int 0), (0, .ref (a 16)), (1, .int w), (2, .int d)]) hx hb dX0_hoursOnDay_3 hl (by decide) rfl (fun ls hl => ?_)
  have K_5 : ∀ (n i : Nat) (x3 : Int32) (ls : Array Slot), i + n = N → x3 = ps (tOn F w d) i → lv_has ls 5 [(0, .ref (a 16)), (1, .int w), (2, .int d), (3, .int x3), (4, .int (nI i))] → W p l e rmX0_hoursOnDay s m args below meth c s.heap [] 0 0 Q (F0 m 5 ls []) := by
    intro n
    induction n with
    | zero =>
      intro i x3 ls hin_5 ex3 hl
      have hiN : i = N := by omega
      refine lv_iload hx hb dX0_hoursOnDay_5 (lv_at hl 4 rfl) ?_
      refine lv_aload_n hx hb dX0_hoursOnDay_7 rfl (lv_at hl 0 rfl) ?_
      refine va_get (D := D) (ci := 0) (v := .int (F 7 0)) (C := RX0) (T := TX0) (N := 16) hx hb hts hi hown hK hP 0 rfl rfl 7 (by decide) (hts (.fieldLink RX0 32 "AssignmentHouse" "shiftCount" "I") (by decide +kernel)) (fun _ h9 => h9) rfl dX0_hoursOnDay_8 ?_
      refine lv_icmp_ge (tgt := 58) hx hb dX0_hoursOnDay_11 (by decide) (fun c_11 => ?_) (fun c_11 => (absurd (((br_ge hc (by omega) (by omega : i ≤ N)).mpr hiN)) c_11 : False).elim)
      refine lv_iload_n hx hb dX0_hoursOnDay_58 rfl (lv_at hl 3 rfl) ?_
      exact hend 59 ls _ dX0_hoursOnDay_59 (by rw [ex3, hiN])
    | succ n ih_5 =>
      intro i x3 ls hin_5 ex3 hl
      have hiN : i < N := by omega
      refine lv_iload hx hb dX0_hoursOnDay_5 (lv_at hl 4 rfl) ?_
      refine lv_aload_n hx hb dX0_hoursOnDay_7 rfl (lv_at hl 0 rfl) ?_
      refine va_get (D := D) (ci := 0) (v := .int (F 7 0)) (C := RX0) (T := TX0) (N := 16) hx hb hts hi hown hK hP 0 rfl rfl 7 (by decide) (hts (.fieldLink RX0 32 "AssignmentHouse" "shiftCount" "I") (by decide +kernel)) (fun _ h9 => h9) rfl dX0_hoursOnDay_8 ?_
      refine lv_icmp_ge (tgt := 58) hx hb dX0_hoursOnDay_11 (by decide) (fun c_11 => (absurd (((br_ge hc (by omega) (by omega : i ≤ N)).mp c_11)) (by omega) : False).elim) (fun c_11 => ?_)
      refine lv_aload_n hx hb dX0_hoursOnDay_14 rfl (lv_at hl 0 rfl) ?_
      refine va_get (D := D) (ci := 0) (v := .ref (a 8)) (C := RX0) (T := TX0) (N := 16) hx hb hts hi hown hK hP 0 rfl rfl 8 (by decide) (hts (.fieldLink RX0 35 "AssignmentHouse" "workerOf" "[I") (by decide +kernel)) (fun _ h9 => h9) rfl dX0_hoursOnDay_15 ?_
      refine lv_iload hx hb dX0_hoursOnDay_18 (lv_at hl 4 rfl) ?_
      refine Rd.callS (rest := []) ⟨hx, hb, hml, hown, hts⟩ (c_X0_at l D cA (a 8) 80 (F 8) (nI i) i (rfl) (by omega) (by decide)) (va_cwS 2 hts gX0_hoursOnDay_X0_at rfl rfl rfl (by decide +kernel) ⟨Nat.le_of_ble_eq_true rfl, Nat.le_of_ble_eq_true rfl⟩) hK (hP.sub [6] rfl) rfl rfl hl.1 (Nat.le_of_ble_eq_true rfl) dX0_hoursOnDay_20 ⟨Nat.zero_le _, Nat.zero_le _⟩ ?_
      refine lv_iload_n hx hb dX0_hoursOnDay_23 rfl (lv_at hl 1 rfl) ?_
      refine lv_icmp_ne (tgt := 52) hx hb dX0_hoursOnDay_24 (by decide) (fun c_24 => ?_) (fun c_24 => ?_)
      · skip
        refine lv_iinc (v := (nI (i + 1))) (lv' := [(4, .int (nI (i + 1))), (0, .ref (a 16)), (1, .int w), (2, .int d), (3, .int x3)]) hx hb dX0_hoursOnDay_52 hl (k := 4) rfl (nI_1 i) (by decide) rfl (fun ls hl => ?_)
        refine lv_goto (tgt := 5) hx hb dX0_hoursOnDay_55 (by decide) ?_
        exact ih_5 (i + 1) _ ls (by omega) (by rw [ps_s, ex3]; unfold tOn; first | (rw [if_pos ⟨c_24, c_37⟩]; done) | (rw [if_neg (fun h => c_24 h.1), i32_a0]; done) | (rw [if_neg (fun h => c_37 h.2), i32_a0]; done)) (lv_sub hl [1, 2, 3, 4, 0] rfl)
      · skip
        refine lv_aload_n hx hb dX0_hoursOnDay_27 rfl (lv_at hl 0 rfl) ?_
        refine va_get (D := D) (ci := 0) (v := .ref (a 10)) (C := RX0) (T := TX0) (N := 16) hx hb hts hi hown hK hP 0 rfl rfl 10 (by decide) (hts (.fieldLink RX0 41 "AssignmentHouse" "dayOf" "[I") (by decide +kernel)) (fun _ h9 => h9) rfl dX0_hoursOnDay_28 ?_
        refine lv_iload hx hb dX0_hoursOnDay_31 (lv_at hl 4 rfl) ?_
        refine Rd.callS (rest := []) ⟨hx, hb, hml, hown, hts⟩ (c_X0_at l D cA (a 10) 80 (F 10) (nI i) i (rfl) (by omega) (by decide)) (va_cwS 2 hts gX0_hoursOnDay_X0_at rfl rfl rfl (by decide +kernel) ⟨Nat.le_of_ble_eq_true rfl, Nat.le_of_ble_eq_true rfl⟩) hK (hP.sub [8] rfl) rfl rfl hl.1 (Nat.le_of_ble_eq_true rfl) dX0_hoursOnDay_33 ⟨Nat.zero_le _, Nat.zero_le _⟩ ?_
        refine lv_iload_n hx hb dX0_hoursOnDay_36 rfl (lv_at hl 2 rfl) ?_
        refine lv_icmp_ne (tgt := 52) hx hb dX0_hoursOnDay_37 (by decide) (fun c_37 => ?_) (fun c_37 => ?_)
        · skip
          refine lv_iinc (v := (nI (i + 1))) (lv' := [(4, .int (nI (i + 1))), (0, .ref (a 16)), (1, .int w), (2, .int d), (3, .int x3)]) hx hb dX0_hoursOnDay_52 hl (k := 4) rfl (nI_1 i) (by decide) rfl (fun ls hl => ?_)
          refine lv_goto (tgt := 5) hx hb dX0_hoursOnDay_55 (by decide) ?_
          exact ih_5 (i + 1) _ ls (by omega) (by rw [ps_s, ex3]; unfold tOn; first | (rw [if_pos ⟨c_24, c_37⟩]; done) | (rw [if_neg (fun h => c_24 h.1), i32_a0]; done) | (rw [if_neg (fun h => c_37 h.2), i32_a0]; done)) (lv_sub hl [1, 2, 3, 4, 0] rfl)
        · skip
          refine lv_iload_n hx hb dX0_hoursOnDay_40 rfl (lv_at hl 3 rfl) ?_
          refine lv_aload_n hx hb dX0_hoursOnDay_41 rfl (lv_at hl 0 rfl) ?_
          refine va_get (D := D) (ci := 0) (v := .ref (a 11)) (C := RX0) (T := TX0) (N := 16) hx hb hts hi hown hK hP 0 rfl rfl 11 (by decide) (hts (.fieldLink RX0 44 "AssignmentHouse" "hoursOf" "[I") (by decide +kernel)) (fun _ h9 => h9) rfl dX0_hoursOnDay_42 ?_
          refine lv_iload hx hb dX0_hoursOnDay_45 (lv_at hl 4 rfl) ?_
          refine Rd.callS (rest := [.int x3]) ⟨hx, hb, hml, hown, hts⟩ (c_X0_at l D cA (a 11) 80 (F 11) (nI i) i (rfl) (by omega) (by decide)) (va_cwS 2 hts gX0_hoursOnDay_X0_at rfl rfl rfl (by decide +kernel) ⟨Nat.le_of_ble_eq_true rfl, Nat.le_of_ble_eq_true rfl⟩) hK (hP.sub [9] rfl) rfl rfl hl.1 (Nat.le_of_ble_eq_true rfl) dX0_hoursOnDay_47 ⟨Nat.zero_le _, Nat.zero_le _⟩ ?_
          refine lv_iadd hx hb dX0_hoursOnDay_50 ?_
          refine lv_istore_n (lv' := [(3, .int (x3 + (F 11 i))), (0, .ref (a 16)), (1, .int w), (2, .int d), (4, .int (nI i))]) hx hb dX0_hoursOnDay_51 rfl hl (by decide) rfl (fun ls hl => ?_)
          refine lv_iinc (v := (nI (i + 1))) (lv' := [(4, .int (nI (i + 1))), (3, .int (x3 + (F 11 i))), (0, .ref (a 16)), (1, .int w), (2, .int d)]) hx hb dX0_hoursOnDay_52 hl (k := 4) rfl (nI_1 i) (by decide) rfl (fun ls hl => ?_)
          refine lv_goto (tgt := 5) hx hb dX0_hoursOnDay_55 (by decide) ?_
          exact ih_5 (i + 1) _ ls (by omega) (by rw [ps_s, ex3]; unfold tOn; first | (rw [if_pos ⟨c_24, c_37⟩]; done) | (rw [if_neg (fun h => c_24 h.1), i32_a0]; done) | (rw [if_neg (fun h => c_37 h.2), i32_a0]; done)) (lv_sub hl [2, 3, 4, 1, 0] rfl)
  exact K_5 N 0 _ ls (by omega) (rfl) (lv_sub hl [2, 3, 4, 1, 0] rfl)

set_option maxHeartbeats 4000000 in
set_option maxRecDepth 100000 in
theorem c_X0_hoursAtSite (l : Launch) (D : va_G) (cA : ClassId) (a : Nat → Nat) (F : Nat → Nat → Int32) (g : Nat → Int32) (N : Nat) (hW : wf F N) (t k : Int32) : Rd l D cA (wX a cA F g) yX0_hoursAtSite wsX0_hoursAtSite rmX0_hoursAtSite [.ref (a 16), .int t, .int k] (ps (tAt F t k) N) := by
  refine Rd.of (cc := cX0_hoursAtSite) (maxL := 5) (by decide) rfl (Nat.le_of_ble_eq_true rfl) ?_
  intro p e s m args below meth c ls Q hx hb hts hown hml hK hP hl hend
  have hown : s.vm.findClass RX0 = some m.cls := hown
  have hi : ∀ w ∈ wsX00, w ∈ wsX0_hoursAtSite := by decide +kernel
  have hl : lv_has ls 5 [(0, .ref (a 16)), (1, .int t), (2, .int k)] := hl
  have hN : N ≤ 80 := hW.n
  have hc : F 7 0 = nI N := hW.c
  refine lv_iconst (v := 0) hx hb dX0_hoursAtSite_0 (by decide) ?_
  refine lv_istore_n (lv' := [(3, .int 0), (0, .ref (a 16)), (1, .int t), (2, .int k)]) hx hb dX0_hoursAtSite_1 rfl hl (by decide) rfl (fun ls hl => ?_)
  refine lv_iconst (v := 0) hx hb dX0_hoursAtSite_2 (by decide) ?_
  refine lv_istore (lv' := [(4, .int 0), (3, .int 0), (0, .ref (a 16)), (1, .int t), (2, .int k)]) hx hb dX0_hoursAtSite_3 hl (by decide) rfl (fun ls hl => ?_)
  have K_5 : ∀ (n i : Nat) (x3 : Int32) (ls : Array Slot), i + n = N → x3 = ps (tAt F t k) i → lv_has ls 5 [(0, .ref (a 16)), (1, .int t), (2, .int k), (3, .int x3), (4, .int (nI i))] → W p l e rmX0_hoursAtSite s m args below meth c s.heap [] 0 0 Q (F0 m 5 ls []) := by
    intro n
    induction n with
    | zero =>
      intro i x3 ls hin_5 ex3 hl
      have hiN : i = N := by omega
      refine lv_iload hx hb dX0_hoursAtSite_5 (lv_at hl 4 rfl) ?_
      refine lv_aload_n hx hb dX0_hoursAtSite_7 rfl (lv_at hl 0 rfl) ?_
      refine va_get (D := D) (ci := 0) (v := .int (F 7 0)) (C := RX0) (T := TX0) (N := 16) hx hb hts hi hown hK hP 0 rfl rfl 7 (by decide) (hts (.fieldLink RX0 32 "AssignmentHouse" "shiftCount" "I") (by decide +kernel)) (fun _ h9 => h9) rfl dX0_hoursAtSite_8 ?_
      refine lv_icmp_ge (tgt := 43) hx hb dX0_hoursAtSite_11 (by decide) (fun c_11 => ?_) (fun c_11 => (absurd (((br_ge hc (by omega) (by omega : i ≤ N)).mpr hiN)) c_11 : False).elim)
      refine lv_iload_n hx hb dX0_hoursAtSite_43 rfl (lv_at hl 3 rfl) ?_
      exact hend 44 ls _ dX0_hoursAtSite_44 (by rw [ex3, hiN])
    | succ n ih_5 =>
      intro i x3 ls hin_5 ex3 hl
      have hiN : i < N := by omega
      refine lv_iload hx hb dX0_hoursAtSite_5 (lv_at hl 4 rfl) ?_
      refine lv_aload_n hx hb dX0_hoursAtSite_7 rfl (lv_at hl 0 rfl) ?_
      refine va_get (D := D) (ci := 0) (v := .int (F 7 0)) (C := RX0) (T := TX0) (N := 16) hx hb hts hi hown hK hP 0 rfl rfl 7 (by decide) (hts (.fieldLink RX0 32 "AssignmentHouse" "shiftCount" "I") (by decide +kernel)) (fun _ h9 => h9) rfl dX0_hoursAtSite_8 ?_
      refine lv_icmp_ge (tgt := 43) hx hb dX0_hoursAtSite_11 (by decide) (fun c_11 => (absurd (((br_ge hc (by omega) (by omega : i ≤ N)).mp c_11)) (by omega) : False).elim) (fun c_11 => ?_)
      refine lv_aload_n hx hb dX0_hoursAtSite_14 rfl (lv_at hl 0 rfl) ?_
      refine lv_iload hx hb dX0_hoursAtSite_15 (lv_at hl 4 rfl) ?_
      refine lv_iload_n hx hb dX0_hoursAtSite_17 rfl (lv_at hl 1 rfl) ?_
      refine lv_iload_n hx hb dX0_hoursAtSite_18 rfl (lv_at hl 2 rfl) ?_
      refine Rd.callV (rest := []) (q0 := 0) (ci := 0) ⟨hx, hb, hml, hown, hts⟩ (c_X0_isAtSite l D cA a F g (nI i) i (rfl) (by omega) t k) (cwV 3 hts gX0_hoursAtSite_X0_isAtSite rfl rfl rfl (by decide +kernel) ⟨Nat.le_of_ble_eq_true rfl, Nat.le_of_ble_eq_true rfl⟩) hK hP rfl rfl rfl rfl rfl hl.1 (Nat.le_of_ble_eq_true rfl) dX0_hoursAtSite_19 ⟨Nat.zero_le _, Nat.zero_le _⟩ ?_
      refine lv_if_eq (tgt := 37) hx hb dX0_hoursAtSite_22 (by decide) (fun c_22 => ?_) (fun c_22 => ?_)
      · skip
        have hq : ¬ (F 9 i = t ∧ F 10 i / 7 = k) := fun h => absurd c_22 (by rw [if_pos h]; decide)
        refine lv_iinc (v := (nI (i + 1))) (lv' := [(4, .int (nI (i + 1))), (0, .ref (a 16)), (1, .int t), (2, .int k), (3, .int x3)]) hx hb dX0_hoursAtSite_37 hl (k := 4) rfl (nI_1 i) (by decide) rfl (fun ls hl => ?_)
        refine lv_goto (tgt := 5) hx hb dX0_hoursAtSite_40 (by decide) ?_
        exact ih_5 (i + 1) _ ls (by omega) (by rw [ps_s, ex3]; unfold tAt; first | (rw [if_pos hq]; done) | (rw [if_neg hq, i32_a0]; done)) (lv_sub hl [1, 2, 3, 4, 0] rfl)
      · skip
        have hq : (F 9 i = t ∧ F 10 i / 7 = k) := Classical.byContradiction (fun h => c_22 (if_neg h))
        refine lv_iload_n hx hb dX0_hoursAtSite_25 rfl (lv_at hl 3 rfl) ?_
        refine lv_aload_n hx hb dX0_hoursAtSite_26 rfl (lv_at hl 0 rfl) ?_
        refine va_get (D := D) (ci := 0) (v := .ref (a 11)) (C := RX0) (T := TX0) (N := 16) hx hb hts hi hown hK hP 0 rfl rfl 11 (by decide) (hts (.fieldLink RX0 44 "AssignmentHouse" "hoursOf" "[I") (by decide +kernel)) (fun _ h9 => h9) rfl dX0_hoursAtSite_27 ?_
        refine lv_iload hx hb dX0_hoursAtSite_30 (lv_at hl 4 rfl) ?_
        refine Rd.callS (rest := [.int x3]) ⟨hx, hb, hml, hown, hts⟩ (c_X0_at l D cA (a 11) 80 (F 11) (nI i) i (rfl) (by omega) (by decide)) (va_cwS 2 hts gX0_hoursAtSite_X0_at rfl rfl rfl (by decide +kernel) ⟨Nat.le_of_ble_eq_true rfl, Nat.le_of_ble_eq_true rfl⟩) hK (hP.sub [9] rfl) rfl rfl hl.1 (Nat.le_of_ble_eq_true rfl) dX0_hoursAtSite_32 ⟨Nat.zero_le _, Nat.zero_le _⟩ ?_
        refine lv_iadd hx hb dX0_hoursAtSite_35 ?_
        refine lv_istore_n (lv' := [(3, .int (x3 + (F 11 i))), (0, .ref (a 16)), (1, .int t), (2, .int k), (4, .int (nI i))]) hx hb dX0_hoursAtSite_36 rfl hl (by decide) rfl (fun ls hl => ?_)
        refine lv_iinc (v := (nI (i + 1))) (lv' := [(4, .int (nI (i + 1))), (3, .int (x3 + (F 11 i))), (0, .ref (a 16)), (1, .int t), (2, .int k)]) hx hb dX0_hoursAtSite_37 hl (k := 4) rfl (nI_1 i) (by decide) rfl (fun ls hl => ?_)
        refine lv_goto (tgt := 5) hx hb dX0_hoursAtSite_40 (by decide) ?_
        exact ih_5 (i + 1) _ ls (by omega) (by rw [ps_s, ex3]; unfold tAt; first | (rw [if_pos hq]; done) | (rw [if_neg hq, i32_a0]; done)) (lv_sub hl [2, 3, 4, 1, 0] rfl)
  exact K_5 N 0 _ ls (by omega) (rfl) (lv_sub hl [2, 3, 4, 1, 0] rfl)

set_option maxHeartbeats 4000000 in
set_option maxRecDepth 100000 in
theorem c_X0_minutesLeft (l : Launch) (D : va_G) (cA : ClassId) (a : Nat → Nat) (F : Nat → Nat → Int32) (g : Nat → Int32) (N : Nat) (hW : wf F N) (x : Int32) (j : Nat) (ei : x = nI j) (hj : j < 6) : Rd l D cA (wX a cA F g) yX0_minutesLeft wsX0_minutesLeft rmX0_minutesLeft [.ref (a 16), .int x] (7 * ps (tHr F x) N - F 14 j) := by
  refine Rd.of (cc := cX0_minutesLeft) (maxL := 4) (by decide) rfl (Nat.le_of_ble_eq_true rfl) ?_
  intro p e s m args below meth c ls Q hx hb hts hown hml hK hP hl hend
  have hown : s.vm.findClass RX0 = some m.cls := hown
  have hi : ∀ w ∈ wsX00, w ∈ wsX0_minutesLeft := by decide +kernel
  have hl : lv_has ls 4 [(0, .ref (a 16)), (1, .int x)] := hl
  have hN : N ≤ 80 := hW.n
  have hc : F 7 0 = nI N := hW.c
  refine lv_iconst (v := 0) hx hb dX0_minutesLeft_0 (by decide) ?_
  refine lv_istore_n (lv' := [(2, .int 0), (0, .ref (a 16)), (1, .int x)]) hx hb dX0_minutesLeft_1 rfl hl (by decide) rfl (fun ls hl => ?_)
  refine lv_iconst (v := 0) hx hb dX0_minutesLeft_2 (by decide) ?_
  refine lv_istore_n (lv' := [(3, .int 0), (2, .int 0), (0, .ref (a 16)), (1, .int x)]) hx hb dX0_minutesLeft_3 rfl hl (by decide) rfl (fun ls hl => ?_)
  have K_4 : ∀ (n i : Nat) (x2 : Int32) (ls : Array Slot), i + n = N → x2 = ps (tHr F x) i → lv_has ls 4 [(0, .ref (a 16)), (1, .int x), (2, .int x2), (3, .int (nI i))] → W p l e rmX0_minutesLeft s m args below meth c s.heap [] 0 0 Q (F0 m 4 ls []) := by
    intro n
    induction n with
    | zero =>
      intro i x2 ls hin_4 ex2 hl
      have hiN : i = N := by omega
      refine lv_iload_n hx hb dX0_minutesLeft_4 rfl (lv_at hl 3 rfl) ?_
      refine lv_aload_n hx hb dX0_minutesLeft_5 rfl (lv_at hl 0 rfl) ?_
      refine va_get (D := D) (ci := 0) (v := .int (F 7 0)) (C := RX0) (T := TX0) (N := 16) hx hb hts hi hown hK hP 0 rfl rfl 7 (by decide) (hts (.fieldLink RX0 32 "AssignmentHouse" "shiftCount" "I") (by decide +kernel)) (fun _ h9 => h9) rfl dX0_minutesLeft_6 ?_
      refine lv_icmp_ge (tgt := 41) hx hb dX0_minutesLeft_9 (by decide) (fun c_9 => ?_) (fun c_9 => (absurd (((br_ge hc (by omega) (by omega : i ≤ N)).mpr hiN)) c_9 : False).elim)
      refine lv_bipush (v := 7) hx hb dX0_minutesLeft_41 (by decide) ?_
      refine lv_iload_n hx hb dX0_minutesLeft_43 rfl (lv_at hl 2 rfl) ?_
      refine lv_imul hx hb dX0_minutesLeft_44 ?_
      refine lv_aload_n hx hb dX0_minutesLeft_45 rfl (lv_at hl 0 rfl) ?_
      refine va_get (D := D) (ci := 0) (v := .ref (a 14)) (C := RX0) (T := TX0) (N := 16) hx hb hts hi hown hK hP 0 rfl rfl 14 (by decide) (hts (.fieldLink RX0 53 "AssignmentHouse" "minutesTaken" "[I") (by decide +kernel)) (fun _ h9 => h9) rfl dX0_minutesLeft_46 ?_
      refine lv_iload_n hx hb dX0_minutesLeft_49 rfl (lv_at hl 1 rfl) ?_
      refine Rd.callS (rest := [.int (7 * x2)]) ⟨hx, hb, hml, hown, hts⟩ (c_X0_at l D cA (a 14) 6 (F 14) (x) j (ei) (by omega) (by decide)) (va_cwS 2 hts gX0_minutesLeft_X0_at rfl rfl rfl (by decide +kernel) ⟨Nat.le_of_ble_eq_true rfl, Nat.le_of_ble_eq_true rfl⟩) hK (hP.sub [12] rfl) rfl rfl hl.1 (Nat.le_of_ble_eq_true rfl) dX0_minutesLeft_50 ⟨Nat.zero_le _, Nat.zero_le _⟩ ?_
      refine lv_isub hx hb dX0_minutesLeft_53 ?_
      exact hend 54 ls _ dX0_minutesLeft_54 (by rw [ex2, hiN])
    | succ n ih_4 =>
      intro i x2 ls hin_4 ex2 hl
      have hiN : i < N := by omega
      refine lv_iload_n hx hb dX0_minutesLeft_4 rfl (lv_at hl 3 rfl) ?_
      refine lv_aload_n hx hb dX0_minutesLeft_5 rfl (lv_at hl 0 rfl) ?_
      refine va_get (D := D) (ci := 0) (v := .int (F 7 0)) (C := RX0) (T := TX0) (N := 16) hx hb hts hi hown hK hP 0 rfl rfl 7 (by decide) (hts (.fieldLink RX0 32 "AssignmentHouse" "shiftCount" "I") (by decide +kernel)) (fun _ h9 => h9) rfl dX0_minutesLeft_6 ?_
      refine lv_icmp_ge (tgt := 41) hx hb dX0_minutesLeft_9 (by decide) (fun c_9 => (absurd (((br_ge hc (by omega) (by omega : i ≤ N)).mp c_9)) (by omega) : False).elim) (fun c_9 => ?_)
      refine lv_aload_n hx hb dX0_minutesLeft_12 rfl (lv_at hl 0 rfl) ?_
      refine va_get (D := D) (ci := 0) (v := .ref (a 8)) (C := RX0) (T := TX0) (N := 16) hx hb hts hi hown hK hP 0 rfl rfl 8 (by decide) (hts (.fieldLink RX0 35 "AssignmentHouse" "workerOf" "[I") (by decide +kernel)) (fun _ h9 => h9) rfl dX0_minutesLeft_13 ?_
      refine lv_iload_n hx hb dX0_minutesLeft_16 rfl (lv_at hl 3 rfl) ?_
      refine Rd.callS (rest := []) ⟨hx, hb, hml, hown, hts⟩ (c_X0_at l D cA (a 8) 80 (F 8) (nI i) i (rfl) (by omega) (by decide)) (va_cwS 2 hts gX0_minutesLeft_X0_at rfl rfl rfl (by decide +kernel) ⟨Nat.le_of_ble_eq_true rfl, Nat.le_of_ble_eq_true rfl⟩) hK (hP.sub [6] rfl) rfl rfl hl.1 (Nat.le_of_ble_eq_true rfl) dX0_minutesLeft_17 ⟨Nat.zero_le _, Nat.zero_le _⟩ ?_
      refine lv_iload_n hx hb dX0_minutesLeft_20 rfl (lv_at hl 1 rfl) ?_
      refine lv_icmp_ne (tgt := 35) hx hb dX0_minutesLeft_21 (by decide) (fun c_21 => ?_) (fun c_21 => ?_)
      · skip
        refine lv_iinc (v := (nI (i + 1))) (lv' := [(3, .int (nI (i + 1))), (0, .ref (a 16)), (1, .int x), (2, .int x2)]) hx hb dX0_minutesLeft_35 hl (k := 3) rfl (nI_1 i) (by decide) rfl (fun ls hl => ?_)
        refine lv_goto (tgt := 4) hx hb dX0_minutesLeft_38 (by decide) ?_
        exact ih_4 (i + 1) _ ls (by omega) (by rw [ps_s, ex2]; unfold tHr; first | (rw [if_pos c_21]; done) | (rw [if_neg c_21, i32_a0]; done)) (lv_sub hl [1, 2, 3, 0] rfl)
      · skip
        refine lv_iload_n hx hb dX0_minutesLeft_24 rfl (lv_at hl 2 rfl) ?_
        refine lv_aload_n hx hb dX0_minutesLeft_25 rfl (lv_at hl 0 rfl) ?_
        refine va_get (D := D) (ci := 0) (v := .ref (a 11)) (C := RX0) (T := TX0) (N := 16) hx hb hts hi hown hK hP 0 rfl rfl 11 (by decide) (hts (.fieldLink RX0 44 "AssignmentHouse" "hoursOf" "[I") (by decide +kernel)) (fun _ h9 => h9) rfl dX0_minutesLeft_26 ?_
        refine lv_iload_n hx hb dX0_minutesLeft_29 rfl (lv_at hl 3 rfl) ?_
        refine Rd.callS (rest := [.int x2]) ⟨hx, hb, hml, hown, hts⟩ (c_X0_at l D cA (a 11) 80 (F 11) (nI i) i (rfl) (by omega) (by decide)) (va_cwS 2 hts gX0_minutesLeft_X0_at rfl rfl rfl (by decide +kernel) ⟨Nat.le_of_ble_eq_true rfl, Nat.le_of_ble_eq_true rfl⟩) hK (hP.sub [9] rfl) rfl rfl hl.1 (Nat.le_of_ble_eq_true rfl) dX0_minutesLeft_30 ⟨Nat.zero_le _, Nat.zero_le _⟩ ?_
        refine lv_iadd hx hb dX0_minutesLeft_33 ?_
        refine lv_istore_n (lv' := [(2, .int (x2 + (F 11 i))), (0, .ref (a 16)), (1, .int x), (3, .int (nI i))]) hx hb dX0_minutesLeft_34 rfl hl (by decide) rfl (fun ls hl => ?_)
        refine lv_iinc (v := (nI (i + 1))) (lv' := [(3, .int (nI (i + 1))), (2, .int (x2 + (F 11 i))), (0, .ref (a 16)), (1, .int x)]) hx hb dX0_minutesLeft_35 hl (k := 3) rfl (nI_1 i) (by decide) rfl (fun ls hl => ?_)
        refine lv_goto (tgt := 4) hx hb dX0_minutesLeft_38 (by decide) ?_
        exact ih_4 (i + 1) _ ls (by omega) (by rw [ps_s, ex2]; unfold tHr; first | (rw [if_pos c_21]; done) | (rw [if_neg c_21, i32_a0]; done)) (lv_sub hl [2, 3, 1, 0] rfl)
  exact K_4 N 0 _ ls (by omega) (rfl) (lv_sub hl [2, 3, 1, 0] rfl)

set_option maxHeartbeats 4000000 in
set_option maxRecDepth 100000 in
theorem c_X0_plainByDayAhead (l : Launch) (D : va_G) (cA : ClassId) (a : Nat → Nat) (F : Nat → Nat → Int32) (g : Nat → Int32) : Rd l D cA (wX a cA F g) yX0_plainByDayAhead wsX0_plainByDayAhead rmX0_plainByDayAhead [.ref (a 16)] (ps (fun i => if g i < 8 then g i else 8) 7) := by
  refine Rd.of (cc := cX0_plainByDayAhead) (maxL := 3) (by decide) rfl (Nat.le_of_ble_eq_true rfl) ?_
  intro p e s m args below meth c ls Q hx hb hts hown hml hK hP hl hend
  have hown : s.vm.findClass RX0 = some m.cls := hown
  have hi : ∀ w ∈ wsX00, w ∈ wsX0_plainByDayAhead := by decide +kernel
  have hl : lv_has ls 3 [(0, .ref (a 16))] := hl
  have hc : (7 : Int32) = nI 7 := rfl
  refine lv_iconst (v := 0) hx hb dX0_plainByDayAhead_0 (by decide) ?_
  refine lv_istore_n (lv' := [(1, .int 0), (0, .ref (a 16))]) hx hb dX0_plainByDayAhead_1 rfl hl (by decide) rfl (fun ls hl => ?_)
  refine lv_iconst (v := 0) hx hb dX0_plainByDayAhead_2 (by decide) ?_
  refine lv_istore_n (lv' := [(2, .int 0), (1, .int 0), (0, .ref (a 16))]) hx hb dX0_plainByDayAhead_3 rfl hl (by decide) rfl (fun ls hl => ?_)
  have K_4 : ∀ (n i : Nat) (x1 : Int32) (ls : Array Slot), i + n = 7 → x1 = ps (fun i => if g i < 8 then g i else 8) i → lv_has ls 3 [(0, .ref (a 16)), (1, .int x1), (2, .int (nI i))] → W p l e rmX0_plainByDayAhead s m args below meth c s.heap [] 0 0 Q (F0 m 4 ls []) := by
    intro n
    induction n with
    | zero =>
      intro i x1 ls hin_4 ex1 hl
      have hiN : i = 7 := by omega
      refine lv_iload_n hx hb dX0_plainByDayAhead_4 rfl (lv_at hl 2 rfl) ?_
      refine lv_bipush (v := 7) hx hb dX0_plainByDayAhead_5 (by decide) ?_
      refine lv_icmp_ge (tgt := 30) hx hb dX0_plainByDayAhead_7 (by decide) (fun c_7 => ?_) (fun c_7 => (absurd (((br_ge hc (by omega) (by omega : i ≤ 7)).mpr hiN)) c_7 : False).elim)
      refine lv_iload_n hx hb dX0_plainByDayAhead_30 rfl (lv_at hl 1 rfl) ?_
      exact hend 31 ls _ dX0_plainByDayAhead_31 (by rw [ex1, hiN])
    | succ n ih_4 =>
      intro i x1 ls hin_4 ex1 hl
      have hiN : i < 7 := by omega
      refine lv_iload_n hx hb dX0_plainByDayAhead_4 rfl (lv_at hl 2 rfl) ?_
      refine lv_bipush (v := 7) hx hb dX0_plainByDayAhead_5 (by decide) ?_
      refine lv_icmp_ge (tgt := 30) hx hb dX0_plainByDayAhead_7 (by decide) (fun c_7 => (absurd (((br_ge hc (by omega) (by omega : i ≤ 7)).mp c_7)) (by omega) : False).elim) (fun c_7 => ?_)
      refine lv_iload_n hx hb dX0_plainByDayAhead_10 rfl (lv_at hl 1 rfl) ?_
      refine lv_aload_n hx hb dX0_plainByDayAhead_11 rfl (lv_at hl 0 rfl) ?_
      refine va_get (D := D) (ci := 0) (v := .ref (a 15)) (C := RX0) (T := TX0) (N := 16) hx hb hts hi hown hK hP 0 rfl rfl 15 (by decide) (hts (.fieldLink RX0 56 "AssignmentHouse" "aheadOnDay" "[I") (by decide +kernel)) (fun _ h9 => h9) rfl dX0_plainByDayAhead_12 ?_
      refine lv_iload_n hx hb dX0_plainByDayAhead_15 rfl (lv_at hl 2 rfl) ?_
      refine Rd.callS (rest := [.int x1]) ⟨hx, hb, hml, hown, hts⟩ (c_X0_at l D cA (a 15) 7 g (nI i) i (rfl) (by omega) (by decide)) (va_cwS 2 hts gX0_plainByDayAhead_X0_at rfl rfl rfl (by decide +kernel) ⟨Nat.le_of_ble_eq_true rfl, Nat.le_of_ble_eq_true rfl⟩) hK (hP.sub [13] rfl) rfl rfl hl.1 (Nat.le_of_ble_eq_true rfl) dX0_plainByDayAhead_16 ⟨Nat.zero_le _, Nat.zero_le _⟩ ?_
      refine Rd.callS (rest := [.int x1]) ⟨hx, hb, hml, hown, hts⟩ (c_X0_plainOfDay l D cA (g i)) (va_cwS 1 hts gX0_plainByDayAhead_X0_plainOfDay rfl rfl rfl (by decide +kernel) ⟨Nat.le_of_ble_eq_true rfl, Nat.le_of_ble_eq_true rfl⟩) hK noP rfl rfl hl.1 (Nat.le_of_ble_eq_true rfl) dX0_plainByDayAhead_19 ⟨Nat.zero_le _, Nat.zero_le _⟩ ?_
      refine lv_iadd hx hb dX0_plainByDayAhead_22 ?_
      refine lv_istore_n (lv' := [(1, .int (x1 + (if (g i) < 8 then (g i) else 8))), (0, .ref (a 16)), (2, .int (nI i))]) hx hb dX0_plainByDayAhead_23 rfl hl (by decide) rfl (fun ls hl => ?_)
      refine lv_iinc (v := (nI (i + 1))) (lv' := [(2, .int (nI (i + 1))), (1, .int (x1 + (if (g i) < 8 then (g i) else 8))), (0, .ref (a 16))]) hx hb dX0_plainByDayAhead_24 hl (k := 2) rfl (nI_1 i) (by decide) rfl (fun ls hl => ?_)
      refine lv_goto (tgt := 4) hx hb dX0_plainByDayAhead_27 (by decide) ?_
      exact ih_4 (i + 1) _ ls (by omega) (by rw [ps_s, ex1]) (lv_sub hl [2, 1, 0] rfl)
  exact K_4 7 0 _ ls (by omega) (rfl) (lv_sub hl [2, 1, 0] rfl)

set_option maxHeartbeats 4000000 in
set_option maxRecDepth 100000 in
theorem c_X0_shifts (l : Launch) (D : va_G) (cA : ClassId) (a : Nat → Nat) (F : Nat → Nat → Int32) (g : Nat → Int32) : Rd l D cA (wX a cA F g) yX0_shifts wsX0_shifts rmX0_shifts [.ref (a 16)] (F 7 0) := by
  refine Rd.of (cc := cX0_shifts) (maxL := 1) (by decide) rfl (Nat.le_of_ble_eq_true rfl) ?_
  intro p e s m args below meth c ls Q hx hb hts hown hml hK hP hl hend
  have hown : s.vm.findClass RX0 = some m.cls := hown
  have hi : ∀ w ∈ wsX00, w ∈ wsX0_shifts := by decide +kernel
  have hl : lv_has ls 1 [(0, .ref (a 16))] := hl
  refine lv_aload_n hx hb dX0_shifts_0 rfl (lv_at hl 0 rfl) ?_
  refine va_get (D := D) (ci := 0) (v := .int (F 7 0)) (C := RX0) (T := TX0) (N := 16) hx hb hts hi hown hK hP 0 rfl rfl 7 (by decide) (hts (.fieldLink RX0 32 "AssignmentHouse" "shiftCount" "I") (by decide +kernel)) (fun _ h9 => h9) rfl dX0_shifts_1 ?_
  exact hend 4 ls _ dX0_shifts_4 (rfl)


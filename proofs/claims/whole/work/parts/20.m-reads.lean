/-! the reads of the reference, by program (wip/whole/gen) -/
abbrev rmX1_isIn : Room := { frames := 0, cells := 0, slots := 0, locals := 0 }
abbrev rmX1_isWorker : Room := { frames := 1, cells := 0, slots := 0, locals := 22 }
abbrev rmX1_isSite : Room := { frames := 1, cells := 0, slots := 0, locals := 22 }
abbrev rmX1_isWeek : Room := { frames := 1, cells := 0, slots := 0, locals := 22 }
abbrev rmX1_isShift : Room := { frames := 1, cells := 0, slots := 0, locals := 22 }
abbrev rmX1_thrown : Room := { frames := 0, cells := 0, slots := 0, locals := 0 }
abbrev rmX1_hoursOn : Room := { frames := 0, cells := 0, slots := 0, locals := 0 }
abbrev rmX1_earned : Room := { frames := 0, cells := 0, slots := 0, locals := 0 }
abbrev rmX1_over : Room := { frames := 0, cells := 0, slots := 0, locals := 0 }
abbrev rmX1_isWorked : Room := { frames := 0, cells := 0, slots := 0, locals := 0 }
abbrev rmX1_isEqual : Room := { frames := 1, cells := 0, slots := 0, locals := 25 }
abbrev rmX1_payFor : Room := { frames := 2, cells := 0, slots := 0, locals := 52 }
abbrev rmX1_chargeFor : Room := { frames := 3, cells := 0, slots := 0, locals := 76 }
abbrev rmX1_payIn : Room := { frames := 3, cells := 0, slots := 0, locals := 76 }
abbrev rmX1_chargesIn : Room := { frames := 4, cells := 0, slots := 0, locals := 100 }
abbrev rmX1_left : Room := { frames := 1, cells := 0, slots := 0, locals := 23 }
set_option maxHeartbeats 4000000 in
set_option maxRecDepth 100000 in
theorem c_X1_isIn (l : Launch) (D : va_G) (cA : ClassId) (x y z : Int32) : Rd l D cA [] yX1_isIn wsX1_isIn rmX1_isIn [.int x, .int y, .int z] (if cR x y z then 1 else 0) := by
  refine Rd.ofz (cc := cX1_isIn) (maxL := 3) (by decide) rfl (Nat.le_of_ble_eq_true rfl) ?_
  intro p e s m args below meth c ls Q hx hb hts hown hml hK hP hl hend
  have hown : s.vm.findClass RX1 = some m.cls := hown
  have hl : lv_has ls 3 [(0, .int x), (1, .int y), (2, .int z)] := hl
  refine lv_iload_n hx hb dX1_isIn_0 rfl (lv_at hl 0 rfl) ?_
  refine lv_iload_n hx hb dX1_isIn_1 rfl (lv_at hl 1 rfl) ?_
  refine lv_icmp_lt (tgt := 14) hx hb dX1_isIn_2 (by decide) (fun c_2 => ?_) (fun c_2 => ?_)
  · skip
    refine lv_iconst (v := 0) hx hb dX1_isIn_14 (by decide) ?_
    exact hend 15 ls _ dX1_isIn_15 (by rw [if_neg (fun h => h.1 c_2)]) (Or.inl rfl)
  · skip
    refine lv_iload_n hx hb dX1_isIn_5 rfl (lv_at hl 0 rfl) ?_
    refine lv_iload_n hx hb dX1_isIn_6 rfl (lv_at hl 2 rfl) ?_
    refine lv_icmp_gt (tgt := 14) hx hb dX1_isIn_7 (by decide) (fun c_7 => ?_) (fun c_7 => ?_)
    · skip
      refine lv_iconst (v := 0) hx hb dX1_isIn_14 (by decide) ?_
      exact hend 15 ls _ dX1_isIn_15 (by rw [if_neg (fun h => absurd c_7 (Int32.not_lt.mpr h.2))]) (Or.inl rfl)
    · skip
      refine lv_iconst (v := 1) hx hb dX1_isIn_10 (by decide) ?_
      refine lv_goto (tgt := 15) hx hb dX1_isIn_11 (by decide) ?_
      exact hend 15 ls _ dX1_isIn_15 (by rw [if_pos ⟨Int32.not_lt.mpr (Int32.not_lt.mp c_2), Int32.not_lt.mp c_7⟩]) (Or.inr rfl)

set_option maxHeartbeats 4000000 in
set_option maxRecDepth 100000 in
theorem c_X1_isWorker (l : Launch) (D : va_G) (cA : ClassId) (x : Int32) : Rd l D cA [] yX1_isWorker wsX1_isWorker rmX1_isWorker [.int x] (if cI x 6 then 1 else 0) := by
  refine Rd.ofz (cc := cX1_isWorker) (maxL := 1) (by decide) rfl (Nat.le_of_ble_eq_true rfl) ?_
  intro p e s m args below meth c ls Q hx hb hts hown hml hK hP hl hend
  have hown : s.vm.findClass RX1 = some m.cls := hown
  have hl : lv_has ls 1 [(0, .int x)] := hl
  refine lv_iload_n hx hb dX1_isWorker_0 rfl (lv_at hl 0 rfl) ?_
  refine lv_iconst (v := 0) hx hb dX1_isWorker_1 (by decide) ?_
  refine lv_iconst (v := 5) hx hb dX1_isWorker_2 (by decide) ?_
  refine Rd.callS (rest := []) ⟨hx, hb, hml, hown, hts⟩ (c_X1_isIn l D cA x 0 5) (va_cwS 3 hts gX1_isWorker_X1_isIn rfl rfl rfl (by decide +kernel) ⟨Nat.le_of_ble_eq_true rfl, Nat.le_of_ble_eq_true rfl⟩) hK noP rfl rfl hl.1 (Nat.le_of_ble_eq_true rfl) dX1_isWorker_3 ⟨Nat.zero_le _, Nat.zero_le _⟩ ?_
  exact hend 6 ls _ dX1_isWorker_6 (ifc _ _ (cI_cR (n := 5) rfl rfl (by omega))) (by split <;> simp)

set_option maxHeartbeats 4000000 in
set_option maxRecDepth 100000 in
theorem c_X1_isSite (l : Launch) (D : va_G) (cA : ClassId) (x : Int32) : Rd l D cA [] yX1_isSite wsX1_isSite rmX1_isSite [.int x] (if cI x 4 then 1 else 0) := by
  refine Rd.ofz (cc := cX1_isSite) (maxL := 1) (by decide) rfl (Nat.le_of_ble_eq_true rfl) ?_
  intro p e s m args below meth c ls Q hx hb hts hown hml hK hP hl hend
  have hown : s.vm.findClass RX1 = some m.cls := hown
  have hl : lv_has ls 1 [(0, .int x)] := hl
  refine lv_iload_n hx hb dX1_isSite_0 rfl (lv_at hl 0 rfl) ?_
  refine lv_iconst (v := 0) hx hb dX1_isSite_1 (by decide) ?_
  refine lv_iconst (v := 3) hx hb dX1_isSite_2 (by decide) ?_
  refine Rd.callS (rest := []) ⟨hx, hb, hml, hown, hts⟩ (c_X1_isIn l D cA x 0 3) (va_cwS 3 hts gX1_isSite_X1_isIn rfl rfl rfl (by decide +kernel) ⟨Nat.le_of_ble_eq_true rfl, Nat.le_of_ble_eq_true rfl⟩) hK noP rfl rfl hl.1 (Nat.le_of_ble_eq_true rfl) dX1_isSite_3 ⟨Nat.zero_le _, Nat.zero_le _⟩ ?_
  exact hend 6 ls _ dX1_isSite_6 (ifc _ _ (cI_cR (n := 3) rfl rfl (by omega))) (by split <;> simp)

set_option maxHeartbeats 4000000 in
set_option maxRecDepth 100000 in
theorem c_X1_isWeek (l : Launch) (D : va_G) (cA : ClassId) (x : Int32) : Rd l D cA [] yX1_isWeek wsX1_isWeek rmX1_isWeek [.int x] (if cI x 20 then 1 else 0) := by
  refine Rd.ofz (cc := cX1_isWeek) (maxL := 1) (by decide) rfl (Nat.le_of_ble_eq_true rfl) ?_
  intro p e s m args below meth c ls Q hx hb hts hown hml hK hP hl hend
  have hown : s.vm.findClass RX1 = some m.cls := hown
  have hl : lv_has ls 1 [(0, .int x)] := hl
  refine lv_iload_n hx hb dX1_isWeek_0 rfl (lv_at hl 0 rfl) ?_
  refine lv_iconst (v := 0) hx hb dX1_isWeek_1 (by decide) ?_
  refine lv_bipush (v := 19) hx hb dX1_isWeek_2 (by decide) ?_
  refine Rd.callS (rest := []) ⟨hx, hb, hml, hown, hts⟩ (c_X1_isIn l D cA x 0 19) (va_cwS 3 hts gX1_isWeek_X1_isIn rfl rfl rfl (by decide +kernel) ⟨Nat.le_of_ble_eq_true rfl, Nat.le_of_ble_eq_true rfl⟩) hK noP rfl rfl hl.1 (Nat.le_of_ble_eq_true rfl) dX1_isWeek_4 ⟨Nat.zero_le _, Nat.zero_le _⟩ ?_
  exact hend 7 ls _ dX1_isWeek_7 (ifc _ _ (cI_cR (n := 19) rfl rfl (by omega))) (by split <;> simp)

set_option maxHeartbeats 4000000 in
set_option maxRecDepth 100000 in
theorem c_X1_isShift (l : Launch) (D : va_G) (cA : ClassId) (a : Nat → Nat) (F : Nat → Nat → Int32) (th : Int32) (N : Nat) (hW : wf F N) (x : Int32) : Rd l D cA (wM a cA F th) yX1_isShift wsX1_isShift rmX1_isShift [.ref (a 16), .int x] (if cI x (F 7 0) then 1 else 0) := by
  refine Rd.ofz (cc := cX1_isShift) (maxL := 2) (by decide) rfl (Nat.le_of_ble_eq_true rfl) ?_
  intro p e s m args below meth c ls Q hx hb hts hown hml hK hP hl hend
  have hown : s.vm.findClass RX1 = some m.cls := hown
  have hi : ∀ w ∈ wsX10, w ∈ wsX1_isShift := by decide +kernel
  have hl : lv_has ls 2 [(0, .ref (a 16)), (1, .int x)] := hl
  have hN : N ≤ 80 := hW.n
  have hc : F 7 0 = nI N := hW.c
  refine lv_iload_n hx hb dX1_isShift_0 rfl (lv_at hl 1 rfl) ?_
  refine lv_iconst (v := 0) hx hb dX1_isShift_1 (by decide) ?_
  refine lv_aload_n hx hb dX1_isShift_2 rfl (lv_at hl 0 rfl) ?_
  refine va_get (D := D) (ci := 1) (v := .int (F 7 0)) (C := RX1) (T := TX1) (N := 16) hx hb hts hi hown hK hP 0 rfl rfl 7 (by decide) (hts (.fieldLink RX1 60 "AssignmentHouseModel" "shifts" "I") (by decide +kernel)) (fun _ h9 => h9) rfl dX1_isShift_3 ?_
  refine lv_iconst (v := 1) hx hb dX1_isShift_6 (by decide) ?_
  refine lv_isub hx hb dX1_isShift_7 ?_
  refine Rd.callS (rest := []) ⟨hx, hb, hml, hown, hts⟩ (c_X1_isIn l D cA x 0 ((F 7 0) - 1)) (va_cwS 3 hts gX1_isShift_X1_isIn rfl rfl rfl (by decide +kernel) ⟨Nat.le_of_ble_eq_true rfl, Nat.le_of_ble_eq_true rfl⟩) hK noP rfl rfl hl.1 (Nat.le_of_ble_eq_true rfl) dX1_isShift_8 ⟨Nat.zero_le _, Nat.zero_le _⟩ ?_
  exact hend 11 ls _ dX1_isShift_11 (ifc _ _ (cI_cR0 hc hN)) (by split <;> simp)

set_option maxHeartbeats 4000000 in
set_option maxRecDepth 100000 in
theorem c_X1_thrown (l : Launch) (D : va_G) (cA : ClassId) (a : Nat → Nat) (F : Nat → Nat → Int32) (th : Int32) : Rd l D cA (wM a cA F th) yX1_thrown wsX1_thrown rmX1_thrown [.ref (a 16)] th := by
  refine Rd.of (cc := cX1_thrown) (maxL := 1) (by decide) rfl (Nat.le_of_ble_eq_true rfl) ?_
  intro p e s m args below meth c ls Q hx hb hts hown hml hK hP hl hend
  have hown : s.vm.findClass RX1 = some m.cls := hown
  have hi : ∀ w ∈ wsX10, w ∈ wsX1_thrown := by decide +kernel
  have hl : lv_has ls 1 [(0, .ref (a 16))] := hl
  refine lv_aload_n hx hb dX1_thrown_0 rfl (lv_at hl 0 rfl) ?_
  refine va_get (D := D) (ci := 1) (v := .int th) (C := RX1) (T := TX1) (N := 16) hx hb hts hi hown hK hP 0 rfl rfl 15 (by decide) (hts (.fieldLink RX1 53 "AssignmentHouseModel" "thrown" "I") (by decide +kernel)) (fun _ h9 => h9) rfl dX1_thrown_1 ?_
  exact hend 4 ls _ dX1_thrown_4 (rfl)

set_option maxHeartbeats 4000000 in
set_option maxRecDepth 100000 in
theorem c_X1_hoursOn (l : Launch) (D : va_G) (cA : ClassId) (a : Nat → Nat) (F : Nat → Nat → Int32) (th : Int32) (N : Nat) (hW : wf F N) (w d : Int32) : Rd l D cA (wM a cA F th) yX1_hoursOn wsX1_hoursOn rmX1_hoursOn [.ref (a 16), .int w, .int d] (ps (tOn F w d) N) := by
  refine Rd.of (cc := cX1_hoursOn) (maxL := 5) (by decide) rfl (Nat.le_of_ble_eq_true rfl) ?_
  intro p e s m args below meth c ls Q hx hb hts hown hml hK hP hl hend
  have hown : s.vm.findClass RX1 = some m.cls := hown
  have hi : ∀ w ∈ wsX10, w ∈ wsX1_hoursOn := by decide +kernel
  have hl : lv_has ls 5 [(0, .ref (a 16)), (1, .int w), (2, .int d)] := hl
  have hN : N ≤ 80 := hW.n
  have hc : F 7 0 = nI N := hW.c
  refine lv_iconst (v := 0) hx hb dX1_hoursOn_0 (by decide) ?_
  refine lv_istore_n (lv' := [(3, .int 0), (0, .ref (a 16)), (1, .int w), (2, .int d)]) hx hb dX1_hoursOn_1 rfl hl (by decide) rfl (fun ls hl => ?_)
  refine lv_iconst (v := 0) hx hb dX1_hoursOn_2 (by decide) ?_
  refine lv_istore (lv' := [(4, .int 0), (3, .int 0), (0, .ref (a 16)), (1, .int w), (2, .int d)]) hx hb dX1_hoursOn_3 hl (by decide) rfl (fun ls hl => ?_)
  have K_5 : ∀ (n i : Nat) (x3 : Int32) (ls : Array Slot), i + n = N → x3 = ps (tOn F w d) i → lv_has ls 5 [(0, .ref (a 16)), (1, .int w), (2, .int d), (3, .int x3), (4, .int (nI i))] → W p l e rmX1_hoursOn s m args below meth c s.heap [] 0 0 Q (F0 m 5 ls []) := by
    intro n
    induction n with
    | zero =>
      intro i x3 ls hin_5 ex3 hl
      have hiN : i = N := by omega
      refine lv_iload hx hb dX1_hoursOn_5 (lv_at hl 4 rfl) ?_
      refine lv_aload_n hx hb dX1_hoursOn_7 rfl (lv_at hl 0 rfl) ?_
      refine va_get (D := D) (ci := 1) (v := .int (F 7 0)) (C := RX1) (T := TX1) (N := 16) hx hb hts hi hown hK hP 0 rfl rfl 7 (by decide) (hts (.fieldLink RX1 60 "AssignmentHouseModel" "shifts" "I") (by decide +kernel)) (fun _ h9 => h9) rfl dX1_hoursOn_8 ?_
      refine lv_icmp_ge (tgt := 56) hx hb dX1_hoursOn_11 (by decide) (fun c_11 => ?_) (fun c_11 => (absurd (((br_ge hc (by omega) (by omega : i ≤ N)).mpr hiN)) c_11 : False).elim)
      refine lv_iload_n hx hb dX1_hoursOn_56 rfl (lv_at hl 3 rfl) ?_
      exact hend 57 ls _ dX1_hoursOn_57 (by rw [ex3, hiN])
    | succ n ih_5 =>
      intro i x3 ls hin_5 ex3 hl
      have hiN : i < N := by omega
      refine lv_iload hx hb dX1_hoursOn_5 (lv_at hl 4 rfl) ?_
      refine lv_aload_n hx hb dX1_hoursOn_7 rfl (lv_at hl 0 rfl) ?_
      refine va_get (D := D) (ci := 1) (v := .int (F 7 0)) (C := RX1) (T := TX1) (N := 16) hx hb hts hi hown hK hP 0 rfl rfl 7 (by decide) (hts (.fieldLink RX1 60 "AssignmentHouseModel" "shifts" "I") (by decide +kernel)) (fun _ h9 => h9) rfl dX1_hoursOn_8 ?_
      refine lv_icmp_ge (tgt := 56) hx hb dX1_hoursOn_11 (by decide) (fun c_11 => (absurd (((br_ge hc (by omega) (by omega : i ≤ N)).mp c_11)) (by omega) : False).elim) (fun c_11 => ?_)
      refine lv_iload_n hx hb dX1_hoursOn_14 rfl (lv_at hl 3 rfl) ?_
      refine lv_aload_n hx hb dX1_hoursOn_15 rfl (lv_at hl 0 rfl) ?_
      refine va_get (D := D) (ci := 1) (v := .ref (a 8)) (C := RX1) (T := TX1) (N := 16) hx hb hts hi hown hK hP 0 rfl rfl 8 (by decide) (hts (.fieldLink RX1 32 "AssignmentHouseModel" "workers" "[I") (by decide +kernel)) (fun _ h9 => h9) rfl dX1_hoursOn_16 ?_
      refine lv_iload hx hb dX1_hoursOn_19 (lv_at hl 4 rfl) ?_
      refine ri_ald (j := i) hx hb hK hP 6 rfl (rfl) (by omega) (by decide) dX1_hoursOn_21 ?_
      refine lv_iload_n hx hb dX1_hoursOn_22 rfl (lv_at hl 1 rfl) ?_
      refine lv_icmp_ne (tgt := 47) hx hb dX1_hoursOn_23 (by decide) (fun c_23 => ?_) (fun c_23 => ?_)
      · skip
        refine lv_iconst (v := 0) hx hb dX1_hoursOn_47 (by decide) ?_
        refine lv_iadd hx hb dX1_hoursOn_48 ?_
        refine lv_istore_n (lv' := [(3, .int (x3 + 0)), (0, .ref (a 16)), (1, .int w), (2, .int d), (4, .int (nI i))]) hx hb dX1_hoursOn_49 rfl hl (by decide) rfl (fun ls hl => ?_)
        refine lv_iinc (v := (nI (i + 1))) (lv' := [(4, .int (nI (i + 1))), (3, .int (x3 + 0)), (0, .ref (a 16)), (1, .int w), (2, .int d)]) hx hb dX1_hoursOn_50 hl (k := 4) rfl (nI_1 i) (by decide) rfl (fun ls hl => ?_)
        refine lv_goto (tgt := 5) hx hb dX1_hoursOn_53 (by decide) ?_
        exact ih_5 (i + 1) _ ls (by omega) (by rw [ps_s, ex3]; unfold tOn; rw [if_neg (fun h => c_23 h.1)]) (lv_sub hl [2, 3, 4, 1, 0] rfl)
      · skip
        refine lv_aload_n hx hb dX1_hoursOn_26 rfl (lv_at hl 0 rfl) ?_
        refine va_get (D := D) (ci := 1) (v := .ref (a 10)) (C := RX1) (T := TX1) (N := 16) hx hb hts hi hown hK hP 0 rfl rfl 10 (by decide) (hts (.fieldLink RX1 38 "AssignmentHouseModel" "days" "[I") (by decide +kernel)) (fun _ h9 => h9) rfl dX1_hoursOn_27 ?_
        refine lv_iload hx hb dX1_hoursOn_30 (lv_at hl 4 rfl) ?_
        refine ri_ald (j := i) hx hb hK hP 8 rfl (rfl) (by omega) (by decide) dX1_hoursOn_32 ?_
        refine lv_iload_n hx hb dX1_hoursOn_33 rfl (lv_at hl 2 rfl) ?_
        refine lv_icmp_ne (tgt := 47) hx hb dX1_hoursOn_34 (by decide) (fun c_34 => ?_) (fun c_34 => ?_)
        · skip
          refine lv_iconst (v := 0) hx hb dX1_hoursOn_47 (by decide) ?_
          refine lv_iadd hx hb dX1_hoursOn_48 ?_
          refine lv_istore_n (lv' := [(3, .int (x3 + 0)), (0, .ref (a 16)), (1, .int w), (2, .int d), (4, .int (nI i))]) hx hb dX1_hoursOn_49 rfl hl (by decide) rfl (fun ls hl => ?_)
          refine lv_iinc (v := (nI (i + 1))) (lv' := [(4, .int (nI (i + 1))), (3, .int (x3 + 0)), (0, .ref (a 16)), (1, .int w), (2, .int d)]) hx hb dX1_hoursOn_50 hl (k := 4) rfl (nI_1 i) (by decide) rfl (fun ls hl => ?_)
          refine lv_goto (tgt := 5) hx hb dX1_hoursOn_53 (by decide) ?_
          exact ih_5 (i + 1) _ ls (by omega) (by rw [ps_s, ex3]; unfold tOn; rw [if_neg (fun h => c_34 h.2)]) (lv_sub hl [2, 3, 4, 1, 0] rfl)
        · skip
          refine lv_aload_n hx hb dX1_hoursOn_37 rfl (lv_at hl 0 rfl) ?_
          refine va_get (D := D) (ci := 1) (v := .ref (a 11)) (C := RX1) (T := TX1) (N := 16) hx hb hts hi hown hK hP 0 rfl rfl 11 (by decide) (hts (.fieldLink RX1 41 "AssignmentHouseModel" "hours" "[I") (by decide +kernel)) (fun _ h9 => h9) rfl dX1_hoursOn_38 ?_
          refine lv_iload hx hb dX1_hoursOn_41 (lv_at hl 4 rfl) ?_
          refine ri_ald (j := i) hx hb hK hP 9 rfl (rfl) (by omega) (by decide) dX1_hoursOn_43 ?_
          refine lv_goto (tgt := 48) hx hb dX1_hoursOn_44 (by decide) ?_
          refine lv_iadd hx hb dX1_hoursOn_48 ?_
          refine lv_istore_n (lv' := [(3, .int (x3 + (F 11 i))), (0, .ref (a 16)), (1, .int w), (2, .int d), (4, .int (nI i))]) hx hb dX1_hoursOn_49 rfl hl (by decide) rfl (fun ls hl => ?_)
          refine lv_iinc (v := (nI (i + 1))) (lv' := [(4, .int (nI (i + 1))), (3, .int (x3 + (F 11 i))), (0, .ref (a 16)), (1, .int w), (2, .int d)]) hx hb dX1_hoursOn_50 hl (k := 4) rfl (nI_1 i) (by decide) rfl (fun ls hl => ?_)
          refine lv_goto (tgt := 5) hx hb dX1_hoursOn_53 (by decide) ?_
          exact ih_5 (i + 1) _ ls (by omega) (by rw [ps_s, ex3]; unfold tOn; rw [if_pos ⟨c_23, c_34⟩]) (lv_sub hl [2, 3, 4, 1, 0] rfl)
  exact K_5 N 0 _ ls (by omega) (rfl) (lv_sub hl [2, 3, 4, 1, 0] rfl)

set_option maxHeartbeats 4000000 in
set_option maxRecDepth 100000 in
theorem c_X1_earned (l : Launch) (D : va_G) (cA : ClassId) (a : Nat → Nat) (F : Nat → Nat → Int32) (th : Int32) (N : Nat) (hW : wf F N) (w : Int32) : Rd l D cA (wM a cA F th) yX1_earned wsX1_earned rmX1_earned [.ref (a 16), .int w] (7 * ps (tHr F w) N) := by
  refine Rd.of (cc := cX1_earned) (maxL := 4) (by decide) rfl (Nat.le_of_ble_eq_true rfl) ?_
  intro p e s m args below meth c ls Q hx hb hts hown hml hK hP hl hend
  have hown : s.vm.findClass RX1 = some m.cls := hown
  have hi : ∀ w ∈ wsX10, w ∈ wsX1_earned := by decide +kernel
  have hl : lv_has ls 4 [(0, .ref (a 16)), (1, .int w)] := hl
  have hN : N ≤ 80 := hW.n
  have hc : F 7 0 = nI N := hW.c
  refine lv_iconst (v := 0) hx hb dX1_earned_0 (by decide) ?_
  refine lv_istore_n (lv' := [(2, .int 0), (0, .ref (a 16)), (1, .int w)]) hx hb dX1_earned_1 rfl hl (by decide) rfl (fun ls hl => ?_)
  refine lv_iconst (v := 0) hx hb dX1_earned_2 (by decide) ?_
  refine lv_istore_n (lv' := [(3, .int 0), (2, .int 0), (0, .ref (a 16)), (1, .int w)]) hx hb dX1_earned_3 rfl hl (by decide) rfl (fun ls hl => ?_)
  have K_4 : ∀ (n i : Nat) (x2 : Int32) (ls : Array Slot), i + n = N → x2 = ps (tEr F w) i → lv_has ls 4 [(0, .ref (a 16)), (1, .int w), (2, .int x2), (3, .int (nI i))] → W p l e rmX1_earned s m args below meth c s.heap [] 0 0 Q (F0 m 4 ls []) := by
    intro n
    induction n with
    | zero =>
      intro i x2 ls hin_4 ex2 hl
      have hiN : i = N := by omega
      refine lv_iload_n hx hb dX1_earned_4 rfl (lv_at hl 3 rfl) ?_
      refine lv_aload_n hx hb dX1_earned_5 rfl (lv_at hl 0 rfl) ?_
      refine va_get (D := D) (ci := 1) (v := .int (F 7 0)) (C := RX1) (T := TX1) (N := 16) hx hb hts hi hown hK hP 0 rfl rfl 7 (by decide) (hts (.fieldLink RX1 60 "AssignmentHouseModel" "shifts" "I") (by decide +kernel)) (fun _ h9 => h9) rfl dX1_earned_6 ?_
      refine lv_icmp_ge (tgt := 44) hx hb dX1_earned_9 (by decide) (fun c_9 => ?_) (fun c_9 => (absurd (((br_ge hc (by omega) (by omega : i ≤ N)).mpr hiN)) c_9 : False).elim)
      refine lv_iload_n hx hb dX1_earned_44 rfl (lv_at hl 2 rfl) ?_
      exact hend 45 ls _ dX1_earned_45 (by rw [ex2, hiN, er_eq])
    | succ n ih_4 =>
      intro i x2 ls hin_4 ex2 hl
      have hiN : i < N := by omega
      refine lv_iload_n hx hb dX1_earned_4 rfl (lv_at hl 3 rfl) ?_
      refine lv_aload_n hx hb dX1_earned_5 rfl (lv_at hl 0 rfl) ?_
      refine va_get (D := D) (ci := 1) (v := .int (F 7 0)) (C := RX1) (T := TX1) (N := 16) hx hb hts hi hown hK hP 0 rfl rfl 7 (by decide) (hts (.fieldLink RX1 60 "AssignmentHouseModel" "shifts" "I") (by decide +kernel)) (fun _ h9 => h9) rfl dX1_earned_6 ?_
      refine lv_icmp_ge (tgt := 44) hx hb dX1_earned_9 (by decide) (fun c_9 => (absurd (((br_ge hc (by omega) (by omega : i ≤ N)).mp c_9)) (by omega) : False).elim) (fun c_9 => ?_)
      refine lv_iload_n hx hb dX1_earned_12 rfl (lv_at hl 2 rfl) ?_
      refine lv_aload_n hx hb dX1_earned_13 rfl (lv_at hl 0 rfl) ?_
      refine va_get (D := D) (ci := 1) (v := .ref (a 8)) (C := RX1) (T := TX1) (N := 16) hx hb hts hi hown hK hP 0 rfl rfl 8 (by decide) (hts (.fieldLink RX1 32 "AssignmentHouseModel" "workers" "[I") (by decide +kernel)) (fun _ h9 => h9) rfl dX1_earned_14 ?_
      refine lv_iload_n hx hb dX1_earned_17 rfl (lv_at hl 3 rfl) ?_
      refine ri_ald (j := i) hx hb hK hP 6 rfl (rfl) (by omega) (by decide) dX1_earned_18 ?_
      refine lv_iload_n hx hb dX1_earned_19 rfl (lv_at hl 1 rfl) ?_
      refine lv_icmp_ne (tgt := 35) hx hb dX1_earned_20 (by decide) (fun c_20 => ?_) (fun c_20 => ?_)
      · skip
        refine lv_iconst (v := 0) hx hb dX1_earned_35 (by decide) ?_
        refine lv_iadd hx hb dX1_earned_36 ?_
        refine lv_istore_n (lv' := [(2, .int (x2 + 0)), (0, .ref (a 16)), (1, .int w), (3, .int (nI i))]) hx hb dX1_earned_37 rfl hl (by decide) rfl (fun ls hl => ?_)
        refine lv_iinc (v := (nI (i + 1))) (lv' := [(3, .int (nI (i + 1))), (2, .int (x2 + 0)), (0, .ref (a 16)), (1, .int w)]) hx hb dX1_earned_38 hl (k := 3) rfl (nI_1 i) (by decide) rfl (fun ls hl => ?_)
        refine lv_goto (tgt := 4) hx hb dX1_earned_41 (by decide) ?_
        exact ih_4 (i + 1) _ ls (by omega) (by rw [ps_s, ex2]; unfold tEr; rw [if_neg c_20]) (lv_sub hl [2, 3, 1, 0] rfl)
      · skip
        refine lv_bipush (v := 7) hx hb dX1_earned_23 (by decide) ?_
        refine lv_aload_n hx hb dX1_earned_25 rfl (lv_at hl 0 rfl) ?_
        refine va_get (D := D) (ci := 1) (v := .ref (a 11)) (C := RX1) (T := TX1) (N := 16) hx hb hts hi hown hK hP 0 rfl rfl 11 (by decide) (hts (.fieldLink RX1 41 "AssignmentHouseModel" "hours" "[I") (by decide +kernel)) (fun _ h9 => h9) rfl dX1_earned_26 ?_
        refine lv_iload_n hx hb dX1_earned_29 rfl (lv_at hl 3 rfl) ?_
        refine ri_ald (j := i) hx hb hK hP 9 rfl (rfl) (by omega) (by decide) dX1_earned_30 ?_
        refine lv_imul hx hb dX1_earned_31 ?_
        refine lv_goto (tgt := 36) hx hb dX1_earned_32 (by decide) ?_
        refine lv_iadd hx hb dX1_earned_36 ?_
        refine lv_istore_n (lv' := [(2, .int (x2 + (7 * (F 11 i)))), (0, .ref (a 16)), (1, .int w), (3, .int (nI i))]) hx hb dX1_earned_37 rfl hl (by decide) rfl (fun ls hl => ?_)
        refine lv_iinc (v := (nI (i + 1))) (lv' := [(3, .int (nI (i + 1))), (2, .int (x2 + (7 * (F 11 i)))), (0, .ref (a 16)), (1, .int w)]) hx hb dX1_earned_38 hl (k := 3) rfl (nI_1 i) (by decide) rfl (fun ls hl => ?_)
        refine lv_goto (tgt := 4) hx hb dX1_earned_41 (by decide) ?_
        exact ih_4 (i + 1) _ ls (by omega) (by rw [ps_s, ex2]; unfold tEr; rw [if_pos c_20]) (lv_sub hl [2, 3, 1, 0] rfl)
  exact K_4 N 0 _ ls (by omega) (rfl) (lv_sub hl [2, 3, 1, 0] rfl)

set_option maxHeartbeats 4000000 in
set_option maxRecDepth 100000 in
theorem c_X1_over (l : Launch) (D : va_G) (cA : ClassId) (a : Nat → Nat) (F : Nat → Nat → Int32) (th : Int32) (N : Nat) (hW : wf F N) (x : Int32) (one : Nat) (ei : x = nI one) (ho : one < N) : Rd l D cA (wM a cA F th) yX1_over wsX1_over rmX1_over [.ref (a 16), .int x] (sOv F N one) := by
  subst ei
  refine Rd.of (cc := cX1_over) (maxL := 12) (by decide) rfl (Nat.le_of_ble_eq_true rfl) ?_
  intro p e s m args below meth c ls Q hx hb hts hown hml hK hP hl hend
  have hown : s.vm.findClass RX1 = some m.cls := hown
  have hi : ∀ w ∈ wsX10, w ∈ wsX1_over := by decide +kernel
  have hl : lv_has ls 12 [(0, .ref (a 16)), (1, .int (nI one))] := hl
  have hN : N ≤ 80 := hW.n
  have hc : F 7 0 = nI N := hW.c
  have hdo := hW.day ho
  have hwo := hW.week ho
  have h70 : 7 * (F 10 one / 7) = nI ((7 * (dayN F one / 7)) + 0) := by rw [hwo]; exact pk_mul 7 _
  refine lv_aload_n hx hb dX1_over_0 rfl (lv_at hl 0 rfl) ?_
  refine va_get (D := D) (ci := 1) (v := .ref (a 10)) (C := RX1) (T := TX1) (N := 16) hx hb hts hi hown hK hP 0 rfl rfl 10 (by decide) (hts (.fieldLink RX1 38 "AssignmentHouseModel" "days" "[I") (by decide +kernel)) (fun _ h9 => h9) rfl dX1_over_1 ?_
  refine lv_iload_n hx hb dX1_over_4 rfl (lv_at hl 1 rfl) ?_
  refine ri_ald (j := one) hx hb hK hP 8 rfl (rfl) (by omega) (by decide) dX1_over_5 ?_
  refine lv_bipush (v := 7) hx hb dX1_over_6 (by decide) ?_
  refine lv_idiv hx hb dX1_over_8 (by decide) ?_
  refine lv_istore_n (lv' := [(2, .int ((F 10 one) / 7)), (0, .ref (a 16)), (1, .int (nI one))]) hx hb dX1_over_9 rfl hl (by decide) rfl (fun ls hl => ?_)
  refine lv_iconst (v := 0) hx hb dX1_over_10 (by decide) ?_
  refine lv_istore_n (lv' := [(3, .int 0), (2, .int ((F 10 one) / 7)), (0, .ref (a 16)), (1, .int (nI one))]) hx hb dX1_over_11 rfl hl (by decide) rfl (fun ls hl => ?_)
  refine lv_iconst (v := 0) hx hb dX1_over_12 (by decide) ?_
  refine lv_istore (lv' := [(4, .int 0), (3, .int 0), (2, .int ((F 10 one) / 7)), (0, .ref (a 16)), (1, .int (nI one))]) hx hb dX1_over_13 hl (by decide) rfl (fun ls hl => ?_)
  refine lv_bipush (v := 7) hx hb dX1_over_15 (by decide) ?_
  refine lv_iload_n hx hb dX1_over_17 rfl (lv_at hl 2 rfl) ?_
  refine lv_imul hx hb dX1_over_18 ?_
  rw [h70]
  refine lv_istore (lv' := [(5, .int (nI ((7 * (dayN F one / 7)) + 0))), (4, .int 0), (3, .int 0), (2, .int ((F 10 one) / 7)), (0, .ref (a 16)), (1, .int (nI one))]) hx hb dX1_over_19 hl (by decide) rfl (fun ls hl => ?_)
  have K_21 : ∀ (n i : Nat) (x3 : Int32) (x4 : Int32) (ls : Array Slot), i + n = (dayN F one % 7 + 1) → x3 = (ovWk F N one (7 * (dayN F one / 7)) i).1 → x4 = (ovWk F N one (7 * (dayN F one / 7)) i).2 → lv_has ls 12 [(0, .ref (a 16)), (1, .int (nI one)), (2, .int ((F 10 one) / 7)), (3, .int x3), (4, .int x4), (5, .int (nI ((7 * (dayN F one / 7)) + i)))] → W p l e rmX1_over s m args below meth c s.heap [] 0 0 Q (F0 m 21 ls []) := by
    intro n
    induction n with
    | zero =>
      intro i x3 x4 ls hin_21 ex3 ex4 hl
      have hiN : i = (dayN F one % 7 + 1) := by omega
      refine lv_iload hx hb dX1_over_21 (lv_at hl 5 rfl) ?_
      refine lv_aload_n hx hb dX1_over_23 rfl (lv_at hl 0 rfl) ?_
      refine va_get (D := D) (ci := 1) (v := .ref (a 10)) (C := RX1) (T := TX1) (N := 16) hx hb hts hi hown hK hP 0 rfl rfl 10 (by decide) (hts (.fieldLink RX1 38 "AssignmentHouseModel" "days" "[I") (by decide +kernel)) (fun _ h9 => h9) rfl dX1_over_24 ?_
      refine lv_iload_n hx hb dX1_over_27 rfl (lv_at hl 1 rfl) ?_
      refine ri_ald (j := one) hx hb hK hP 8 rfl (rfl) (by omega) (by decide) dX1_over_28 ?_
      refine lv_icmp_gt (tgt := 199) hx hb dX1_over_29 (by decide) (fun c_29 => ?_) (fun c_29 => (absurd (((br_gt hdo.2 hdo.1 (by omega)).mpr hiN)) c_29 : False).elim)
      refine lv_iload hx hb dX1_over_199 (lv_at hl 4 rfl) ?_
      exact hend 201 ls _ dX1_over_201 (by rw [ex4, hiN]; rfl)
    | succ n ih_21 =>
      intro i x3 x4 ls hin_21 ex3 ex4 hl
      have hiN : i < (dayN F one % 7 + 1) := by omega
      refine lv_iload hx hb dX1_over_21 (lv_at hl 5 rfl) ?_
      refine lv_aload_n hx hb dX1_over_23 rfl (lv_at hl 0 rfl) ?_
      refine va_get (D := D) (ci := 1) (v := .ref (a 10)) (C := RX1) (T := TX1) (N := 16) hx hb hts hi hown hK hP 0 rfl rfl 10 (by decide) (hts (.fieldLink RX1 38 "AssignmentHouseModel" "days" "[I") (by decide +kernel)) (fun _ h9 => h9) rfl dX1_over_24 ?_
      refine lv_iload_n hx hb dX1_over_27 rfl (lv_at hl 1 rfl) ?_
      refine ri_ald (j := one) hx hb hK hP 8 rfl (rfl) (by omega) (by decide) dX1_over_28 ?_
      refine lv_icmp_gt (tgt := 199) hx hb dX1_over_29 (by decide) (fun c_29 => (absurd (((br_gt hdo.2 hdo.1 (by omega)).mp c_29)) (by omega) : False).elim) (fun c_29 => ?_)
      refine lv_iconst (v := 0) hx hb dX1_over_32 (by decide) ?_
      refine lv_istore (lv' := [(6, .int 0), (0, .ref (a 16)), (1, .int (nI one)), (2, .int ((F 10 one) / 7)), (3, .int x3), (4, .int x4), (5, .int (nI ((7 * (dayN F one / 7)) + i)))]) hx hb dX1_over_33 hl (by decide) rfl (fun ls hl => ?_)
      refine lv_iconst (v := 0) hx hb dX1_over_35 (by decide) ?_
      refine lv_istore (lv' := [(7, .int 0), (6, .int 0), (0, .ref (a 16)), (1, .int (nI one)), (2, .int ((F 10 one) / 7)), (3, .int x3), (4, .int x4), (5, .int (nI ((7 * (dayN F one / 7)) + i)))]) hx hb dX1_over_36 hl (by decide) rfl (fun ls hl => ?_)
      have K_38 : ∀ (n2 q : Nat) (y3 : Int32) (y4 : Int32) (y6 : Int32) (ls : Array Slot), q + n2 = N → y3 = (ovDay F one (nI ((7 * (dayN F one / 7)) + i)) ((ovWk F N one (7 * (dayN F one / 7)) i).1, 0, (ovWk F N one (7 * (dayN F one / 7)) i).2) q).1 → y4 = (ovDay F one (nI ((7 * (dayN F one / 7)) + i)) ((ovWk F N one (7 * (dayN F one / 7)) i).1, 0, (ovWk F N one (7 * (dayN F one / 7)) i).2) q).2.2 → y6 = (ovDay F one (nI ((7 * (dayN F one / 7)) + i)) ((ovWk F N one (7 * (dayN F one / 7)) i).1, 0, (ovWk F N one (7 * (dayN F one / 7)) i).2) q).2.1 → lv_has ls 12 [(0, .ref (a 16)), (1, .int (nI one)), (2, .int ((F 10 one) / 7)), (3, .int y3), (4, .int y4), (5, .int (nI ((7 * (dayN F one / 7)) + i))), (6, .int y6), (7, .int (nI q))] → W p l e rmX1_over s m args below meth c s.heap [] 0 0 Q (F0 m 38 ls []) := by
        intro n2
        induction n2 with
        | zero =>
          intro q y3 y4 y6 ls hin_38 ey3 ey4 ey6 hl
          have hqN : q = N := by omega
          refine lv_iload hx hb dX1_over_38 (lv_at hl 7 rfl) ?_
          refine lv_aload_n hx hb dX1_over_40 rfl (lv_at hl 0 rfl) ?_
          refine va_get (D := D) (ci := 1) (v := .int (F 7 0)) (C := RX1) (T := TX1) (N := 16) hx hb hts hi hown hK hP 0 rfl rfl 7 (by decide) (hts (.fieldLink RX1 60 "AssignmentHouseModel" "shifts" "I") (by decide +kernel)) (fun _ h9 => h9) rfl dX1_over_41 ?_
          refine lv_icmp_ge (tgt := 193) hx hb dX1_over_44 (by decide) (fun c_44 => ?_) (fun c_44 => (absurd (((br_ge hc (by omega) (by omega : q ≤ N)).mpr hqN)) c_44 : False).elim)
          refine lv_iinc (v := (nI ((7 * (dayN F one / 7)) + (i + 1)))) (lv' := [(5, .int (nI ((7 * (dayN F one / 7)) + (i + 1)))), (0, .ref (a 16)), (1, .int (nI one)), (2, .int ((F 10 one) / 7)), (3, .int y3), (4, .int y4), (6, .int y6), (7, .int (nI q))]) hx hb dX1_over_193 hl (k := 5) rfl (nI_1 _) (by decide) rfl (fun ls hl => ?_)
          refine lv_goto (tgt := 21) hx hb dX1_over_196 (by decide) ?_
          exact ih_21 (i + 1) _ _ ls (by omega) (by rw [ey3, hqN]; rfl) (by rw [ey4, hqN]; rfl) (lv_sub hl [1, 2, 3, 4, 5, 0] rfl)
        | succ n2 ih_38 =>
          intro q y3 y4 y6 ls hin_38 ey3 ey4 ey6 hl
          have hqN : q < N := by omega
          refine lv_iload hx hb dX1_over_38 (lv_at hl 7 rfl) ?_
          refine lv_aload_n hx hb dX1_over_40 rfl (lv_at hl 0 rfl) ?_
          refine va_get (D := D) (ci := 1) (v := .int (F 7 0)) (C := RX1) (T := TX1) (N := 16) hx hb hts hi hown hK hP 0 rfl rfl 7 (by decide) (hts (.fieldLink RX1 60 "AssignmentHouseModel" "shifts" "I") (by decide +kernel)) (fun _ h9 => h9) rfl dX1_over_41 ?_
          refine lv_icmp_ge (tgt := 193) hx hb dX1_over_44 (by decide) (fun c_44 => (absurd (((br_ge hc (by omega) (by omega : q ≤ N)).mp c_44)) (by omega) : False).elim) (fun c_44 => ?_)
          refine lv_aload_n hx hb dX1_over_47 rfl (lv_at hl 0 rfl) ?_
          refine va_get (D := D) (ci := 1) (v := .ref (a 8)) (C := RX1) (T := TX1) (N := 16) hx hb hts hi hown hK hP 0 rfl rfl 8 (by decide) (hts (.fieldLink RX1 32 "AssignmentHouseModel" "workers" "[I") (by decide +kernel)) (fun _ h9 => h9) rfl dX1_over_48 ?_
          refine lv_iload hx hb dX1_over_51 (lv_at hl 7 rfl) ?_
          refine ri_ald (j := q) hx hb hK hP 6 rfl (rfl) (by omega) (by decide) dX1_over_53 ?_
          refine lv_aload_n hx hb dX1_over_54 rfl (lv_at hl 0 rfl) ?_
          refine va_get (D := D) (ci := 1) (v := .ref (a 8)) (C := RX1) (T := TX1) (N := 16) hx hb hts hi hown hK hP 0 rfl rfl 8 (by decide) (hts (.fieldLink RX1 32 "AssignmentHouseModel" "workers" "[I") (by decide +kernel)) (fun _ h9 => h9) rfl dX1_over_55 ?_
          refine lv_iload_n hx hb dX1_over_58 rfl (lv_at hl 1 rfl) ?_
          refine ri_ald (j := one) hx hb hK hP 6 rfl (rfl) (by omega) (by decide) dX1_over_59 ?_
          refine lv_icmp_ne (tgt := 187) hx hb dX1_over_60 (by decide) (fun c_60 => ?_) (fun c_60 => ?_)
          · skip
            refine lv_iinc (v := (nI (q + 1))) (lv' := [(7, .int (nI (q + 1))), (0, .ref (a 16)), (1, .int (nI one)), (2, .int ((F 10 one) / 7)), (3, .int y3), (4, .int y4), (5, .int (nI ((7 * (dayN F one / 7)) + i))), (6, .int y6)]) hx hb dX1_over_187 hl (k := 7) rfl (nI_1 q) (by decide) rfl (fun ls hl => ?_)
            refine lv_goto (tgt := 38) hx hb dX1_over_190 (by decide) ?_
            exact ih_38 (q + 1) _ _ _ ls (by omega) ((ov_f3 (fun h => c_60 h.1) ey3 ey6 ey4).1) ((ov_f3 (fun h => c_60 h.1) ey3 ey6 ey4).2.2) ((ov_f3 (fun h => c_60 h.1) ey3 ey6 ey4).2.1) (lv_sub hl [1, 2, 3, 4, 5, 6, 7, 0] rfl)
          · skip
            refine lv_aload_n hx hb dX1_over_63 rfl (lv_at hl 0 rfl) ?_
            refine va_get (D := D) (ci := 1) (v := .ref (a 10)) (C := RX1) (T := TX1) (N := 16) hx hb hts hi hown hK hP 0 rfl rfl 10 (by decide) (hts (.fieldLink RX1 38 "AssignmentHouseModel" "days" "[I") (by decide +kernel)) (fun _ h9 => h9) rfl dX1_over_64 ?_
            refine lv_iload hx hb dX1_over_67 (lv_at hl 7 rfl) ?_
            refine ri_ald (j := q) hx hb hK hP 8 rfl (rfl) (by omega) (by decide) dX1_over_69 ?_
            refine lv_iload hx hb dX1_over_70 (lv_at hl 5 rfl) ?_
            refine lv_icmp_ne (tgt := 187) hx hb dX1_over_72 (by decide) (fun c_72 => ?_) (fun c_72 => ?_)
            · skip
              refine lv_iinc (v := (nI (q + 1))) (lv' := [(7, .int (nI (q + 1))), (0, .ref (a 16)), (1, .int (nI one)), (2, .int ((F 10 one) / 7)), (3, .int y3), (4, .int y4), (5, .int (nI ((7 * (dayN F one / 7)) + i))), (6, .int y6)]) hx hb dX1_over_187 hl (k := 7) rfl (nI_1 q) (by decide) rfl (fun ls hl => ?_)
              refine lv_goto (tgt := 38) hx hb dX1_over_190 (by decide) ?_
              exact ih_38 (q + 1) _ _ _ ls (by omega) ((ov_f3 (fun h => c_72 h.2.1) ey3 ey6 ey4).1) ((ov_f3 (fun h => c_72 h.2.1) ey3 ey6 ey4).2.2) ((ov_f3 (fun h => c_72 h.2.1) ey3 ey6 ey4).2.1) (lv_sub hl [1, 2, 3, 4, 5, 6, 7, 0] rfl)
            · skip
              refine lv_iload hx hb dX1_over_75 (lv_at hl 5 rfl) ?_
              refine lv_aload_n hx hb dX1_over_77 rfl (lv_at hl 0 rfl) ?_
              refine va_get (D := D) (ci := 1) (v := .ref (a 10)) (C := RX1) (T := TX1) (N := 16) hx hb hts hi hown hK hP 0 rfl rfl 10 (by decide) (hts (.fieldLink RX1 38 "AssignmentHouseModel" "days" "[I") (by decide +kernel)) (fun _ h9 => h9) rfl dX1_over_78 ?_
              refine lv_iload_n hx hb dX1_over_81 rfl (lv_at hl 1 rfl) ?_
              refine ri_ald (j := one) hx hb hK hP 8 rfl (rfl) (by omega) (by decide) dX1_over_82 ?_
              refine lv_icmp_lt (tgt := 92) hx hb dX1_over_83 (by decide) (fun c_83 => ?_) (fun c_83 => ?_)
              · skip
                refine lv_iload hx hb dX1_over_92 (lv_at hl 6 rfl) ?_
                refine lv_bipush (v := 8) hx hb dX1_over_94 (by decide) ?_
                refine lv_icmp_ge (tgt := 107) hx hb dX1_over_96 (by decide) (fun c_96 => ?_) (fun c_96 => ?_)
                · skip
                  refine lv_iconst (v := 0) hx hb dX1_over_107 (by decide) ?_
                  refine lv_istore (lv' := [(8, .int 0), (0, .ref (a 16)), (1, .int (nI one)), (2, .int ((F 10 one) / 7)), (3, .int y3), (4, .int y4), (5, .int (nI ((7 * (dayN F one / 7)) + i))), (6, .int y6), (7, .int (nI q))]) hx hb dX1_over_108 hl (by decide) rfl (fun ls hl => ?_)
                  refine lv_bipush (v := 40) hx hb dX1_over_110 (by decide) ?_
                  refine lv_iload_n hx hb dX1_over_112 rfl (lv_at hl 4 rfl) ?_
                  refine lv_isub hx hb dX1_over_113 ?_
                  refine lv_istore (lv' := [(9, .int (40 - y3)), (8, .int 0), (0, .ref (a 16)), (1, .int (nI one)), (2, .int ((F 10 one) / 7)), (3, .int y3), (4, .int y4), (5, .int (nI ((7 * (dayN F one / 7)) + i))), (6, .int y6), (7, .int (nI q))]) hx hb dX1_over_114 hl (by decide) rfl (fun ls hl => ?_)
                  refine lv_iload hx hb dX1_over_116 (lv_at hl 1 rfl) ?_
                  refine lv_iload hx hb dX1_over_118 (lv_at hl 0 rfl) ?_
                  refine lv_icmp_ge (tgt := 128) hx hb dX1_over_120 (by decide) (fun c_120 => ?_) (fun c_120 => ?_)
                  · skip
                    refine lv_iload hx hb dX1_over_128 (lv_at hl 0 rfl) ?_
                    refine lv_istore (lv' := [(10, .int (40 - y3)), (9, .int (40 - y3)), (8, .int 0), (0, .ref (a 16)), (1, .int (nI one)), (2, .int ((F 10 one) / 7)), (3, .int y3), (4, .int y4), (5, .int (nI ((7 * (dayN F one / 7)) + i))), (6, .int y6), (7, .int (nI q))]) hx hb dX1_over_130 hl (by decide) rfl (fun ls hl => ?_)
                    refine lv_aload_n hx hb dX1_over_132 rfl (lv_at hl 3 rfl) ?_
                    refine va_get (D := D) (ci := 1) (v := .ref (a 11)) (C := RX1) (T := TX1) (N := 16) hx hb hts hi hown hK hP 0 rfl rfl 11 (by decide) (hts (.fieldLink RX1 41 "AssignmentHouseModel" "hours" "[I") (by decide +kernel)) (fun _ h9 => h9) rfl dX1_over_133 ?_
                    refine lv_iload hx hb dX1_over_136 (lv_at hl 10 rfl) ?_
                    refine ri_ald (j := q) hx hb hK hP 9 rfl (rfl) (by omega) (by decide) dX1_over_138 ?_
                    refine lv_iload hx hb dX1_over_139 (lv_at hl 0 rfl) ?_
                    refine lv_icmp_ge (tgt := 154) hx hb dX1_over_141 (by decide) (fun c_141 => ?_) (fun c_141 => ?_)
                    · skip
                      refine lv_iload hx hb dX1_over_154 (lv_at hl 0 rfl) ?_
                      refine lv_istore (lv' := [(11, .int (40 - y3)), (10, .int (40 - y3)), (9, .int (40 - y3)), (8, .int 0), (0, .ref (a 16)), (1, .int (nI one)), (2, .int ((F 10 one) / 7)), (3, .int y3), (4, .int y4), (5, .int (nI ((7 * (dayN F one / 7)) + i))), (6, .int y6), (7, .int (nI q))]) hx hb dX1_over_156 hl (by decide) rfl (fun ls hl => ?_)
                      refine lv_iload_n hx hb dX1_over_158 rfl (lv_at hl 7 rfl) ?_
                      refine lv_iload hx hb dX1_over_159 (lv_at hl 0 rfl) ?_
                      refine lv_iadd hx hb dX1_over_161 ?_
                      refine lv_istore_n (lv' := [(3, .int (y3 + (40 - y3))), (11, .int (40 - y3)), (10, .int (40 - y3)), (9, .int (40 - y3)), (8, .int 0), (0, .ref (a 16)), (1, .int (nI one)), (2, .int ((F 10 one) / 7)), (4, .int y4), (5, .int (nI ((7 * (dayN F one / 7)) + i))), (6, .int y6), (7, .int (nI q))]) hx hb dX1_over_162 rfl hl (by decide) rfl (fun ls hl => ?_)
                      refine lv_iload hx hb dX1_over_163 (lv_at hl 10 rfl) ?_
                      refine lv_aload_n hx hb dX1_over_165 rfl (lv_at hl 5 rfl) ?_
                      refine va_get (D := D) (ci := 1) (v := .ref (a 11)) (C := RX1) (T := TX1) (N := 16) hx hb hts hi hown hK hP 0 rfl rfl 11 (by decide) (hts (.fieldLink RX1 41 "AssignmentHouseModel" "hours" "[I") (by decide +kernel)) (fun _ h9 => h9) rfl dX1_over_166 ?_
                      refine lv_iload hx hb dX1_over_169 (lv_at hl 11 rfl) ?_
                      refine ri_ald (j := q) hx hb hK hP 9 rfl (rfl) (by omega) (by decide) dX1_over_171 ?_
                      refine lv_iadd hx hb dX1_over_172 ?_
                      refine lv_istore (lv' := [(6, .int (y6 + (F 11 q))), (3, .int (y3 + (40 - y3))), (11, .int (40 - y3)), (10, .int (40 - y3)), (9, .int (40 - y3)), (8, .int 0), (0, .ref (a 16)), (1, .int (nI one)), (2, .int ((F 10 one) / 7)), (4, .int y4), (5, .int (nI ((7 * (dayN F one / 7)) + i))), (7, .int (nI q))]) hx hb dX1_over_173 hl (by decide) rfl (fun ls hl => ?_)
                      refine lv_aload_n hx hb dX1_over_175 rfl (lv_at hl 6 rfl) ?_
                      refine va_get (D := D) (ci := 1) (v := .ref (a 11)) (C := RX1) (T := TX1) (N := 16) hx hb hts hi hown hK hP 0 rfl rfl 11 (by decide) (hts (.fieldLink RX1 41 "AssignmentHouseModel" "hours" "[I") (by decide +kernel)) (fun _ h9 => h9) rfl dX1_over_176 ?_
                      refine lv_iload hx hb dX1_over_179 (lv_at hl 11 rfl) ?_
                      refine ri_ald (j := q) hx hb hK hP 9 rfl (rfl) (by omega) (by decide) dX1_over_181 ?_
                      refine lv_iload hx hb dX1_over_182 (lv_at hl 2 rfl) ?_
                      refine lv_isub hx hb dX1_over_184 ?_
                      refine lv_istore (lv' := [(4, .int ((F 11 q) - (40 - y3))), (6, .int (y6 + (F 11 q))), (3, .int (y3 + (40 - y3))), (11, .int (40 - y3)), (10, .int (40 - y3)), (9, .int (40 - y3)), (8, .int 0), (0, .ref (a 16)), (1, .int (nI one)), (2, .int ((F 10 one) / 7)), (5, .int (nI ((7 * (dayN F one / 7)) + i))), (7, .int (nI q))]) hx hb dX1_over_185 hl (by decide) rfl (fun ls hl => ?_)
                      refine lv_iinc (v := (nI (q + 1))) (lv' := [(7, .int (nI (q + 1))), (4, .int ((F 11 q) - (40 - y3))), (6, .int (y6 + (F 11 q))), (3, .int (y3 + (40 - y3))), (11, .int (40 - y3)), (10, .int (40 - y3)), (9, .int (40 - y3)), (8, .int 0), (0, .ref (a 16)), (1, .int (nI one)), (2, .int ((F 10 one) / 7)), (5, .int (nI ((7 * (dayN F one / 7)) + i)))]) hx hb dX1_over_187 hl (k := 11) rfl (nI_1 q) (by decide) rfl (fun ls hl => ?_)
                      refine lv_goto (tgt := 38) hx hb dX1_over_190 (by decide) ?_
                      exact ih_38 (q + 1) _ _ _ ls (by omega) ((ov_t3 ⟨c_60, c_72, Or.inl c_83⟩ ey3 ey6 (by unfold ovIts; rw [if_neg (Int32.not_lt.mpr c_96), if_neg (Int32.not_lt.mpr c_120), if_neg (Int32.not_lt.mpr c_141)])).1) ((ov_t3 ⟨c_60, c_72, Or.inl c_83⟩ ey3 ey6 (by unfold ovIts; rw [if_neg (Int32.not_lt.mpr c_96), if_neg (Int32.not_lt.mpr c_120), if_neg (Int32.not_lt.mpr c_141)])).2.2) ((ov_t3 ⟨c_60, c_72, Or.inl c_83⟩ ey3 ey6 (by unfold ovIts; rw [if_neg (Int32.not_lt.mpr c_96), if_neg (Int32.not_lt.mpr c_120), if_neg (Int32.not_lt.mpr c_141)])).2.1) (lv_sub hl [8, 9, 10, 3, 1, 11, 2, 0] rfl)
                    · skip
                      refine lv_aload_n hx hb dX1_over_144 rfl (lv_at hl 3 rfl) ?_
                      refine va_get (D := D) (ci := 1) (v := .ref (a 11)) (C := RX1) (T := TX1) (N := 16) hx hb hts hi hown hK hP 0 rfl rfl 11 (by decide) (hts (.fieldLink RX1 41 "AssignmentHouseModel" "hours" "[I") (by decide +kernel)) (fun _ h9 => h9) rfl dX1_over_145 ?_
                      refine lv_iload hx hb dX1_over_148 (lv_at hl 10 rfl) ?_
                      refine ri_ald (j := q) hx hb hK hP 9 rfl (rfl) (by omega) (by decide) dX1_over_150 ?_
                      refine lv_goto (tgt := 156) hx hb dX1_over_151 (by decide) ?_
                      refine lv_istore (lv' := [(11, .int (F 11 q)), (10, .int (40 - y3)), (9, .int (40 - y3)), (8, .int 0), (0, .ref (a 16)), (1, .int (nI one)), (2, .int ((F 10 one) / 7)), (3, .int y3), (4, .int y4), (5, .int (nI ((7 * (dayN F one / 7)) + i))), (6, .int y6), (7, .int (nI q))]) hx hb dX1_over_156 hl (by decide) rfl (fun ls hl => ?_)
                      refine lv_iload_n hx hb dX1_over_158 rfl (lv_at hl 7 rfl) ?_
                      refine lv_iload hx hb dX1_over_159 (lv_at hl 0 rfl) ?_
                      refine lv_iadd hx hb dX1_over_161 ?_
                      refine lv_istore_n (lv' := [(3, .int (y3 + (F 11 q))), (11, .int (F 11 q)), (10, .int (40 - y3)), (9, .int (40 - y3)), (8, .int 0), (0, .ref (a 16)), (1, .int (nI one)), (2, .int ((F 10 one) / 7)), (4, .int y4), (5, .int (nI ((7 * (dayN F one / 7)) + i))), (6, .int y6), (7, .int (nI q))]) hx hb dX1_over_162 rfl hl (by decide) rfl (fun ls hl => ?_)
                      refine lv_iload hx hb dX1_over_163 (lv_at hl 10 rfl) ?_
                      refine lv_aload_n hx hb dX1_over_165 rfl (lv_at hl 5 rfl) ?_
                      refine va_get (D := D) (ci := 1) (v := .ref (a 11)) (C := RX1) (T := TX1) (N := 16) hx hb hts hi hown hK hP 0 rfl rfl 11 (by decide) (hts (.fieldLink RX1 41 "AssignmentHouseModel" "hours" "[I") (by decide +kernel)) (fun _ h9 => h9) rfl dX1_over_166 ?_
                      refine lv_iload hx hb dX1_over_169 (lv_at hl 11 rfl) ?_
                      refine ri_ald (j := q) hx hb hK hP 9 rfl (rfl) (by omega) (by decide) dX1_over_171 ?_
                      refine lv_iadd hx hb dX1_over_172 ?_
                      refine lv_istore (lv' := [(6, .int (y6 + (F 11 q))), (3, .int (y3 + (F 11 q))), (11, .int (F 11 q)), (10, .int (40 - y3)), (9, .int (40 - y3)), (8, .int 0), (0, .ref (a 16)), (1, .int (nI one)), (2, .int ((F 10 one) / 7)), (4, .int y4), (5, .int (nI ((7 * (dayN F one / 7)) + i))), (7, .int (nI q))]) hx hb dX1_over_173 hl (by decide) rfl (fun ls hl => ?_)
                      refine lv_aload_n hx hb dX1_over_175 rfl (lv_at hl 6 rfl) ?_
                      refine va_get (D := D) (ci := 1) (v := .ref (a 11)) (C := RX1) (T := TX1) (N := 16) hx hb hts hi hown hK hP 0 rfl rfl 11 (by decide) (hts (.fieldLink RX1 41 "AssignmentHouseModel" "hours" "[I") (by decide +kernel)) (fun _ h9 => h9) rfl dX1_over_176 ?_
                      refine lv_iload hx hb dX1_over_179 (lv_at hl 11 rfl) ?_
                      refine ri_ald (j := q) hx hb hK hP 9 rfl (rfl) (by omega) (by decide) dX1_over_181 ?_
                      refine lv_iload hx hb dX1_over_182 (lv_at hl 2 rfl) ?_
                      refine lv_isub hx hb dX1_over_184 ?_
                      refine lv_istore (lv' := [(4, .int ((F 11 q) - (F 11 q))), (6, .int (y6 + (F 11 q))), (3, .int (y3 + (F 11 q))), (11, .int (F 11 q)), (10, .int (40 - y3)), (9, .int (40 - y3)), (8, .int 0), (0, .ref (a 16)), (1, .int (nI one)), (2, .int ((F 10 one) / 7)), (5, .int (nI ((7 * (dayN F one / 7)) + i))), (7, .int (nI q))]) hx hb dX1_over_185 hl (by decide) rfl (fun ls hl => ?_)
                      refine lv_iinc (v := (nI (q + 1))) (lv' := [(7, .int (nI (q + 1))), (4, .int ((F 11 q) - (F 11 q))), (6, .int (y6 + (F 11 q))), (3, .int (y3 + (F 11 q))), (11, .int (F 11 q)), (10, .int (40 - y3)), (9, .int (40 - y3)), (8, .int 0), (0, .ref (a 16)), (1, .int (nI one)), (2, .int ((F 10 one) / 7)), (5, .int (nI ((7 * (dayN F one / 7)) + i)))]) hx hb dX1_over_187 hl (k := 11) rfl (nI_1 q) (by decide) rfl (fun ls hl => ?_)
                      refine lv_goto (tgt := 38) hx hb dX1_over_190 (by decide) ?_
                      exact ih_38 (q + 1) _ _ _ ls (by omega) ((ov_t3 ⟨c_60, c_72, Or.inl c_83⟩ ey3 ey6 (by unfold ovIts; rw [if_neg (Int32.not_lt.mpr c_96), if_neg (Int32.not_lt.mpr c_120), if_pos (Int32.not_le.mp c_141)])).1) ((ov_t3 ⟨c_60, c_72, Or.inl c_83⟩ ey3 ey6 (by unfold ovIts; rw [if_neg (Int32.not_lt.mpr c_96), if_neg (Int32.not_lt.mpr c_120), if_pos (Int32.not_le.mp c_141)])).2.2) ((ov_t3 ⟨c_60, c_72, Or.inl c_83⟩ ey3 ey6 (by unfold ovIts; rw [if_neg (Int32.not_lt.mpr c_96), if_neg (Int32.not_lt.mpr c_120), if_pos (Int32.not_le.mp c_141)])).2.1) (lv_sub hl [8, 9, 10, 3, 1, 11, 2, 0] rfl)
                  · skip
                    refine lv_iload hx hb dX1_over_123 (lv_at hl 1 rfl) ?_
                    refine lv_goto (tgt := 130) hx hb dX1_over_125 (by decide) ?_
                    refine lv_istore (lv' := [(10, .int 0), (9, .int (40 - y3)), (8, .int 0), (0, .ref (a 16)), (1, .int (nI one)), (2, .int ((F 10 one) / 7)), (3, .int y3), (4, .int y4), (5, .int (nI ((7 * (dayN F one / 7)) + i))), (6, .int y6), (7, .int (nI q))]) hx hb dX1_over_130 hl (by decide) rfl (fun ls hl => ?_)
                    refine lv_aload_n hx hb dX1_over_132 rfl (lv_at hl 3 rfl) ?_
                    refine va_get (D := D) (ci := 1) (v := .ref (a 11)) (C := RX1) (T := TX1) (N := 16) hx hb hts hi hown hK hP 0 rfl rfl 11 (by decide) (hts (.fieldLink RX1 41 "AssignmentHouseModel" "hours" "[I") (by decide +kernel)) (fun _ h9 => h9) rfl dX1_over_133 ?_
                    refine lv_iload hx hb dX1_over_136 (lv_at hl 10 rfl) ?_
                    refine ri_ald (j := q) hx hb hK hP 9 rfl (rfl) (by omega) (by decide) dX1_over_138 ?_
                    refine lv_iload hx hb dX1_over_139 (lv_at hl 0 rfl) ?_
                    refine lv_icmp_ge (tgt := 154) hx hb dX1_over_141 (by decide) (fun c_141 => ?_) (fun c_141 => ?_)
                    · skip
                      refine lv_iload hx hb dX1_over_154 (lv_at hl 0 rfl) ?_
                      refine lv_istore (lv' := [(11, .int 0), (10, .int 0), (9, .int (40 - y3)), (8, .int 0), (0, .ref (a 16)), (1, .int (nI one)), (2, .int ((F 10 one) / 7)), (3, .int y3), (4, .int y4), (5, .int (nI ((7 * (dayN F one / 7)) + i))), (6, .int y6), (7, .int (nI q))]) hx hb dX1_over_156 hl (by decide) rfl (fun ls hl => ?_)
                      refine lv_iload_n hx hb dX1_over_158 rfl (lv_at hl 7 rfl) ?_
                      refine lv_iload hx hb dX1_over_159 (lv_at hl 0 rfl) ?_
                      refine lv_iadd hx hb dX1_over_161 ?_
                      refine lv_istore_n (lv' := [(3, .int (y3 + 0)), (11, .int 0), (10, .int 0), (9, .int (40 - y3)), (8, .int 0), (0, .ref (a 16)), (1, .int (nI one)), (2, .int ((F 10 one) / 7)), (4, .int y4), (5, .int (nI ((7 * (dayN F one / 7)) + i))), (6, .int y6), (7, .int (nI q))]) hx hb dX1_over_162 rfl hl (by decide) rfl (fun ls hl => ?_)
                      refine lv_iload hx hb dX1_over_163 (lv_at hl 10 rfl) ?_
                      refine lv_aload_n hx hb dX1_over_165 rfl (lv_at hl 5 rfl) ?_
                      refine va_get (D := D) (ci := 1) (v := .ref (a 11)) (C := RX1) (T := TX1) (N := 16) hx hb hts hi hown hK hP 0 rfl rfl 11 (by decide) (hts (.fieldLink RX1 41 "AssignmentHouseModel" "hours" "[I") (by decide +kernel)) (fun _ h9 => h9) rfl dX1_over_166 ?_
                      refine lv_iload hx hb dX1_over_169 (lv_at hl 11 rfl) ?_
                      refine ri_ald (j := q) hx hb hK hP 9 rfl (rfl) (by omega) (by decide) dX1_over_171 ?_
                      refine lv_iadd hx hb dX1_over_172 ?_
                      refine lv_istore (lv' := [(6, .int (y6 + (F 11 q))), (3, .int (y3 + 0)), (11, .int 0), (10, .int 0), (9, .int (40 - y3)), (8, .int 0), (0, .ref (a 16)), (1, .int (nI one)), (2, .int ((F 10 one) / 7)), (4, .int y4), (5, .int (nI ((7 * (dayN F one / 7)) + i))), (7, .int (nI q))]) hx hb dX1_over_173 hl (by decide) rfl (fun ls hl => ?_)
                      refine lv_aload_n hx hb dX1_over_175 rfl (lv_at hl 6 rfl) ?_
                      refine va_get (D := D) (ci := 1) (v := .ref (a 11)) (C := RX1) (T := TX1) (N := 16) hx hb hts hi hown hK hP 0 rfl rfl 11 (by decide) (hts (.fieldLink RX1 41 "AssignmentHouseModel" "hours" "[I") (by decide +kernel)) (fun _ h9 => h9) rfl dX1_over_176 ?_
                      refine lv_iload hx hb dX1_over_179 (lv_at hl 11 rfl) ?_
                      refine ri_ald (j := q) hx hb hK hP 9 rfl (rfl) (by omega) (by decide) dX1_over_181 ?_
                      refine lv_iload hx hb dX1_over_182 (lv_at hl 2 rfl) ?_
                      refine lv_isub hx hb dX1_over_184 ?_
                      refine lv_istore (lv' := [(4, .int ((F 11 q) - 0)), (6, .int (y6 + (F 11 q))), (3, .int (y3 + 0)), (11, .int 0), (10, .int 0), (9, .int (40 - y3)), (8, .int 0), (0, .ref (a 16)), (1, .int (nI one)), (2, .int ((F 10 one) / 7)), (5, .int (nI ((7 * (dayN F one / 7)) + i))), (7, .int (nI q))]) hx hb dX1_over_185 hl (by decide) rfl (fun ls hl => ?_)
                      refine lv_iinc (v := (nI (q + 1))) (lv' := [(7, .int (nI (q + 1))), (4, .int ((F 11 q) - 0)), (6, .int (y6 + (F 11 q))), (3, .int (y3 + 0)), (11, .int 0), (10, .int 0), (9, .int (40 - y3)), (8, .int 0), (0, .ref (a 16)), (1, .int (nI one)), (2, .int ((F 10 one) / 7)), (5, .int (nI ((7 * (dayN F one / 7)) + i)))]) hx hb dX1_over_187 hl (k := 11) rfl (nI_1 q) (by decide) rfl (fun ls hl => ?_)
                      refine lv_goto (tgt := 38) hx hb dX1_over_190 (by decide) ?_
                      exact ih_38 (q + 1) _ _ _ ls (by omega) ((ov_t3 ⟨c_60, c_72, Or.inl c_83⟩ ey3 ey6 (by unfold ovIts; rw [if_neg (Int32.not_lt.mpr c_96), if_pos (Int32.not_le.mp c_120), if_neg (Int32.not_lt.mpr c_141)])).1) ((ov_t3 ⟨c_60, c_72, Or.inl c_83⟩ ey3 ey6 (by unfold ovIts; rw [if_neg (Int32.not_lt.mpr c_96), if_pos (Int32.not_le.mp c_120), if_neg (Int32.not_lt.mpr c_141)])).2.2) ((ov_t3 ⟨c_60, c_72, Or.inl c_83⟩ ey3 ey6 (by unfold ovIts; rw [if_neg (Int32.not_lt.mpr c_96), if_pos (Int32.not_le.mp c_120), if_neg (Int32.not_lt.mpr c_141)])).2.1) (lv_sub hl [8, 9, 10, 3, 1, 11, 2, 0] rfl)
                    · skip
                      refine lv_aload_n hx hb dX1_over_144 rfl (lv_at hl 3 rfl) ?_
                      refine va_get (D := D) (ci := 1) (v := .ref (a 11)) (C := RX1) (T := TX1) (N := 16) hx hb hts hi hown hK hP 0 rfl rfl 11 (by decide) (hts (.fieldLink RX1 41 "AssignmentHouseModel" "hours" "[I") (by decide +kernel)) (fun _ h9 => h9) rfl dX1_over_145 ?_
                      refine lv_iload hx hb dX1_over_148 (lv_at hl 10 rfl) ?_
                      refine ri_ald (j := q) hx hb hK hP 9 rfl (rfl) (by omega) (by decide) dX1_over_150 ?_
                      refine lv_goto (tgt := 156) hx hb dX1_over_151 (by decide) ?_
                      refine lv_istore (lv' := [(11, .int (F 11 q)), (10, .int 0), (9, .int (40 - y3)), (8, .int 0), (0, .ref (a 16)), (1, .int (nI one)), (2, .int ((F 10 one) / 7)), (3, .int y3), (4, .int y4), (5, .int (nI ((7 * (dayN F one / 7)) + i))), (6, .int y6), (7, .int (nI q))]) hx hb dX1_over_156 hl (by decide) rfl (fun ls hl => ?_)
                      refine lv_iload_n hx hb dX1_over_158 rfl (lv_at hl 7 rfl) ?_
                      refine lv_iload hx hb dX1_over_159 (lv_at hl 0 rfl) ?_
                      refine lv_iadd hx hb dX1_over_161 ?_
                      refine lv_istore_n (lv' := [(3, .int (y3 + (F 11 q))), (11, .int (F 11 q)), (10, .int 0), (9, .int (40 - y3)), (8, .int 0), (0, .ref (a 16)), (1, .int (nI one)), (2, .int ((F 10 one) / 7)), (4, .int y4), (5, .int (nI ((7 * (dayN F one / 7)) + i))), (6, .int y6), (7, .int (nI q))]) hx hb dX1_over_162 rfl hl (by decide) rfl (fun ls hl => ?_)
                      refine lv_iload hx hb dX1_over_163 (lv_at hl 10 rfl) ?_
                      refine lv_aload_n hx hb dX1_over_165 rfl (lv_at hl 5 rfl) ?_
                      refine va_get (D := D) (ci := 1) (v := .ref (a 11)) (C := RX1) (T := TX1) (N := 16) hx hb hts hi hown hK hP 0 rfl rfl 11 (by decide) (hts (.fieldLink RX1 41 "AssignmentHouseModel" "hours" "[I") (by decide +kernel)) (fun _ h9 => h9) rfl dX1_over_166 ?_
                      refine lv_iload hx hb dX1_over_169 (lv_at hl 11 rfl) ?_
                      refine ri_ald (j := q) hx hb hK hP 9 rfl (rfl) (by omega) (by decide) dX1_over_171 ?_
                      refine lv_iadd hx hb dX1_over_172 ?_
                      refine lv_istore (lv' := [(6, .int (y6 + (F 11 q))), (3, .int (y3 + (F 11 q))), (11, .int (F 11 q)), (10, .int 0), (9, .int (40 - y3)), (8, .int 0), (0, .ref (a 16)), (1, .int (nI one)), (2, .int ((F 10 one) / 7)), (4, .int y4), (5, .int (nI ((7 * (dayN F one / 7)) + i))), (7, .int (nI q))]) hx hb dX1_over_173 hl (by decide) rfl (fun ls hl => ?_)
                      refine lv_aload_n hx hb dX1_over_175 rfl (lv_at hl 6 rfl) ?_
                      refine va_get (D := D) (ci := 1) (v := .ref (a 11)) (C := RX1) (T := TX1) (N := 16) hx hb hts hi hown hK hP 0 rfl rfl 11 (by decide) (hts (.fieldLink RX1 41 "AssignmentHouseModel" "hours" "[I") (by decide +kernel)) (fun _ h9 => h9) rfl dX1_over_176 ?_
                      refine lv_iload hx hb dX1_over_179 (lv_at hl 11 rfl) ?_
                      refine ri_ald (j := q) hx hb hK hP 9 rfl (rfl) (by omega) (by decide) dX1_over_181 ?_
                      refine lv_iload hx hb dX1_over_182 (lv_at hl 2 rfl) ?_
                      refine lv_isub hx hb dX1_over_184 ?_
                      refine lv_istore (lv' := [(4, .int ((F 11 q) - (F 11 q))), (6, .int (y6 + (F 11 q))), (3, .int (y3 + (F 11 q))), (11, .int (F 11 q)), (10, .int 0), (9, .int (40 - y3)), (8, .int 0), (0, .ref (a 16)), (1, .int (nI one)), (2, .int ((F 10 one) / 7)), (5, .int (nI ((7 * (dayN F one / 7)) + i))), (7, .int (nI q))]) hx hb dX1_over_185 hl (by decide) rfl (fun ls hl => ?_)
                      refine lv_iinc (v := (nI (q + 1))) (lv' := [(7, .int (nI (q + 1))), (4, .int ((F 11 q) - (F 11 q))), (6, .int (y6 + (F 11 q))), (3, .int (y3 + (F 11 q))), (11, .int (F 11 q)), (10, .int 0), (9, .int (40 - y3)), (8, .int 0), (0, .ref (a 16)), (1, .int (nI one)), (2, .int ((F 10 one) / 7)), (5, .int (nI ((7 * (dayN F one / 7)) + i)))]) hx hb dX1_over_187 hl (k := 11) rfl (nI_1 q) (by decide) rfl (fun ls hl => ?_)
                      refine lv_goto (tgt := 38) hx hb dX1_over_190 (by decide) ?_
                      exact ih_38 (q + 1) _ _ _ ls (by omega) ((ov_t3 ⟨c_60, c_72, Or.inl c_83⟩ ey3 ey6 (by unfold ovIts; rw [if_neg (Int32.not_lt.mpr c_96), if_pos (Int32.not_le.mp c_120), if_pos (Int32.not_le.mp c_141)])).1) ((ov_t3 ⟨c_60, c_72, Or.inl c_83⟩ ey3 ey6 (by unfold ovIts; rw [if_neg (Int32.not_lt.mpr c_96), if_pos (Int32.not_le.mp c_120), if_pos (Int32.not_le.mp c_141)])).2.2) ((ov_t3 ⟨c_60, c_72, Or.inl c_83⟩ ey3 ey6 (by unfold ovIts; rw [if_neg (Int32.not_lt.mpr c_96), if_pos (Int32.not_le.mp c_120), if_pos (Int32.not_le.mp c_141)])).2.1) (lv_sub hl [8, 9, 10, 3, 1, 11, 2, 0] rfl)
                · skip
                  refine lv_bipush (v := 8) hx hb dX1_over_99 (by decide) ?_
                  refine lv_iload hx hb dX1_over_101 (lv_at hl 6 rfl) ?_
                  refine lv_isub hx hb dX1_over_103 ?_
                  refine lv_goto (tgt := 108) hx hb dX1_over_104 (by decide) ?_
                  refine lv_istore (lv' := [(8, .int (8 - y6)), (0, .ref (a 16)), (1, .int (nI one)), (2, .int ((F 10 one) / 7)), (3, .int y3), (4, .int y4), (5, .int (nI ((7 * (dayN F one / 7)) + i))), (6, .int y6), (7, .int (nI q))]) hx hb dX1_over_108 hl (by decide) rfl (fun ls hl => ?_)
                  refine lv_bipush (v := 40) hx hb dX1_over_110 (by decide) ?_
                  refine lv_iload_n hx hb dX1_over_112 rfl (lv_at hl 4 rfl) ?_
                  refine lv_isub hx hb dX1_over_113 ?_
                  refine lv_istore (lv' := [(9, .int (40 - y3)), (8, .int (8 - y6)), (0, .ref (a 16)), (1, .int (nI one)), (2, .int ((F 10 one) / 7)), (3, .int y3), (4, .int y4), (5, .int (nI ((7 * (dayN F one / 7)) + i))), (6, .int y6), (7, .int (nI q))]) hx hb dX1_over_114 hl (by decide) rfl (fun ls hl => ?_)
                  refine lv_iload hx hb dX1_over_116 (lv_at hl 1 rfl) ?_
                  refine lv_iload hx hb dX1_over_118 (lv_at hl 0 rfl) ?_
                  refine lv_icmp_ge (tgt := 128) hx hb dX1_over_120 (by decide) (fun c_120 => ?_) (fun c_120 => ?_)
                  · skip
                    refine lv_iload hx hb dX1_over_128 (lv_at hl 0 rfl) ?_
                    refine lv_istore (lv' := [(10, .int (40 - y3)), (9, .int (40 - y3)), (8, .int (8 - y6)), (0, .ref (a 16)), (1, .int (nI one)), (2, .int ((F 10 one) / 7)), (3, .int y3), (4, .int y4), (5, .int (nI ((7 * (dayN F one / 7)) + i))), (6, .int y6), (7, .int (nI q))]) hx hb dX1_over_130 hl (by decide) rfl (fun ls hl => ?_)
                    refine lv_aload_n hx hb dX1_over_132 rfl (lv_at hl 3 rfl) ?_
                    refine va_get (D := D) (ci := 1) (v := .ref (a 11)) (C := RX1) (T := TX1) (N := 16) hx hb hts hi hown hK hP 0 rfl rfl 11 (by decide) (hts (.fieldLink RX1 41 "AssignmentHouseModel" "hours" "[I") (by decide +kernel)) (fun _ h9 => h9) rfl dX1_over_133 ?_
                    refine lv_iload hx hb dX1_over_136 (lv_at hl 10 rfl) ?_
                    refine ri_ald (j := q) hx hb hK hP 9 rfl (rfl) (by omega) (by decide) dX1_over_138 ?_
                    refine lv_iload hx hb dX1_over_139 (lv_at hl 0 rfl) ?_
                    refine lv_icmp_ge (tgt := 154) hx hb dX1_over_141 (by decide) (fun c_141 => ?_) (fun c_141 => ?_)
                    · skip
                      refine lv_iload hx hb dX1_over_154 (lv_at hl 0 rfl) ?_
                      refine lv_istore (lv' := [(11, .int (40 - y3)), (10, .int (40 - y3)), (9, .int (40 - y3)), (8, .int (8 - y6)), (0, .ref (a 16)), (1, .int (nI one)), (2, .int ((F 10 one) / 7)), (3, .int y3), (4, .int y4), (5, .int (nI ((7 * (dayN F one / 7)) + i))), (6, .int y6), (7, .int (nI q))]) hx hb dX1_over_156 hl (by decide) rfl (fun ls hl => ?_)
                      refine lv_iload_n hx hb dX1_over_158 rfl (lv_at hl 7 rfl) ?_
                      refine lv_iload hx hb dX1_over_159 (lv_at hl 0 rfl) ?_
                      refine lv_iadd hx hb dX1_over_161 ?_
                      refine lv_istore_n (lv' := [(3, .int (y3 + (40 - y3))), (11, .int (40 - y3)), (10, .int (40 - y3)), (9, .int (40 - y3)), (8, .int (8 - y6)), (0, .ref (a 16)), (1, .int (nI one)), (2, .int ((F 10 one) / 7)), (4, .int y4), (5, .int (nI ((7 * (dayN F one / 7)) + i))), (6, .int y6), (7, .int (nI q))]) hx hb dX1_over_162 rfl hl (by decide) rfl (fun ls hl => ?_)
                      refine lv_iload hx hb dX1_over_163 (lv_at hl 10 rfl) ?_
                      refine lv_aload_n hx hb dX1_over_165 rfl (lv_at hl 5 rfl) ?_
                      refine va_get (D := D) (ci := 1) (v := .ref (a 11)) (C := RX1) (T := TX1) (N := 16) hx hb hts hi hown hK hP 0 rfl rfl 11 (by decide) (hts (.fieldLink RX1 41 "AssignmentHouseModel" "hours" "[I") (by decide +kernel)) (fun _ h9 => h9) rfl dX1_over_166 ?_
                      refine lv_iload hx hb dX1_over_169 (lv_at hl 11 rfl) ?_
                      refine ri_ald (j := q) hx hb hK hP 9 rfl (rfl) (by omega) (by decide) dX1_over_171 ?_
                      refine lv_iadd hx hb dX1_over_172 ?_
                      refine lv_istore (lv' := [(6, .int (y6 + (F 11 q))), (3, .int (y3 + (40 - y3))), (11, .int (40 - y3)), (10, .int (40 - y3)), (9, .int (40 - y3)), (8, .int (8 - y6)), (0, .ref (a 16)), (1, .int (nI one)), (2, .int ((F 10 one) / 7)), (4, .int y4), (5, .int (nI ((7 * (dayN F one / 7)) + i))), (7, .int (nI q))]) hx hb dX1_over_173 hl (by decide) rfl (fun ls hl => ?_)
                      refine lv_aload_n hx hb dX1_over_175 rfl (lv_at hl 6 rfl) ?_
                      refine va_get (D := D) (ci := 1) (v := .ref (a 11)) (C := RX1) (T := TX1) (N := 16) hx hb hts hi hown hK hP 0 rfl rfl 11 (by decide) (hts (.fieldLink RX1 41 "AssignmentHouseModel" "hours" "[I") (by decide +kernel)) (fun _ h9 => h9) rfl dX1_over_176 ?_
                      refine lv_iload hx hb dX1_over_179 (lv_at hl 11 rfl) ?_
                      refine ri_ald (j := q) hx hb hK hP 9 rfl (rfl) (by omega) (by decide) dX1_over_181 ?_
                      refine lv_iload hx hb dX1_over_182 (lv_at hl 2 rfl) ?_
                      refine lv_isub hx hb dX1_over_184 ?_
                      refine lv_istore (lv' := [(4, .int ((F 11 q) - (40 - y3))), (6, .int (y6 + (F 11 q))), (3, .int (y3 + (40 - y3))), (11, .int (40 - y3)), (10, .int (40 - y3)), (9, .int (40 - y3)), (8, .int (8 - y6)), (0, .ref (a 16)), (1, .int (nI one)), (2, .int ((F 10 one) / 7)), (5, .int (nI ((7 * (dayN F one / 7)) + i))), (7, .int (nI q))]) hx hb dX1_over_185 hl (by decide) rfl (fun ls hl => ?_)
                      refine lv_iinc (v := (nI (q + 1))) (lv' := [(7, .int (nI (q + 1))), (4, .int ((F 11 q) - (40 - y3))), (6, .int (y6 + (F 11 q))), (3, .int (y3 + (40 - y3))), (11, .int (40 - y3)), (10, .int (40 - y3)), (9, .int (40 - y3)), (8, .int (8 - y6)), (0, .ref (a 16)), (1, .int (nI one)), (2, .int ((F 10 one) / 7)), (5, .int (nI ((7 * (dayN F one / 7)) + i)))]) hx hb dX1_over_187 hl (k := 11) rfl (nI_1 q) (by decide) rfl (fun ls hl => ?_)
                      refine lv_goto (tgt := 38) hx hb dX1_over_190 (by decide) ?_
                      exact ih_38 (q + 1) _ _ _ ls (by omega) ((ov_t3 ⟨c_60, c_72, Or.inl c_83⟩ ey3 ey6 (by unfold ovIts; rw [if_pos (Int32.not_le.mp c_96), if_neg (Int32.not_lt.mpr c_120), if_neg (Int32.not_lt.mpr c_141)])).1) ((ov_t3 ⟨c_60, c_72, Or.inl c_83⟩ ey3 ey6 (by unfold ovIts; rw [if_pos (Int32.not_le.mp c_96), if_neg (Int32.not_lt.mpr c_120), if_neg (Int32.not_lt.mpr c_141)])).2.2) ((ov_t3 ⟨c_60, c_72, Or.inl c_83⟩ ey3 ey6 (by unfold ovIts; rw [if_pos (Int32.not_le.mp c_96), if_neg (Int32.not_lt.mpr c_120), if_neg (Int32.not_lt.mpr c_141)])).2.1) (lv_sub hl [8, 9, 10, 3, 1, 11, 2, 0] rfl)
                    · skip
                      refine lv_aload_n hx hb dX1_over_144 rfl (lv_at hl 3 rfl) ?_
                      refine va_get (D := D) (ci := 1) (v := .ref (a 11)) (C := RX1) (T := TX1) (N := 16) hx hb hts hi hown hK hP 0 rfl rfl 11 (by decide) (hts (.fieldLink RX1 41 "AssignmentHouseModel" "hours" "[I") (by decide +kernel)) (fun _ h9 => h9) rfl dX1_over_145 ?_
                      refine lv_iload hx hb dX1_over_148 (lv_at hl 10 rfl) ?_
                      refine ri_ald (j := q) hx hb hK hP 9 rfl (rfl) (by omega) (by decide) dX1_over_150 ?_
                      refine lv_goto (tgt := 156) hx hb dX1_over_151 (by decide) ?_
                      refine lv_istore (lv' := [(11, .int (F 11 q)), (10, .int (40 - y3)), (9, .int (40 - y3)), (8, .int (8 - y6)), (0, .ref (a 16)), (1, .int (nI one)), (2, .int ((F 10 one) / 7)), (3, .int y3), (4, .int y4), (5, .int (nI ((7 * (dayN F one / 7)) + i))), (6, .int y6), (7, .int (nI q))]) hx hb dX1_over_156 hl (by decide) rfl (fun ls hl => ?_)
                      refine lv_iload_n hx hb dX1_over_158 rfl (lv_at hl 7 rfl) ?_
                      refine lv_iload hx hb dX1_over_159 (lv_at hl 0 rfl) ?_
                      refine lv_iadd hx hb dX1_over_161 ?_
                      refine lv_istore_n (lv' := [(3, .int (y3 + (F 11 q))), (11, .int (F 11 q)), (10, .int (40 - y3)), (9, .int (40 - y3)), (8, .int (8 - y6)), (0, .ref (a 16)), (1, .int (nI one)), (2, .int ((F 10 one) / 7)), (4, .int y4), (5, .int (nI ((7 * (dayN F one / 7)) + i))), (6, .int y6), (7, .int (nI q))]) hx hb dX1_over_162 rfl hl (by decide) rfl (fun ls hl => ?_)
                      refine lv_iload hx hb dX1_over_163 (lv_at hl 10 rfl) ?_
                      refine lv_aload_n hx hb dX1_over_165 rfl (lv_at hl 5 rfl) ?_
                      refine va_get (D := D) (ci := 1) (v := .ref (a 11)) (C := RX1) (T := TX1) (N := 16) hx hb hts hi hown hK hP 0 rfl rfl 11 (by decide) (hts (.fieldLink RX1 41 "AssignmentHouseModel" "hours" "[I") (by decide +kernel)) (fun _ h9 => h9) rfl dX1_over_166 ?_
                      refine lv_iload hx hb dX1_over_169 (lv_at hl 11 rfl) ?_
                      refine ri_ald (j := q) hx hb hK hP 9 rfl (rfl) (by omega) (by decide) dX1_over_171 ?_
                      refine lv_iadd hx hb dX1_over_172 ?_
                      refine lv_istore (lv' := [(6, .int (y6 + (F 11 q))), (3, .int (y3 + (F 11 q))), (11, .int (F 11 q)), (10, .int (40 - y3)), (9, .int (40 - y3)), (8, .int (8 - y6)), (0, .ref (a 16)), (1, .int (nI one)), (2, .int ((F 10 one) / 7)), (4, .int y4), (5, .int (nI ((7 * (dayN F one / 7)) + i))), (7, .int (nI q))]) hx hb dX1_over_173 hl (by decide) rfl (fun ls hl => ?_)
                      refine lv_aload_n hx hb dX1_over_175 rfl (lv_at hl 6 rfl) ?_
                      refine va_get (D := D) (ci := 1) (v := .ref (a 11)) (C := RX1) (T := TX1) (N := 16) hx hb hts hi hown hK hP 0 rfl rfl 11 (by decide) (hts (.fieldLink RX1 41 "AssignmentHouseModel" "hours" "[I") (by decide +kernel)) (fun _ h9 => h9) rfl dX1_over_176 ?_
                      refine lv_iload hx hb dX1_over_179 (lv_at hl 11 rfl) ?_
                      refine ri_ald (j := q) hx hb hK hP 9 rfl (rfl) (by omega) (by decide) dX1_over_181 ?_
                      refine lv_iload hx hb dX1_over_182 (lv_at hl 2 rfl) ?_
                      refine lv_isub hx hb dX1_over_184 ?_
                      refine lv_istore (lv' := [(4, .int ((F 11 q) - (F 11 q))), (6, .int (y6 + (F 11 q))), (3, .int (y3 + (F 11 q))), (11, .int (F 11 q)), (10, .int (40 - y3)), (9, .int (40 - y3)), (8, .int (8 - y6)), (0, .ref (a 16)), (1, .int (nI one)), (2, .int ((F 10 one) / 7)), (5, .int (nI ((7 * (dayN F one / 7)) + i))), (7, .int (nI q))]) hx hb dX1_over_185 hl (by decide) rfl (fun ls hl => ?_)
                      refine lv_iinc (v := (nI (q + 1))) (lv' := [(7, .int (nI (q + 1))), (4, .int ((F 11 q) - (F 11 q))), (6, .int (y6 + (F 11 q))), (3, .int (y3 + (F 11 q))), (11, .int (F 11 q)), (10, .int (40 - y3)), (9, .int (40 - y3)), (8, .int (8 - y6)), (0, .ref (a 16)), (1, .int (nI one)), (2, .int ((F 10 one) / 7)), (5, .int (nI ((7 * (dayN F one / 7)) + i)))]) hx hb dX1_over_187 hl (k := 11) rfl (nI_1 q) (by decide) rfl (fun ls hl => ?_)
                      refine lv_goto (tgt := 38) hx hb dX1_over_190 (by decide) ?_
                      exact ih_38 (q + 1) _ _ _ ls (by omega) ((ov_t3 ⟨c_60, c_72, Or.inl c_83⟩ ey3 ey6 (by unfold ovIts; rw [if_pos (Int32.not_le.mp c_96), if_neg (Int32.not_lt.mpr c_120), if_pos (Int32.not_le.mp c_141)])).1) ((ov_t3 ⟨c_60, c_72, Or.inl c_83⟩ ey3 ey6 (by unfold ovIts; rw [if_pos (Int32.not_le.mp c_96), if_neg (Int32.not_lt.mpr c_120), if_pos (Int32.not_le.mp c_141)])).2.2) ((ov_t3 ⟨c_60, c_72, Or.inl c_83⟩ ey3 ey6 (by unfold ovIts; rw [if_pos (Int32.not_le.mp c_96), if_neg (Int32.not_lt.mpr c_120), if_pos (Int32.not_le.mp c_141)])).2.1) (lv_sub hl [8, 9, 10, 3, 1, 11, 2, 0] rfl)
                  · skip
                    refine lv_iload hx hb dX1_over_123 (lv_at hl 1 rfl) ?_
                    refine lv_goto (tgt := 130) hx hb dX1_over_125 (by decide) ?_
                    refine lv_istore (lv' := [(10, .int (8 - y6)), (9, .int (40 - y3)), (8, .int (8 - y6)), (0, .ref (a 16)), (1, .int (nI one)), (2, .int ((F 10 one) / 7)), (3, .int y3), (4, .int y4), (5, .int (nI ((7 * (dayN F one / 7)) + i))), (6, .int y6), (7, .int (nI q))]) hx hb dX1_over_130 hl (by decide) rfl (fun ls hl => ?_)
                    refine lv_aload_n hx hb dX1_over_132 rfl (lv_at hl 3 rfl) ?_
                    refine va_get (D := D) (ci := 1) (v := .ref (a 11)) (C := RX1) (T := TX1) (N := 16) hx hb hts hi hown hK hP 0 rfl rfl 11 (by decide) (hts (.fieldLink RX1 41 "AssignmentHouseModel" "hours" "[I") (by decide +kernel)) (fun _ h9 => h9) rfl dX1_over_133 ?_
                    refine lv_iload hx hb dX1_over_136 (lv_at hl 10 rfl) ?_
                    refine ri_ald (j := q) hx hb hK hP 9 rfl (rfl) (by omega) (by decide) dX1_over_138 ?_
                    refine lv_iload hx hb dX1_over_139 (lv_at hl 0 rfl) ?_
                    refine lv_icmp_ge (tgt := 154) hx hb dX1_over_141 (by decide) (fun c_141 => ?_) (fun c_141 => ?_)
                    · skip
                      refine lv_iload hx hb dX1_over_154 (lv_at hl 0 rfl) ?_
                      refine lv_istore (lv' := [(11, .int (8 - y6)), (10, .int (8 - y6)), (9, .int (40 - y3)), (8, .int (8 - y6)), (0, .ref (a 16)), (1, .int (nI one)), (2, .int ((F 10 one) / 7)), (3, .int y3), (4, .int y4), (5, .int (nI ((7 * (dayN F one / 7)) + i))), (6, .int y6), (7, .int (nI q))]) hx hb dX1_over_156 hl (by decide) rfl (fun ls hl => ?_)
                      refine lv_iload_n hx hb dX1_over_158 rfl (lv_at hl 7 rfl) ?_
                      refine lv_iload hx hb dX1_over_159 (lv_at hl 0 rfl) ?_
                      refine lv_iadd hx hb dX1_over_161 ?_
                      refine lv_istore_n (lv' := [(3, .int (y3 + (8 - y6))), (11, .int (8 - y6)), (10, .int (8 - y6)), (9, .int (40 - y3)), (8, .int (8 - y6)), (0, .ref (a 16)), (1, .int (nI one)), (2, .int ((F 10 one) / 7)), (4, .int y4), (5, .int (nI ((7 * (dayN F one / 7)) + i))), (6, .int y6), (7, .int (nI q))]) hx hb dX1_over_162 rfl hl (by decide) rfl (fun ls hl => ?_)
                      refine lv_iload hx hb dX1_over_163 (lv_at hl 10 rfl) ?_
                      refine lv_aload_n hx hb dX1_over_165 rfl (lv_at hl 5 rfl) ?_
                      refine va_get (D := D) (ci := 1) (v := .ref (a 11)) (C := RX1) (T := TX1) (N := 16) hx hb hts hi hown hK hP 0 rfl rfl 11 (by decide) (hts (.fieldLink RX1 41 "AssignmentHouseModel" "hours" "[I") (by decide +kernel)) (fun _ h9 => h9) rfl dX1_over_166 ?_
                      refine lv_iload hx hb dX1_over_169 (lv_at hl 11 rfl) ?_
                      refine ri_ald (j := q) hx hb hK hP 9 rfl (rfl) (by omega) (by decide) dX1_over_171 ?_
                      refine lv_iadd hx hb dX1_over_172 ?_
                      refine lv_istore (lv' := [(6, .int (y6 + (F 11 q))), (3, .int (y3 + (8 - y6))), (11, .int (8 - y6)), (10, .int (8 - y6)), (9, .int (40 - y3)), (8, .int (8 - y6)), (0, .ref (a 16)), (1, .int (nI one)), (2, .int ((F 10 one) / 7)), (4, .int y4), (5, .int (nI ((7 * (dayN F one / 7)) + i))), (7, .int (nI q))]) hx hb dX1_over_173 hl (by decide) rfl (fun ls hl => ?_)
                      refine lv_aload_n hx hb dX1_over_175 rfl (lv_at hl 6 rfl) ?_
                      refine va_get (D := D) (ci := 1) (v := .ref (a 11)) (C := RX1) (T := TX1) (N := 16) hx hb hts hi hown hK hP 0 rfl rfl 11 (by decide) (hts (.fieldLink RX1 41 "AssignmentHouseModel" "hours" "[I") (by decide +kernel)) (fun _ h9 => h9) rfl dX1_over_176 ?_
                      refine lv_iload hx hb dX1_over_179 (lv_at hl 11 rfl) ?_
                      refine ri_ald (j := q) hx hb hK hP 9 rfl (rfl) (by omega) (by decide) dX1_over_181 ?_
                      refine lv_iload hx hb dX1_over_182 (lv_at hl 2 rfl) ?_
                      refine lv_isub hx hb dX1_over_184 ?_
                      refine lv_istore (lv' := [(4, .int ((F 11 q) - (8 - y6))), (6, .int (y6 + (F 11 q))), (3, .int (y3 + (8 - y6))), (11, .int (8 - y6)), (10, .int (8 - y6)), (9, .int (40 - y3)), (8, .int (8 - y6)), (0, .ref (a 16)), (1, .int (nI one)), (2, .int ((F 10 one) / 7)), (5, .int (nI ((7 * (dayN F one / 7)) + i))), (7, .int (nI q))]) hx hb dX1_over_185 hl (by decide) rfl (fun ls hl => ?_)
                      refine lv_iinc (v := (nI (q + 1))) (lv' := [(7, .int (nI (q + 1))), (4, .int ((F 11 q) - (8 - y6))), (6, .int (y6 + (F 11 q))), (3, .int (y3 + (8 - y6))), (11, .int (8 - y6)), (10, .int (8 - y6)), (9, .int (40 - y3)), (8, .int (8 - y6)), (0, .ref (a 16)), (1, .int (nI one)), (2, .int ((F 10 one) / 7)), (5, .int (nI ((7 * (dayN F one / 7)) + i)))]) hx hb dX1_over_187 hl (k := 11) rfl (nI_1 q) (by decide) rfl (fun ls hl => ?_)
                      refine lv_goto (tgt := 38) hx hb dX1_over_190 (by decide) ?_
                      exact ih_38 (q + 1) _ _ _ ls (by omega) ((ov_t3 ⟨c_60, c_72, Or.inl c_83⟩ ey3 ey6 (by unfold ovIts; rw [if_pos (Int32.not_le.mp c_96), if_pos (Int32.not_le.mp c_120), if_neg (Int32.not_lt.mpr c_141)])).1) ((ov_t3 ⟨c_60, c_72, Or.inl c_83⟩ ey3 ey6 (by unfold ovIts; rw [if_pos (Int32.not_le.mp c_96), if_pos (Int32.not_le.mp c_120), if_neg (Int32.not_lt.mpr c_141)])).2.2) ((ov_t3 ⟨c_60, c_72, Or.inl c_83⟩ ey3 ey6 (by unfold ovIts; rw [if_pos (Int32.not_le.mp c_96), if_pos (Int32.not_le.mp c_120), if_neg (Int32.not_lt.mpr c_141)])).2.1) (lv_sub hl [8, 9, 10, 3, 1, 11, 2, 0] rfl)
                    · skip
                      refine lv_aload_n hx hb dX1_over_144 rfl (lv_at hl 3 rfl) ?_
                      refine va_get (D := D) (ci := 1) (v := .ref (a 11)) (C := RX1) (T := TX1) (N := 16) hx hb hts hi hown hK hP 0 rfl rfl 11 (by decide) (hts (.fieldLink RX1 41 "AssignmentHouseModel" "hours" "[I") (by decide +kernel)) (fun _ h9 => h9) rfl dX1_over_145 ?_
                      refine lv_iload hx hb dX1_over_148 (lv_at hl 10 rfl) ?_
                      refine ri_ald (j := q) hx hb hK hP 9 rfl (rfl) (by omega) (by decide) dX1_over_150 ?_
                      refine lv_goto (tgt := 156) hx hb dX1_over_151 (by decide) ?_
                      refine lv_istore (lv' := [(11, .int (F 11 q)), (10, .int (8 - y6)), (9, .int (40 - y3)), (8, .int (8 - y6)), (0, .ref (a 16)), (1, .int (nI one)), (2, .int ((F 10 one) / 7)), (3, .int y3), (4, .int y4), (5, .int (nI ((7 * (dayN F one / 7)) + i))), (6, .int y6), (7, .int (nI q))]) hx hb dX1_over_156 hl (by decide) rfl (fun ls hl => ?_)
                      refine lv_iload_n hx hb dX1_over_158 rfl (lv_at hl 7 rfl) ?_
                      refine lv_iload hx hb dX1_over_159 (lv_at hl 0 rfl) ?_
                      refine lv_iadd hx hb dX1_over_161 ?_
                      refine lv_istore_n (lv' := [(3, .int (y3 + (F 11 q))), (11, .int (F 11 q)), (10, .int (8 - y6)), (9, .int (40 - y3)), (8, .int (8 - y6)), (0, .ref (a 16)), (1, .int (nI one)), (2, .int ((F 10 one) / 7)), (4, .int y4), (5, .int (nI ((7 * (dayN F one / 7)) + i))), (6, .int y6), (7, .int (nI q))]) hx hb dX1_over_162 rfl hl (by decide) rfl (fun ls hl => ?_)
                      refine lv_iload hx hb dX1_over_163 (lv_at hl 10 rfl) ?_
                      refine lv_aload_n hx hb dX1_over_165 rfl (lv_at hl 5 rfl) ?_
                      refine va_get (D := D) (ci := 1) (v := .ref (a 11)) (C := RX1) (T := TX1) (N := 16) hx hb hts hi hown hK hP 0 rfl rfl 11 (by decide) (hts (.fieldLink RX1 41 "AssignmentHouseModel" "hours" "[I") (by decide +kernel)) (fun _ h9 => h9) rfl dX1_over_166 ?_
                      refine lv_iload hx hb dX1_over_169 (lv_at hl 11 rfl) ?_
                      refine ri_ald (j := q) hx hb hK hP 9 rfl (rfl) (by omega) (by decide) dX1_over_171 ?_
                      refine lv_iadd hx hb dX1_over_172 ?_
                      refine lv_istore (lv' := [(6, .int (y6 + (F 11 q))), (3, .int (y3 + (F 11 q))), (11, .int (F 11 q)), (10, .int (8 - y6)), (9, .int (40 - y3)), (8, .int (8 - y6)), (0, .ref (a 16)), (1, .int (nI one)), (2, .int ((F 10 one) / 7)), (4, .int y4), (5, .int (nI ((7 * (dayN F one / 7)) + i))), (7, .int (nI q))]) hx hb dX1_over_173 hl (by decide) rfl (fun ls hl => ?_)
                      refine lv_aload_n hx hb dX1_over_175 rfl (lv_at hl 6 rfl) ?_
                      refine va_get (D := D) (ci := 1) (v := .ref (a 11)) (C := RX1) (T := TX1) (N := 16) hx hb hts hi hown hK hP 0 rfl rfl 11 (by decide) (hts (.fieldLink RX1 41 "AssignmentHouseModel" "hours" "[I") (by decide +kernel)) (fun _ h9 => h9) rfl dX1_over_176 ?_
                      refine lv_iload hx hb dX1_over_179 (lv_at hl 11 rfl) ?_
                      refine ri_ald (j := q) hx hb hK hP 9 rfl (rfl) (by omega) (by decide) dX1_over_181 ?_
                      refine lv_iload hx hb dX1_over_182 (lv_at hl 2 rfl) ?_
                      refine lv_isub hx hb dX1_over_184 ?_
                      refine lv_istore (lv' := [(4, .int ((F 11 q) - (F 11 q))), (6, .int (y6 + (F 11 q))), (3, .int (y3 + (F 11 q))), (11, .int (F 11 q)), (10, .int (8 - y6)), (9, .int (40 - y3)), (8, .int (8 - y6)), (0, .ref (a 16)), (1, .int (nI one)), (2, .int ((F 10 one) / 7)), (5, .int (nI ((7 * (dayN F one / 7)) + i))), (7, .int (nI q))]) hx hb dX1_over_185 hl (by decide) rfl (fun ls hl => ?_)
                      refine lv_iinc (v := (nI (q + 1))) (lv' := [(7, .int (nI (q + 1))), (4, .int ((F 11 q) - (F 11 q))), (6, .int (y6 + (F 11 q))), (3, .int (y3 + (F 11 q))), (11, .int (F 11 q)), (10, .int (8 - y6)), (9, .int (40 - y3)), (8, .int (8 - y6)), (0, .ref (a 16)), (1, .int (nI one)), (2, .int ((F 10 one) / 7)), (5, .int (nI ((7 * (dayN F one / 7)) + i)))]) hx hb dX1_over_187 hl (k := 11) rfl (nI_1 q) (by decide) rfl (fun ls hl => ?_)
                      refine lv_goto (tgt := 38) hx hb dX1_over_190 (by decide) ?_
                      exact ih_38 (q + 1) _ _ _ ls (by omega) ((ov_t3 ⟨c_60, c_72, Or.inl c_83⟩ ey3 ey6 (by unfold ovIts; rw [if_pos (Int32.not_le.mp c_96), if_pos (Int32.not_le.mp c_120), if_pos (Int32.not_le.mp c_141)])).1) ((ov_t3 ⟨c_60, c_72, Or.inl c_83⟩ ey3 ey6 (by unfold ovIts; rw [if_pos (Int32.not_le.mp c_96), if_pos (Int32.not_le.mp c_120), if_pos (Int32.not_le.mp c_141)])).2.2) ((ov_t3 ⟨c_60, c_72, Or.inl c_83⟩ ey3 ey6 (by unfold ovIts; rw [if_pos (Int32.not_le.mp c_96), if_pos (Int32.not_le.mp c_120), if_pos (Int32.not_le.mp c_141)])).2.1) (lv_sub hl [8, 9, 10, 3, 1, 11, 2, 0] rfl)
              · skip
                refine lv_iload hx hb dX1_over_86 (lv_at hl 7 rfl) ?_
                refine lv_iload_n hx hb dX1_over_88 rfl (lv_at hl 1 rfl) ?_
                refine lv_icmp_gt (tgt := 187) hx hb dX1_over_89 (by decide) (fun c_89 => ?_) (fun c_89 => ?_)
                · skip
                  refine lv_iinc (v := (nI (q + 1))) (lv' := [(7, .int (nI (q + 1))), (0, .ref (a 16)), (1, .int (nI one)), (2, .int ((F 10 one) / 7)), (3, .int y3), (4, .int y4), (5, .int (nI ((7 * (dayN F one / 7)) + i))), (6, .int y6)]) hx hb dX1_over_187 hl (k := 7) rfl (nI_1 q) (by decide) rfl (fun ls hl => ?_)
                  refine lv_goto (tgt := 38) hx hb dX1_over_190 (by decide) ?_
                  exact ih_38 (q + 1) _ _ _ ls (by omega) ((ov_f3 (fun h => h.2.2.elim c_83 (fun z => absurd c_89 (Int32.not_lt.mpr z))) ey3 ey6 ey4).1) ((ov_f3 (fun h => h.2.2.elim c_83 (fun z => absurd c_89 (Int32.not_lt.mpr z))) ey3 ey6 ey4).2.2) ((ov_f3 (fun h => h.2.2.elim c_83 (fun z => absurd c_89 (Int32.not_lt.mpr z))) ey3 ey6 ey4).2.1) (lv_sub hl [1, 2, 3, 4, 5, 6, 7, 0] rfl)
                · skip
                  refine lv_iload hx hb dX1_over_92 (lv_at hl 6 rfl) ?_
                  refine lv_bipush (v := 8) hx hb dX1_over_94 (by decide) ?_
                  refine lv_icmp_ge (tgt := 107) hx hb dX1_over_96 (by decide) (fun c_96 => ?_) (fun c_96 => ?_)
                  · skip
                    refine lv_iconst (v := 0) hx hb dX1_over_107 (by decide) ?_
                    refine lv_istore (lv' := [(8, .int 0), (0, .ref (a 16)), (1, .int (nI one)), (2, .int ((F 10 one) / 7)), (3, .int y3), (4, .int y4), (5, .int (nI ((7 * (dayN F one / 7)) + i))), (6, .int y6), (7, .int (nI q))]) hx hb dX1_over_108 hl (by decide) rfl (fun ls hl => ?_)
                    refine lv_bipush (v := 40) hx hb dX1_over_110 (by decide) ?_
                    refine lv_iload_n hx hb dX1_over_112 rfl (lv_at hl 4 rfl) ?_
                    refine lv_isub hx hb dX1_over_113 ?_
                    refine lv_istore (lv' := [(9, .int (40 - y3)), (8, .int 0), (0, .ref (a 16)), (1, .int (nI one)), (2, .int ((F 10 one) / 7)), (3, .int y3), (4, .int y4), (5, .int (nI ((7 * (dayN F one / 7)) + i))), (6, .int y6), (7, .int (nI q))]) hx hb dX1_over_114 hl (by decide) rfl (fun ls hl => ?_)
                    refine lv_iload hx hb dX1_over_116 (lv_at hl 1 rfl) ?_
                    refine lv_iload hx hb dX1_over_118 (lv_at hl 0 rfl) ?_
                    refine lv_icmp_ge (tgt := 128) hx hb dX1_over_120 (by decide) (fun c_120 => ?_) (fun c_120 => ?_)
                    · skip
                      refine lv_iload hx hb dX1_over_128 (lv_at hl 0 rfl) ?_
                      refine lv_istore (lv' := [(10, .int (40 - y3)), (9, .int (40 - y3)), (8, .int 0), (0, .ref (a 16)), (1, .int (nI one)), (2, .int ((F 10 one) / 7)), (3, .int y3), (4, .int y4), (5, .int (nI ((7 * (dayN F one / 7)) + i))), (6, .int y6), (7, .int (nI q))]) hx hb dX1_over_130 hl (by decide) rfl (fun ls hl => ?_)
                      refine lv_aload_n hx hb dX1_over_132 rfl (lv_at hl 3 rfl) ?_
                      refine va_get (D := D) (ci := 1) (v := .ref (a 11)) (C := RX1) (T := TX1) (N := 16) hx hb hts hi hown hK hP 0 rfl rfl 11 (by decide) (hts (.fieldLink RX1 41 "AssignmentHouseModel" "hours" "[I") (by decide +kernel)) (fun _ h9 => h9) rfl dX1_over_133 ?_
                      refine lv_iload hx hb dX1_over_136 (lv_at hl 10 rfl) ?_
                      refine ri_ald (j := q) hx hb hK hP 9 rfl (rfl) (by omega) (by decide) dX1_over_138 ?_
                      refine lv_iload hx hb dX1_over_139 (lv_at hl 0 rfl) ?_
                      refine lv_icmp_ge (tgt := 154) hx hb dX1_over_141 (by decide) (fun c_141 => ?_) (fun c_141 => ?_)
                      · skip
                        refine lv_iload hx hb dX1_over_154 (lv_at hl 0 rfl) ?_
                        refine lv_istore (lv' := [(11, .int (40 - y3)), (10, .int (40 - y3)), (9, .int (40 - y3)), (8, .int 0), (0, .ref (a 16)), (1, .int (nI one)), (2, .int ((F 10 one) / 7)), (3, .int y3), (4, .int y4), (5, .int (nI ((7 * (dayN F one / 7)) + i))), (6, .int y6), (7, .int (nI q))]) hx hb dX1_over_156 hl (by decide) rfl (fun ls hl => ?_)
                        refine lv_iload_n hx hb dX1_over_158 rfl (lv_at hl 7 rfl) ?_
                        refine lv_iload hx hb dX1_over_159 (lv_at hl 0 rfl) ?_
                        refine lv_iadd hx hb dX1_over_161 ?_
                        refine lv_istore_n (lv' := [(3, .int (y3 + (40 - y3))), (11, .int (40 - y3)), (10, .int (40 - y3)), (9, .int (40 - y3)), (8, .int 0), (0, .ref (a 16)), (1, .int (nI one)), (2, .int ((F 10 one) / 7)), (4, .int y4), (5, .int (nI ((7 * (dayN F one / 7)) + i))), (6, .int y6), (7, .int (nI q))]) hx hb dX1_over_162 rfl hl (by decide) rfl (fun ls hl => ?_)
                        refine lv_iload hx hb dX1_over_163 (lv_at hl 10 rfl) ?_
                        refine lv_aload_n hx hb dX1_over_165 rfl (lv_at hl 5 rfl) ?_
                        refine va_get (D := D) (ci := 1) (v := .ref (a 11)) (C := RX1) (T := TX1) (N := 16) hx hb hts hi hown hK hP 0 rfl rfl 11 (by decide) (hts (.fieldLink RX1 41 "AssignmentHouseModel" "hours" "[I") (by decide +kernel)) (fun _ h9 => h9) rfl dX1_over_166 ?_
                        refine lv_iload hx hb dX1_over_169 (lv_at hl 11 rfl) ?_
                        refine ri_ald (j := q) hx hb hK hP 9 rfl (rfl) (by omega) (by decide) dX1_over_171 ?_
                        refine lv_iadd hx hb dX1_over_172 ?_
                        refine lv_istore (lv' := [(6, .int (y6 + (F 11 q))), (3, .int (y3 + (40 - y3))), (11, .int (40 - y3)), (10, .int (40 - y3)), (9, .int (40 - y3)), (8, .int 0), (0, .ref (a 16)), (1, .int (nI one)), (2, .int ((F 10 one) / 7)), (4, .int y4), (5, .int (nI ((7 * (dayN F one / 7)) + i))), (7, .int (nI q))]) hx hb dX1_over_173 hl (by decide) rfl (fun ls hl => ?_)
                        refine lv_aload_n hx hb dX1_over_175 rfl (lv_at hl 6 rfl) ?_
                        refine va_get (D := D) (ci := 1) (v := .ref (a 11)) (C := RX1) (T := TX1) (N := 16) hx hb hts hi hown hK hP 0 rfl rfl 11 (by decide) (hts (.fieldLink RX1 41 "AssignmentHouseModel" "hours" "[I") (by decide +kernel)) (fun _ h9 => h9) rfl dX1_over_176 ?_
                        refine lv_iload hx hb dX1_over_179 (lv_at hl 11 rfl) ?_
                        refine ri_ald (j := q) hx hb hK hP 9 rfl (rfl) (by omega) (by decide) dX1_over_181 ?_
                        refine lv_iload hx hb dX1_over_182 (lv_at hl 2 rfl) ?_
                        refine lv_isub hx hb dX1_over_184 ?_
                        refine lv_istore (lv' := [(4, .int ((F 11 q) - (40 - y3))), (6, .int (y6 + (F 11 q))), (3, .int (y3 + (40 - y3))), (11, .int (40 - y3)), (10, .int (40 - y3)), (9, .int (40 - y3)), (8, .int 0), (0, .ref (a 16)), (1, .int (nI one)), (2, .int ((F 10 one) / 7)), (5, .int (nI ((7 * (dayN F one / 7)) + i))), (7, .int (nI q))]) hx hb dX1_over_185 hl (by decide) rfl (fun ls hl => ?_)
                        refine lv_iinc (v := (nI (q + 1))) (lv' := [(7, .int (nI (q + 1))), (4, .int ((F 11 q) - (40 - y3))), (6, .int (y6 + (F 11 q))), (3, .int (y3 + (40 - y3))), (11, .int (40 - y3)), (10, .int (40 - y3)), (9, .int (40 - y3)), (8, .int 0), (0, .ref (a 16)), (1, .int (nI one)), (2, .int ((F 10 one) / 7)), (5, .int (nI ((7 * (dayN F one / 7)) + i)))]) hx hb dX1_over_187 hl (k := 11) rfl (nI_1 q) (by decide) rfl (fun ls hl => ?_)
                        refine lv_goto (tgt := 38) hx hb dX1_over_190 (by decide) ?_
                        exact ih_38 (q + 1) _ _ _ ls (by omega) ((ov_t3 ⟨c_60, c_72, Or.inr (Int32.not_lt.mp c_89)⟩ ey3 ey6 (by unfold ovIts; rw [if_neg (Int32.not_lt.mpr c_96), if_neg (Int32.not_lt.mpr c_120), if_neg (Int32.not_lt.mpr c_141)])).1) ((ov_t3 ⟨c_60, c_72, Or.inr (Int32.not_lt.mp c_89)⟩ ey3 ey6 (by unfold ovIts; rw [if_neg (Int32.not_lt.mpr c_96), if_neg (Int32.not_lt.mpr c_120), if_neg (Int32.not_lt.mpr c_141)])).2.2) ((ov_t3 ⟨c_60, c_72, Or.inr (Int32.not_lt.mp c_89)⟩ ey3 ey6 (by unfold ovIts; rw [if_neg (Int32.not_lt.mpr c_96), if_neg (Int32.not_lt.mpr c_120), if_neg (Int32.not_lt.mpr c_141)])).2.1) (lv_sub hl [8, 9, 10, 3, 1, 11, 2, 0] rfl)
                      · skip
                        refine lv_aload_n hx hb dX1_over_144 rfl (lv_at hl 3 rfl) ?_
                        refine va_get (D := D) (ci := 1) (v := .ref (a 11)) (C := RX1) (T := TX1) (N := 16) hx hb hts hi hown hK hP 0 rfl rfl 11 (by decide) (hts (.fieldLink RX1 41 "AssignmentHouseModel" "hours" "[I") (by decide +kernel)) (fun _ h9 => h9) rfl dX1_over_145 ?_
                        refine lv_iload hx hb dX1_over_148 (lv_at hl 10 rfl) ?_
                        refine ri_ald (j := q) hx hb hK hP 9 rfl (rfl) (by omega) (by decide) dX1_over_150 ?_
                        refine lv_goto (tgt := 156) hx hb dX1_over_151 (by decide) ?_
                        refine lv_istore (lv' := [(11, .int (F 11 q)), (10, .int (40 - y3)), (9, .int (40 - y3)), (8, .int 0), (0, .ref (a 16)), (1, .int (nI one)), (2, .int ((F 10 one) / 7)), (3, .int y3), (4, .int y4), (5, .int (nI ((7 * (dayN F one / 7)) + i))), (6, .int y6), (7, .int (nI q))]) hx hb dX1_over_156 hl (by decide) rfl (fun ls hl => ?_)
                        refine lv_iload_n hx hb dX1_over_158 rfl (lv_at hl 7 rfl) ?_
                        refine lv_iload hx hb dX1_over_159 (lv_at hl 0 rfl) ?_
                        refine lv_iadd hx hb dX1_over_161 ?_
                        refine lv_istore_n (lv' := [(3, .int (y3 + (F 11 q))), (11, .int (F 11 q)), (10, .int (40 - y3)), (9, .int (40 - y3)), (8, .int 0), (0, .ref (a 16)), (1, .int (nI one)), (2, .int ((F 10 one) / 7)), (4, .int y4), (5, .int (nI ((7 * (dayN F one / 7)) + i))), (6, .int y6), (7, .int (nI q))]) hx hb dX1_over_162 rfl hl (by decide) rfl (fun ls hl => ?_)
                        refine lv_iload hx hb dX1_over_163 (lv_at hl 10 rfl) ?_
                        refine lv_aload_n hx hb dX1_over_165 rfl (lv_at hl 5 rfl) ?_
                        refine va_get (D := D) (ci := 1) (v := .ref (a 11)) (C := RX1) (T := TX1) (N := 16) hx hb hts hi hown hK hP 0 rfl rfl 11 (by decide) (hts (.fieldLink RX1 41 "AssignmentHouseModel" "hours" "[I") (by decide +kernel)) (fun _ h9 => h9) rfl dX1_over_166 ?_
                        refine lv_iload hx hb dX1_over_169 (lv_at hl 11 rfl) ?_
                        refine ri_ald (j := q) hx hb hK hP 9 rfl (rfl) (by omega) (by decide) dX1_over_171 ?_
                        refine lv_iadd hx hb dX1_over_172 ?_
                        refine lv_istore (lv' := [(6, .int (y6 + (F 11 q))), (3, .int (y3 + (F 11 q))), (11, .int (F 11 q)), (10, .int (40 - y3)), (9, .int (40 - y3)), (8, .int 0), (0, .ref (a 16)), (1, .int (nI one)), (2, .int ((F 10 one) / 7)), (4, .int y4), (5, .int (nI ((7 * (dayN F one / 7)) + i))), (7, .int (nI q))]) hx hb dX1_over_173 hl (by decide) rfl (fun ls hl => ?_)
                        refine lv_aload_n hx hb dX1_over_175 rfl (lv_at hl 6 rfl) ?_
                        refine va_get (D := D) (ci := 1) (v := .ref (a 11)) (C := RX1) (T := TX1) (N := 16) hx hb hts hi hown hK hP 0 rfl rfl 11 (by decide) (hts (.fieldLink RX1 41 "AssignmentHouseModel" "hours" "[I") (by decide +kernel)) (fun _ h9 => h9) rfl dX1_over_176 ?_
                        refine lv_iload hx hb dX1_over_179 (lv_at hl 11 rfl) ?_
                        refine ri_ald (j := q) hx hb hK hP 9 rfl (rfl) (by omega) (by decide) dX1_over_181 ?_
                        refine lv_iload hx hb dX1_over_182 (lv_at hl 2 rfl) ?_
                        refine lv_isub hx hb dX1_over_184 ?_
                        refine lv_istore (lv' := [(4, .int ((F 11 q) - (F 11 q))), (6, .int (y6 + (F 11 q))), (3, .int (y3 + (F 11 q))), (11, .int (F 11 q)), (10, .int (40 - y3)), (9, .int (40 - y3)), (8, .int 0), (0, .ref (a 16)), (1, .int (nI one)), (2, .int ((F 10 one) / 7)), (5, .int (nI ((7 * (dayN F one / 7)) + i))), (7, .int (nI q))]) hx hb dX1_over_185 hl (by decide) rfl (fun ls hl => ?_)
                        refine lv_iinc (v := (nI (q + 1))) (lv' := [(7, .int (nI (q + 1))), (4, .int ((F 11 q) - (F 11 q))), (6, .int (y6 + (F 11 q))), (3, .int (y3 + (F 11 q))), (11, .int (F 11 q)), (10, .int (40 - y3)), (9, .int (40 - y3)), (8, .int 0), (0, .ref (a 16)), (1, .int (nI one)), (2, .int ((F 10 one) / 7)), (5, .int (nI ((7 * (dayN F one / 7)) + i)))]) hx hb dX1_over_187 hl (k := 11) rfl (nI_1 q) (by decide) rfl (fun ls hl => ?_)
                        refine lv_goto (tgt := 38) hx hb dX1_over_190 (by decide) ?_
                        exact ih_38 (q + 1) _ _ _ ls (by omega) ((ov_t3 ⟨c_60, c_72, Or.inr (Int32.not_lt.mp c_89)⟩ ey3 ey6 (by unfold ovIts; rw [if_neg (Int32.not_lt.mpr c_96), if_neg (Int32.not_lt.mpr c_120), if_pos (Int32.not_le.mp c_141)])).1) ((ov_t3 ⟨c_60, c_72, Or.inr (Int32.not_lt.mp c_89)⟩ ey3 ey6 (by unfold ovIts; rw [if_neg (Int32.not_lt.mpr c_96), if_neg (Int32.not_lt.mpr c_120), if_pos (Int32.not_le.mp c_141)])).2.2) ((ov_t3 ⟨c_60, c_72, Or.inr (Int32.not_lt.mp c_89)⟩ ey3 ey6 (by unfold ovIts; rw [if_neg (Int32.not_lt.mpr c_96), if_neg (Int32.not_lt.mpr c_120), if_pos (Int32.not_le.mp c_141)])).2.1) (lv_sub hl [8, 9, 10, 3, 1, 11, 2, 0] rfl)
                    · skip
                      refine lv_iload hx hb dX1_over_123 (lv_at hl 1 rfl) ?_
                      refine lv_goto (tgt := 130) hx hb dX1_over_125 (by decide) ?_
                      refine lv_istore (lv' := [(10, .int 0), (9, .int (40 - y3)), (8, .int 0), (0, .ref (a 16)), (1, .int (nI one)), (2, .int ((F 10 one) / 7)), (3, .int y3), (4, .int y4), (5, .int (nI ((7 * (dayN F one / 7)) + i))), (6, .int y6), (7, .int (nI q))]) hx hb dX1_over_130 hl (by decide) rfl (fun ls hl => ?_)
                      refine lv_aload_n hx hb dX1_over_132 rfl (lv_at hl 3 rfl) ?_
                      refine va_get (D := D) (ci := 1) (v := .ref (a 11)) (C := RX1) (T := TX1) (N := 16) hx hb hts hi hown hK hP 0 rfl rfl 11 (by decide) (hts (.fieldLink RX1 41 "AssignmentHouseModel" "hours" "[I") (by decide +kernel)) (fun _ h9 => h9) rfl dX1_over_133 ?_
                      refine lv_iload hx hb dX1_over_136 (lv_at hl 10 rfl) ?_
                      refine ri_ald (j := q) hx hb hK hP 9 rfl (rfl) (by omega) (by decide) dX1_over_138 ?_
                      refine lv_iload hx hb dX1_over_139 (lv_at hl 0 rfl) ?_
                      refine lv_icmp_ge (tgt := 154) hx hb dX1_over_141 (by decide) (fun c_141 => ?_) (fun c_141 => ?_)
                      · skip
                        refine lv_iload hx hb dX1_over_154 (lv_at hl 0 rfl) ?_
                        refine lv_istore (lv' := [(11, .int 0), (10, .int 0), (9, .int (40 - y3)), (8, .int 0), (0, .ref (a 16)), (1, .int (nI one)), (2, .int ((F 10 one) / 7)), (3, .int y3), (4, .int y4), (5, .int (nI ((7 * (dayN F one / 7)) + i))), (6, .int y6), (7, .int (nI q))]) hx hb dX1_over_156 hl (by decide) rfl (fun ls hl => ?_)
                        refine lv_iload_n hx hb dX1_over_158 rfl (lv_at hl 7 rfl) ?_
                        refine lv_iload hx hb dX1_over_159 (lv_at hl 0 rfl) ?_
                        refine lv_iadd hx hb dX1_over_161 ?_
                        refine lv_istore_n (lv' := [(3, .int (y3 + 0)), (11, .int 0), (10, .int 0), (9, .int (40 - y3)), (8, .int 0), (0, .ref (a 16)), (1, .int (nI one)), (2, .int ((F 10 one) / 7)), (4, .int y4), (5, .int (nI ((7 * (dayN F one / 7)) + i))), (6, .int y6), (7, .int (nI q))]) hx hb dX1_over_162 rfl hl (by decide) rfl (fun ls hl => ?_)
                        refine lv_iload hx hb dX1_over_163 (lv_at hl 10 rfl) ?_
                        refine lv_aload_n hx hb dX1_over_165 rfl (lv_at hl 5 rfl) ?_
                        refine va_get (D := D) (ci := 1) (v := .ref (a 11)) (C := RX1) (T := TX1) (N := 16) hx hb hts hi hown hK hP 0 rfl rfl 11 (by decide) (hts (.fieldLink RX1 41 "AssignmentHouseModel" "hours" "[I") (by decide +kernel)) (fun _ h9 => h9) rfl dX1_over_166 ?_
                        refine lv_iload hx hb dX1_over_169 (lv_at hl 11 rfl) ?_
                        refine ri_ald (j := q) hx hb hK hP 9 rfl (rfl) (by omega) (by decide) dX1_over_171 ?_
                        refine lv_iadd hx hb dX1_over_172 ?_
                        refine lv_istore (lv' := [(6, .int (y6 + (F 11 q))), (3, .int (y3 + 0)), (11, .int 0), (10, .int 0), (9, .int (40 - y3)), (8, .int 0), (0, .ref (a 16)), (1, .int (nI one)), (2, .int ((F 10 one) / 7)), (4, .int y4), (5, .int (nI ((7 * (dayN F one / 7)) + i))), (7, .int (nI q))]) hx hb dX1_over_173 hl (by decide) rfl (fun ls hl => ?_)
                        refine lv_aload_n hx hb dX1_over_175 rfl (lv_at hl 6 rfl) ?_
                        refine va_get (D := D) (ci := 1) (v := .ref (a 11)) (C := RX1) (T := TX1) (N := 16) hx hb hts hi hown hK hP 0 rfl rfl 11 (by decide) (hts (.fieldLink RX1 41 "AssignmentHouseModel" "hours" "[I") (by decide +kernel)) (fun _ h9 => h9) rfl dX1_over_176 ?_
                        refine lv_iload hx hb dX1_over_179 (lv_at hl 11 rfl) ?_
                        refine ri_ald (j := q) hx hb hK hP 9 rfl (rfl) (by omega) (by decide) dX1_over_181 ?_
                        refine lv_iload hx hb dX1_over_182 (lv_at hl 2 rfl) ?_
                        refine lv_isub hx hb dX1_over_184 ?_
                        refine lv_istore (lv' := [(4, .int ((F 11 q) - 0)), (6, .int (y6 + (F 11 q))), (3, .int (y3 + 0)), (11, .int 0), (10, .int 0), (9, .int (40 - y3)), (8, .int 0), (0, .ref (a 16)), (1, .int (nI one)), (2, .int ((F 10 one) / 7)), (5, .int (nI ((7 * (dayN F one / 7)) + i))), (7, .int (nI q))]) hx hb dX1_over_185 hl (by decide) rfl (fun ls hl => ?_)
                        refine lv_iinc (v := (nI (q + 1))) (lv' := [(7, .int (nI (q + 1))), (4, .int ((F 11 q) - 0)), (6, .int (y6 + (F 11 q))), (3, .int (y3 + 0)), (11, .int 0), (10, .int 0), (9, .int (40 - y3)), (8, .int 0), (0, .ref (a 16)), (1, .int (nI one)), (2, .int ((F 10 one) / 7)), (5, .int (nI ((7 * (dayN F one / 7)) + i)))]) hx hb dX1_over_187 hl (k := 11) rfl (nI_1 q) (by decide) rfl (fun ls hl => ?_)
                        refine lv_goto (tgt := 38) hx hb dX1_over_190 (by decide) ?_
                        exact ih_38 (q + 1) _ _ _ ls (by omega) ((ov_t3 ⟨c_60, c_72, Or.inr (Int32.not_lt.mp c_89)⟩ ey3 ey6 (by unfold ovIts; rw [if_neg (Int32.not_lt.mpr c_96), if_pos (Int32.not_le.mp c_120), if_neg (Int32.not_lt.mpr c_141)])).1) ((ov_t3 ⟨c_60, c_72, Or.inr (Int32.not_lt.mp c_89)⟩ ey3 ey6 (by unfold ovIts; rw [if_neg (Int32.not_lt.mpr c_96), if_pos (Int32.not_le.mp c_120), if_neg (Int32.not_lt.mpr c_141)])).2.2) ((ov_t3 ⟨c_60, c_72, Or.inr (Int32.not_lt.mp c_89)⟩ ey3 ey6 (by unfold ovIts; rw [if_neg (Int32.not_lt.mpr c_96), if_pos (Int32.not_le.mp c_120), if_neg (Int32.not_lt.mpr c_141)])).2.1) (lv_sub hl [8, 9, 10, 3, 1, 11, 2, 0] rfl)
                      · skip
                        refine lv_aload_n hx hb dX1_over_144 rfl (lv_at hl 3 rfl) ?_
                        refine va_get (D := D) (ci := 1) (v := .ref (a 11)) (C := RX1) (T := TX1) (N := 16) hx hb hts hi hown hK hP 0 rfl rfl 11 (by decide) (hts (.fieldLink RX1 41 "AssignmentHouseModel" "hours" "[I") (by decide +kernel)) (fun _ h9 => h9) rfl dX1_over_145 ?_
                        refine lv_iload hx hb dX1_over_148 (lv_at hl 10 rfl) ?_
                        refine ri_ald (j := q) hx hb hK hP 9 rfl (rfl) (by omega) (by decide) dX1_over_150 ?_
                        refine lv_goto (tgt := 156) hx hb dX1_over_151 (by decide) ?_
                        refine lv_istore (lv' := [(11, .int (F 11 q)), (10, .int 0), (9, .int (40 - y3)), (8, .int 0), (0, .ref (a 16)), (1, .int (nI one)), (2, .int ((F 10 one) / 7)), (3, .int y3), (4, .int y4), (5, .int (nI ((7 * (dayN F one / 7)) + i))), (6, .int y6), (7, .int (nI q))]) hx hb dX1_over_156 hl (by decide) rfl (fun ls hl => ?_)
                        refine lv_iload_n hx hb dX1_over_158 rfl (lv_at hl 7 rfl) ?_
                        refine lv_iload hx hb dX1_over_159 (lv_at hl 0 rfl) ?_
                        refine lv_iadd hx hb dX1_over_161 ?_
                        refine lv_istore_n (lv' := [(3, .int (y3 + (F 11 q))), (11, .int (F 11 q)), (10, .int 0), (9, .int (40 - y3)), (8, .int 0), (0, .ref (a 16)), (1, .int (nI one)), (2, .int ((F 10 one) / 7)), (4, .int y4), (5, .int (nI ((7 * (dayN F one / 7)) + i))), (6, .int y6), (7, .int (nI q))]) hx hb dX1_over_162 rfl hl (by decide) rfl (fun ls hl => ?_)
                        refine lv_iload hx hb dX1_over_163 (lv_at hl 10 rfl) ?_
                        refine lv_aload_n hx hb dX1_over_165 rfl (lv_at hl 5 rfl) ?_
                        refine va_get (D := D) (ci := 1) (v := .ref (a 11)) (C := RX1) (T := TX1) (N := 16) hx hb hts hi hown hK hP 0 rfl rfl 11 (by decide) (hts (.fieldLink RX1 41 "AssignmentHouseModel" "hours" "[I") (by decide +kernel)) (fun _ h9 => h9) rfl dX1_over_166 ?_
                        refine lv_iload hx hb dX1_over_169 (lv_at hl 11 rfl) ?_
                        refine ri_ald (j := q) hx hb hK hP 9 rfl (rfl) (by omega) (by decide) dX1_over_171 ?_
                        refine lv_iadd hx hb dX1_over_172 ?_
                        refine lv_istore (lv' := [(6, .int (y6 + (F 11 q))), (3, .int (y3 + (F 11 q))), (11, .int (F 11 q)), (10, .int 0), (9, .int (40 - y3)), (8, .int 0), (0, .ref (a 16)), (1, .int (nI one)), (2, .int ((F 10 one) / 7)), (4, .int y4), (5, .int (nI ((7 * (dayN F one / 7)) + i))), (7, .int (nI q))]) hx hb dX1_over_173 hl (by decide) rfl (fun ls hl => ?_)
                        refine lv_aload_n hx hb dX1_over_175 rfl (lv_at hl 6 rfl) ?_
                        refine va_get (D := D) (ci := 1) (v := .ref (a 11)) (C := RX1) (T := TX1) (N := 16) hx hb hts hi hown hK hP 0 rfl rfl 11 (by decide) (hts (.fieldLink RX1 41 "AssignmentHouseModel" "hours" "[I") (by decide +kernel)) (fun _ h9 => h9) rfl dX1_over_176 ?_
                        refine lv_iload hx hb dX1_over_179 (lv_at hl 11 rfl) ?_
                        refine ri_ald (j := q) hx hb hK hP 9 rfl (rfl) (by omega) (by decide) dX1_over_181 ?_
                        refine lv_iload hx hb dX1_over_182 (lv_at hl 2 rfl) ?_
                        refine lv_isub hx hb dX1_over_184 ?_
                        refine lv_istore (lv' := [(4, .int ((F 11 q) - (F 11 q))), (6, .int (y6 + (F 11 q))), (3, .int (y3 + (F 11 q))), (11, .int (F 11 q)), (10, .int 0), (9, .int (40 - y3)), (8, .int 0), (0, .ref (a 16)), (1, .int (nI one)), (2, .int ((F 10 one) / 7)), (5, .int (nI ((7 * (dayN F one / 7)) + i))), (7, .int (nI q))]) hx hb dX1_over_185 hl (by decide) rfl (fun ls hl => ?_)
                        refine lv_iinc (v := (nI (q + 1))) (lv' := [(7, .int (nI (q + 1))), (4, .int ((F 11 q) - (F 11 q))), (6, .int (y6 + (F 11 q))), (3, .int (y3 + (F 11 q))), (11, .int (F 11 q)), (10, .int 0), (9, .int (40 - y3)), (8, .int 0), (0, .ref (a 16)), (1, .int (nI one)), (2, .int ((F 10 one) / 7)), (5, .int (nI ((7 * (dayN F one / 7)) + i)))]) hx hb dX1_over_187 hl (k := 11) rfl (nI_1 q) (by decide) rfl (fun ls hl => ?_)
                        refine lv_goto (tgt := 38) hx hb dX1_over_190 (by decide) ?_
                        exact ih_38 (q + 1) _ _ _ ls (by omega) ((ov_t3 ⟨c_60, c_72, Or.inr (Int32.not_lt.mp c_89)⟩ ey3 ey6 (by unfold ovIts; rw [if_neg (Int32.not_lt.mpr c_96), if_pos (Int32.not_le.mp c_120), if_pos (Int32.not_le.mp c_141)])).1) ((ov_t3 ⟨c_60, c_72, Or.inr (Int32.not_lt.mp c_89)⟩ ey3 ey6 (by unfold ovIts; rw [if_neg (Int32.not_lt.mpr c_96), if_pos (Int32.not_le.mp c_120), if_pos (Int32.not_le.mp c_141)])).2.2) ((ov_t3 ⟨c_60, c_72, Or.inr (Int32.not_lt.mp c_89)⟩ ey3 ey6 (by unfold ovIts; rw [if_neg (Int32.not_lt.mpr c_96), if_pos (Int32.not_le.mp c_120), if_pos (Int32.not_le.mp c_141)])).2.1) (lv_sub hl [8, 9, 10, 3, 1, 11, 2, 0] rfl)
                  · skip
                    refine lv_bipush (v := 8) hx hb dX1_over_99 (by decide) ?_
                    refine lv_iload hx hb dX1_over_101 (lv_at hl 6 rfl) ?_
                    refine lv_isub hx hb dX1_over_103 ?_
                    refine lv_goto (tgt := 108) hx hb dX1_over_104 (by decide) ?_
                    refine lv_istore (lv' := [(8, .int (8 - y6)), (0, .ref (a 16)), (1, .int (nI one)), (2, .int ((F 10 one) / 7)), (3, .int y3), (4, .int y4), (5, .int (nI ((7 * (dayN F one / 7)) + i))), (6, .int y6), (7, .int (nI q))]) hx hb dX1_over_108 hl (by decide) rfl (fun ls hl => ?_)
                    refine lv_bipush (v := 40) hx hb dX1_over_110 (by decide) ?_
                    refine lv_iload_n hx hb dX1_over_112 rfl (lv_at hl 4 rfl) ?_
                    refine lv_isub hx hb dX1_over_113 ?_
                    refine lv_istore (lv' := [(9, .int (40 - y3)), (8, .int (8 - y6)), (0, .ref (a 16)), (1, .int (nI one)), (2, .int ((F 10 one) / 7)), (3, .int y3), (4, .int y4), (5, .int (nI ((7 * (dayN F one / 7)) + i))), (6, .int y6), (7, .int (nI q))]) hx hb dX1_over_114 hl (by decide) rfl (fun ls hl => ?_)
                    refine lv_iload hx hb dX1_over_116 (lv_at hl 1 rfl) ?_
                    refine lv_iload hx hb dX1_over_118 (lv_at hl 0 rfl) ?_
                    refine lv_icmp_ge (tgt := 128) hx hb dX1_over_120 (by decide) (fun c_120 => ?_) (fun c_120 => ?_)
                    · skip
                      refine lv_iload hx hb dX1_over_128 (lv_at hl 0 rfl) ?_
                      refine lv_istore (lv' := [(10, .int (40 - y3)), (9, .int (40 - y3)), (8, .int (8 - y6)), (0, .ref (a 16)), (1, .int (nI one)), (2, .int ((F 10 one) / 7)), (3, .int y3), (4, .int y4), (5, .int (nI ((7 * (dayN F one / 7)) + i))), (6, .int y6), (7, .int (nI q))]) hx hb dX1_over_130 hl (by decide) rfl (fun ls hl => ?_)
                      refine lv_aload_n hx hb dX1_over_132 rfl (lv_at hl 3 rfl) ?_
                      refine va_get (D := D) (ci := 1) (v := .ref (a 11)) (C := RX1) (T := TX1) (N := 16) hx hb hts hi hown hK hP 0 rfl rfl 11 (by decide) (hts (.fieldLink RX1 41 "AssignmentHouseModel" "hours" "[I") (by decide +kernel)) (fun _ h9 => h9) rfl dX1_over_133 ?_
                      refine lv_iload hx hb dX1_over_136 (lv_at hl 10 rfl) ?_
                      refine ri_ald (j := q) hx hb hK hP 9 rfl (rfl) (by omega) (by decide) dX1_over_138 ?_
                      refine lv_iload hx hb dX1_over_139 (lv_at hl 0 rfl) ?_
                      refine lv_icmp_ge (tgt := 154) hx hb dX1_over_141 (by decide) (fun c_141 => ?_) (fun c_141 => ?_)
                      · skip
                        refine lv_iload hx hb dX1_over_154 (lv_at hl 0 rfl) ?_
                        refine lv_istore (lv' := [(11, .int (40 - y3)), (10, .int (40 - y3)), (9, .int (40 - y3)), (8, .int (8 - y6)), (0, .ref (a 16)), (1, .int (nI one)), (2, .int ((F 10 one) / 7)), (3, .int y3), (4, .int y4), (5, .int (nI ((7 * (dayN F one / 7)) + i))), (6, .int y6), (7, .int (nI q))]) hx hb dX1_over_156 hl (by decide) rfl (fun ls hl => ?_)
                        refine lv_iload_n hx hb dX1_over_158 rfl (lv_at hl 7 rfl) ?_
                        refine lv_iload hx hb dX1_over_159 (lv_at hl 0 rfl) ?_
                        refine lv_iadd hx hb dX1_over_161 ?_
                        refine lv_istore_n (lv' := [(3, .int (y3 + (40 - y3))), (11, .int (40 - y3)), (10, .int (40 - y3)), (9, .int (40 - y3)), (8, .int (8 - y6)), (0, .ref (a 16)), (1, .int (nI one)), (2, .int ((F 10 one) / 7)), (4, .int y4), (5, .int (nI ((7 * (dayN F one / 7)) + i))), (6, .int y6), (7, .int (nI q))]) hx hb dX1_over_162 rfl hl (by decide) rfl (fun ls hl => ?_)
                        refine lv_iload hx hb dX1_over_163 (lv_at hl 10 rfl) ?_
                        refine lv_aload_n hx hb dX1_over_165 rfl (lv_at hl 5 rfl) ?_
                        refine va_get (D := D) (ci := 1) (v := .ref (a 11)) (C := RX1) (T := TX1) (N := 16) hx hb hts hi hown hK hP 0 rfl rfl 11 (by decide) (hts (.fieldLink RX1 41 "AssignmentHouseModel" "hours" "[I") (by decide +kernel)) (fun _ h9 => h9) rfl dX1_over_166 ?_
                        refine lv_iload hx hb dX1_over_169 (lv_at hl 11 rfl) ?_
                        refine ri_ald (j := q) hx hb hK hP 9 rfl (rfl) (by omega) (by decide) dX1_over_171 ?_
                        refine lv_iadd hx hb dX1_over_172 ?_
                        refine lv_istore (lv' := [(6, .int (y6 + (F 11 q))), (3, .int (y3 + (40 - y3))), (11, .int (40 - y3)), (10, .int (40 - y3)), (9, .int (40 - y3)), (8, .int (8 - y6)), (0, .ref (a 16)), (1, .int (nI one)), (2, .int ((F 10 one) / 7)), (4, .int y4), (5, .int (nI ((7 * (dayN F one / 7)) + i))), (7, .int (nI q))]) hx hb dX1_over_173 hl (by decide) rfl (fun ls hl => ?_)
                        refine lv_aload_n hx hb dX1_over_175 rfl (lv_at hl 6 rfl) ?_
                        refine va_get (D := D) (ci := 1) (v := .ref (a 11)) (C := RX1) (T := TX1) (N := 16) hx hb hts hi hown hK hP 0 rfl rfl 11 (by decide) (hts (.fieldLink RX1 41 "AssignmentHouseModel" "hours" "[I") (by decide +kernel)) (fun _ h9 => h9) rfl dX1_over_176 ?_
                        refine lv_iload hx hb dX1_over_179 (lv_at hl 11 rfl) ?_
                        refine ri_ald (j := q) hx hb hK hP 9 rfl (rfl) (by omega) (by decide) dX1_over_181 ?_
                        refine lv_iload hx hb dX1_over_182 (lv_at hl 2 rfl) ?_
                        refine lv_isub hx hb dX1_over_184 ?_
                        refine lv_istore (lv' := [(4, .int ((F 11 q) - (40 - y3))), (6, .int (y6 + (F 11 q))), (3, .int (y3 + (40 - y3))), (11, .int (40 - y3)), (10, .int (40 - y3)), (9, .int (40 - y3)), (8, .int (8 - y6)), (0, .ref (a 16)), (1, .int (nI one)), (2, .int ((F 10 one) / 7)), (5, .int (nI ((7 * (dayN F one / 7)) + i))), (7, .int (nI q))]) hx hb dX1_over_185 hl (by decide) rfl (fun ls hl => ?_)
                        refine lv_iinc (v := (nI (q + 1))) (lv' := [(7, .int (nI (q + 1))), (4, .int ((F 11 q) - (40 - y3))), (6, .int (y6 + (F 11 q))), (3, .int (y3 + (40 - y3))), (11, .int (40 - y3)), (10, .int (40 - y3)), (9, .int (40 - y3)), (8, .int (8 - y6)), (0, .ref (a 16)), (1, .int (nI one)), (2, .int ((F 10 one) / 7)), (5, .int (nI ((7 * (dayN F one / 7)) + i)))]) hx hb dX1_over_187 hl (k := 11) rfl (nI_1 q) (by decide) rfl (fun ls hl => ?_)
                        refine lv_goto (tgt := 38) hx hb dX1_over_190 (by decide) ?_
                        exact ih_38 (q + 1) _ _ _ ls (by omega) ((ov_t3 ⟨c_60, c_72, Or.inr (Int32.not_lt.mp c_89)⟩ ey3 ey6 (by unfold ovIts; rw [if_pos (Int32.not_le.mp c_96), if_neg (Int32.not_lt.mpr c_120), if_neg (Int32.not_lt.mpr c_141)])).1) ((ov_t3 ⟨c_60, c_72, Or.inr (Int32.not_lt.mp c_89)⟩ ey3 ey6 (by unfold ovIts; rw [if_pos (Int32.not_le.mp c_96), if_neg (Int32.not_lt.mpr c_120), if_neg (Int32.not_lt.mpr c_141)])).2.2) ((ov_t3 ⟨c_60, c_72, Or.inr (Int32.not_lt.mp c_89)⟩ ey3 ey6 (by unfold ovIts; rw [if_pos (Int32.not_le.mp c_96), if_neg (Int32.not_lt.mpr c_120), if_neg (Int32.not_lt.mpr c_141)])).2.1) (lv_sub hl [8, 9, 10, 3, 1, 11, 2, 0] rfl)
                      · skip
                        refine lv_aload_n hx hb dX1_over_144 rfl (lv_at hl 3 rfl) ?_
                        refine va_get (D := D) (ci := 1) (v := .ref (a 11)) (C := RX1) (T := TX1) (N := 16) hx hb hts hi hown hK hP 0 rfl rfl 11 (by decide) (hts (.fieldLink RX1 41 "AssignmentHouseModel" "hours" "[I") (by decide +kernel)) (fun _ h9 => h9) rfl dX1_over_145 ?_
                        refine lv_iload hx hb dX1_over_148 (lv_at hl 10 rfl) ?_
                        refine ri_ald (j := q) hx hb hK hP 9 rfl (rfl) (by omega) (by decide) dX1_over_150 ?_
                        refine lv_goto (tgt := 156) hx hb dX1_over_151 (by decide) ?_
                        refine lv_istore (lv' := [(11, .int (F 11 q)), (10, .int (40 - y3)), (9, .int (40 - y3)), (8, .int (8 - y6)), (0, .ref (a 16)), (1, .int (nI one)), (2, .int ((F 10 one) / 7)), (3, .int y3), (4, .int y4), (5, .int (nI ((7 * (dayN F one / 7)) + i))), (6, .int y6), (7, .int (nI q))]) hx hb dX1_over_156 hl (by decide) rfl (fun ls hl => ?_)
                        refine lv_iload_n hx hb dX1_over_158 rfl (lv_at hl 7 rfl) ?_
                        refine lv_iload hx hb dX1_over_159 (lv_at hl 0 rfl) ?_
                        refine lv_iadd hx hb dX1_over_161 ?_
                        refine lv_istore_n (lv' := [(3, .int (y3 + (F 11 q))), (11, .int (F 11 q)), (10, .int (40 - y3)), (9, .int (40 - y3)), (8, .int (8 - y6)), (0, .ref (a 16)), (1, .int (nI one)), (2, .int ((F 10 one) / 7)), (4, .int y4), (5, .int (nI ((7 * (dayN F one / 7)) + i))), (6, .int y6), (7, .int (nI q))]) hx hb dX1_over_162 rfl hl (by decide) rfl (fun ls hl => ?_)
                        refine lv_iload hx hb dX1_over_163 (lv_at hl 10 rfl) ?_
                        refine lv_aload_n hx hb dX1_over_165 rfl (lv_at hl 5 rfl) ?_
                        refine va_get (D := D) (ci := 1) (v := .ref (a 11)) (C := RX1) (T := TX1) (N := 16) hx hb hts hi hown hK hP 0 rfl rfl 11 (by decide) (hts (.fieldLink RX1 41 "AssignmentHouseModel" "hours" "[I") (by decide +kernel)) (fun _ h9 => h9) rfl dX1_over_166 ?_
                        refine lv_iload hx hb dX1_over_169 (lv_at hl 11 rfl) ?_
                        refine ri_ald (j := q) hx hb hK hP 9 rfl (rfl) (by omega) (by decide) dX1_over_171 ?_
                        refine lv_iadd hx hb dX1_over_172 ?_
                        refine lv_istore (lv' := [(6, .int (y6 + (F 11 q))), (3, .int (y3 + (F 11 q))), (11, .int (F 11 q)), (10, .int (40 - y3)), (9, .int (40 - y3)), (8, .int (8 - y6)), (0, .ref (a 16)), (1, .int (nI one)), (2, .int ((F 10 one) / 7)), (4, .int y4), (5, .int (nI ((7 * (dayN F one / 7)) + i))), (7, .int (nI q))]) hx hb dX1_over_173 hl (by decide) rfl (fun ls hl => ?_)
                        refine lv_aload_n hx hb dX1_over_175 rfl (lv_at hl 6 rfl) ?_
                        refine va_get (D := D) (ci := 1) (v := .ref (a 11)) (C := RX1) (T := TX1) (N := 16) hx hb hts hi hown hK hP 0 rfl rfl 11 (by decide) (hts (.fieldLink RX1 41 "AssignmentHouseModel" "hours" "[I") (by decide +kernel)) (fun _ h9 => h9) rfl dX1_over_176 ?_
                        refine lv_iload hx hb dX1_over_179 (lv_at hl 11 rfl) ?_
                        refine ri_ald (j := q) hx hb hK hP 9 rfl (rfl) (by omega) (by decide) dX1_over_181 ?_
                        refine lv_iload hx hb dX1_over_182 (lv_at hl 2 rfl) ?_
                        refine lv_isub hx hb dX1_over_184 ?_
                        refine lv_istore (lv' := [(4, .int ((F 11 q) - (F 11 q))), (6, .int (y6 + (F 11 q))), (3, .int (y3 + (F 11 q))), (11, .int (F 11 q)), (10, .int (40 - y3)), (9, .int (40 - y3)), (8, .int (8 - y6)), (0, .ref (a 16)), (1, .int (nI one)), (2, .int ((F 10 one) / 7)), (5, .int (nI ((7 * (dayN F one / 7)) + i))), (7, .int (nI q))]) hx hb dX1_over_185 hl (by decide) rfl (fun ls hl => ?_)
                        refine lv_iinc (v := (nI (q + 1))) (lv' := [(7, .int (nI (q + 1))), (4, .int ((F 11 q) - (F 11 q))), (6, .int (y6 + (F 11 q))), (3, .int (y3 + (F 11 q))), (11, .int (F 11 q)), (10, .int (40 - y3)), (9, .int (40 - y3)), (8, .int (8 - y6)), (0, .ref (a 16)), (1, .int (nI one)), (2, .int ((F 10 one) / 7)), (5, .int (nI ((7 * (dayN F one / 7)) + i)))]) hx hb dX1_over_187 hl (k := 11) rfl (nI_1 q) (by decide) rfl (fun ls hl => ?_)
                        refine lv_goto (tgt := 38) hx hb dX1_over_190 (by decide) ?_
                        exact ih_38 (q + 1) _ _ _ ls (by omega) ((ov_t3 ⟨c_60, c_72, Or.inr (Int32.not_lt.mp c_89)⟩ ey3 ey6 (by unfold ovIts; rw [if_pos (Int32.not_le.mp c_96), if_neg (Int32.not_lt.mpr c_120), if_pos (Int32.not_le.mp c_141)])).1) ((ov_t3 ⟨c_60, c_72, Or.inr (Int32.not_lt.mp c_89)⟩ ey3 ey6 (by unfold ovIts; rw [if_pos (Int32.not_le.mp c_96), if_neg (Int32.not_lt.mpr c_120), if_pos (Int32.not_le.mp c_141)])).2.2) ((ov_t3 ⟨c_60, c_72, Or.inr (Int32.not_lt.mp c_89)⟩ ey3 ey6 (by unfold ovIts; rw [if_pos (Int32.not_le.mp c_96), if_neg (Int32.not_lt.mpr c_120), if_pos (Int32.not_le.mp c_141)])).2.1) (lv_sub hl [8, 9, 10, 3, 1, 11, 2, 0] rfl)
                    · skip
                      refine lv_iload hx hb dX1_over_123 (lv_at hl 1 rfl) ?_
                      refine lv_goto (tgt := 130) hx hb dX1_over_125 (by decide) ?_
                      refine lv_istore (lv' := [(10, .int (8 - y6)), (9, .int (40 - y3)), (8, .int (8 - y6)), (0, .ref (a 16)), (1, .int (nI one)), (2, .int ((F 10 one) / 7)), (3, .int y3), (4, .int y4), (5, .int (nI ((7 * (dayN F one / 7)) + i))), (6, .int y6), (7, .int (nI q))]) hx hb dX1_over_130 hl (by decide) rfl (fun ls hl => ?_)
                      refine lv_aload_n hx hb dX1_over_132 rfl (lv_at hl 3 rfl) ?_
                      refine va_get (D := D) (ci := 1) (v := .ref (a 11)) (C := RX1) (T := TX1) (N := 16) hx hb hts hi hown hK hP 0 rfl rfl 11 (by decide) (hts (.fieldLink RX1 41 "AssignmentHouseModel" "hours" "[I") (by decide +kernel)) (fun _ h9 => h9) rfl dX1_over_133 ?_
                      refine lv_iload hx hb dX1_over_136 (lv_at hl 10 rfl) ?_
                      refine ri_ald (j := q) hx hb hK hP 9 rfl (rfl) (by omega) (by decide) dX1_over_138 ?_
                      refine lv_iload hx hb dX1_over_139 (lv_at hl 0 rfl) ?_
                      refine lv_icmp_ge (tgt := 154) hx hb dX1_over_141 (by decide) (fun c_141 => ?_) (fun c_141 => ?_)
                      · skip
                        refine lv_iload hx hb dX1_over_154 (lv_at hl 0 rfl) ?_
                        refine lv_istore (lv' := [(11, .int (8 - y6)), (10, .int (8 - y6)), (9, .int (40 - y3)), (8, .int (8 - y6)), (0, .ref (a 16)), (1, .int (nI one)), (2, .int ((F 10 one) / 7)), (3, .int y3), (4, .int y4), (5, .int (nI ((7 * (dayN F one / 7)) + i))), (6, .int y6), (7, .int (nI q))]) hx hb dX1_over_156 hl (by decide) rfl (fun ls hl => ?_)
                        refine lv_iload_n hx hb dX1_over_158 rfl (lv_at hl 7 rfl) ?_
                        refine lv_iload hx hb dX1_over_159 (lv_at hl 0 rfl) ?_
                        refine lv_iadd hx hb dX1_over_161 ?_
                        refine lv_istore_n (lv' := [(3, .int (y3 + (8 - y6))), (11, .int (8 - y6)), (10, .int (8 - y6)), (9, .int (40 - y3)), (8, .int (8 - y6)), (0, .ref (a 16)), (1, .int (nI one)), (2, .int ((F 10 one) / 7)), (4, .int y4), (5, .int (nI ((7 * (dayN F one / 7)) + i))), (6, .int y6), (7, .int (nI q))]) hx hb dX1_over_162 rfl hl (by decide) rfl (fun ls hl => ?_)
                        refine lv_iload hx hb dX1_over_163 (lv_at hl 10 rfl) ?_
                        refine lv_aload_n hx hb dX1_over_165 rfl (lv_at hl 5 rfl) ?_
                        refine va_get (D := D) (ci := 1) (v := .ref (a 11)) (C := RX1) (T := TX1) (N := 16) hx hb hts hi hown hK hP 0 rfl rfl 11 (by decide) (hts (.fieldLink RX1 41 "AssignmentHouseModel" "hours" "[I") (by decide +kernel)) (fun _ h9 => h9) rfl dX1_over_166 ?_
                        refine lv_iload hx hb dX1_over_169 (lv_at hl 11 rfl) ?_
                        refine ri_ald (j := q) hx hb hK hP 9 rfl (rfl) (by omega) (by decide) dX1_over_171 ?_
                        refine lv_iadd hx hb dX1_over_172 ?_
                        refine lv_istore (lv' := [(6, .int (y6 + (F 11 q))), (3, .int (y3 + (8 - y6))), (11, .int (8 - y6)), (10, .int (8 - y6)), (9, .int (40 - y3)), (8, .int (8 - y6)), (0, .ref (a 16)), (1, .int (nI one)), (2, .int ((F 10 one) / 7)), (4, .int y4), (5, .int (nI ((7 * (dayN F one / 7)) + i))), (7, .int (nI q))]) hx hb dX1_over_173 hl (by decide) rfl (fun ls hl => ?_)
                        refine lv_aload_n hx hb dX1_over_175 rfl (lv_at hl 6 rfl) ?_
                        refine va_get (D := D) (ci := 1) (v := .ref (a 11)) (C := RX1) (T := TX1) (N := 16) hx hb hts hi hown hK hP 0 rfl rfl 11 (by decide) (hts (.fieldLink RX1 41 "AssignmentHouseModel" "hours" "[I") (by decide +kernel)) (fun _ h9 => h9) rfl dX1_over_176 ?_
                        refine lv_iload hx hb dX1_over_179 (lv_at hl 11 rfl) ?_
                        refine ri_ald (j := q) hx hb hK hP 9 rfl (rfl) (by omega) (by decide) dX1_over_181 ?_
                        refine lv_iload hx hb dX1_over_182 (lv_at hl 2 rfl) ?_
                        refine lv_isub hx hb dX1_over_184 ?_
                        refine lv_istore (lv' := [(4, .int ((F 11 q) - (8 - y6))), (6, .int (y6 + (F 11 q))), (3, .int (y3 + (8 - y6))), (11, .int (8 - y6)), (10, .int (8 - y6)), (9, .int (40 - y3)), (8, .int (8 - y6)), (0, .ref (a 16)), (1, .int (nI one)), (2, .int ((F 10 one) / 7)), (5, .int (nI ((7 * (dayN F one / 7)) + i))), (7, .int (nI q))]) hx hb dX1_over_185 hl (by decide) rfl (fun ls hl => ?_)
                        refine lv_iinc (v := (nI (q + 1))) (lv' := [(7, .int (nI (q + 1))), (4, .int ((F 11 q) - (8 - y6))), (6, .int (y6 + (F 11 q))), (3, .int (y3 + (8 - y6))), (11, .int (8 - y6)), (10, .int (8 - y6)), (9, .int (40 - y3)), (8, .int (8 - y6)), (0, .ref (a 16)), (1, .int (nI one)), (2, .int ((F 10 one) / 7)), (5, .int (nI ((7 * (dayN F one / 7)) + i)))]) hx hb dX1_over_187 hl (k := 11) rfl (nI_1 q) (by decide) rfl (fun ls hl => ?_)
                        refine lv_goto (tgt := 38) hx hb dX1_over_190 (by decide) ?_
                        exact ih_38 (q + 1) _ _ _ ls (by omega) ((ov_t3 ⟨c_60, c_72, Or.inr (Int32.not_lt.mp c_89)⟩ ey3 ey6 (by unfold ovIts; rw [if_pos (Int32.not_le.mp c_96), if_pos (Int32.not_le.mp c_120), if_neg (Int32.not_lt.mpr c_141)])).1) ((ov_t3 ⟨c_60, c_72, Or.inr (Int32.not_lt.mp c_89)⟩ ey3 ey6 (by unfold ovIts; rw [if_pos (Int32.not_le.mp c_96), if_pos (Int32.not_le.mp c_120), if_neg (Int32.not_lt.mpr c_141)])).2.2) ((ov_t3 ⟨c_60, c_72, Or.inr (Int32.not_lt.mp c_89)⟩ ey3 ey6 (by unfold ovIts; rw [if_pos (Int32.not_le.mp c_96), if_pos (Int32.not_le.mp c_120), if_neg (Int32.not_lt.mpr c_141)])).2.1) (lv_sub hl [8, 9, 10, 3, 1, 11, 2, 0] rfl)
                      · skip
                        refine lv_aload_n hx hb dX1_over_144 rfl (lv_at hl 3 rfl) ?_
                        refine va_get (D := D) (ci := 1) (v := .ref (a 11)) (C := RX1) (T := TX1) (N := 16) hx hb hts hi hown hK hP 0 rfl rfl 11 (by decide) (hts (.fieldLink RX1 41 "AssignmentHouseModel" "hours" "[I") (by decide +kernel)) (fun _ h9 => h9) rfl dX1_over_145 ?_
                        refine lv_iload hx hb dX1_over_148 (lv_at hl 10 rfl) ?_
                        refine ri_ald (j := q) hx hb hK hP 9 rfl (rfl) (by omega) (by decide) dX1_over_150 ?_
                        refine lv_goto (tgt := 156) hx hb dX1_over_151 (by decide) ?_
                        refine lv_istore (lv' := [(11, .int (F 11 q)), (10, .int (8 - y6)), (9, .int (40 - y3)), (8, .int (8 - y6)), (0, .ref (a 16)), (1, .int (nI one)), (2, .int ((F 10 one) / 7)), (3, .int y3), (4, .int y4), (5, .int (nI ((7 * (dayN F one / 7)) + i))), (6, .int y6), (7, .int (nI q))]) hx hb dX1_over_156 hl (by decide) rfl (fun ls hl => ?_)
                        refine lv_iload_n hx hb dX1_over_158 rfl (lv_at hl 7 rfl) ?_
                        refine lv_iload hx hb dX1_over_159 (lv_at hl 0 rfl) ?_
                        refine lv_iadd hx hb dX1_over_161 ?_
                        refine lv_istore_n (lv' := [(3, .int (y3 + (F 11 q))), (11, .int (F 11 q)), (10, .int (8 - y6)), (9, .int (40 - y3)), (8, .int (8 - y6)), (0, .ref (a 16)), (1, .int (nI one)), (2, .int ((F 10 one) / 7)), (4, .int y4), (5, .int (nI ((7 * (dayN F one / 7)) + i))), (6, .int y6), (7, .int (nI q))]) hx hb dX1_over_162 rfl hl (by decide) rfl (fun ls hl => ?_)
                        refine lv_iload hx hb dX1_over_163 (lv_at hl 10 rfl) ?_
                        refine lv_aload_n hx hb dX1_over_165 rfl (lv_at hl 5 rfl) ?_
                        refine va_get (D := D) (ci := 1) (v := .ref (a 11)) (C := RX1) (T := TX1) (N := 16) hx hb hts hi hown hK hP 0 rfl rfl 11 (by decide) (hts (.fieldLink RX1 41 "AssignmentHouseModel" "hours" "[I") (by decide +kernel)) (fun _ h9 => h9) rfl dX1_over_166 ?_
                        refine lv_iload hx hb dX1_over_169 (lv_at hl 11 rfl) ?_
                        refine ri_ald (j := q) hx hb hK hP 9 rfl (rfl) (by omega) (by decide) dX1_over_171 ?_
                        refine lv_iadd hx hb dX1_over_172 ?_
                        refine lv_istore (lv' := [(6, .int (y6 + (F 11 q))), (3, .int (y3 + (F 11 q))), (11, .int (F 11 q)), (10, .int (8 - y6)), (9, .int (40 - y3)), (8, .int (8 - y6)), (0, .ref (a 16)), (1, .int (nI one)), (2, .int ((F 10 one) / 7)), (4, .int y4), (5, .int (nI ((7 * (dayN F one / 7)) + i))), (7, .int (nI q))]) hx hb dX1_over_173 hl (by decide) rfl (fun ls hl => ?_)
                        refine lv_aload_n hx hb dX1_over_175 rfl (lv_at hl 6 rfl) ?_
                        refine va_get (D := D) (ci := 1) (v := .ref (a 11)) (C := RX1) (T := TX1) (N := 16) hx hb hts hi hown hK hP 0 rfl rfl 11 (by decide) (hts (.fieldLink RX1 41 "AssignmentHouseModel" "hours" "[I") (by decide +kernel)) (fun _ h9 => h9) rfl dX1_over_176 ?_
                        refine lv_iload hx hb dX1_over_179 (lv_at hl 11 rfl) ?_
                        refine ri_ald (j := q) hx hb hK hP 9 rfl (rfl) (by omega) (by decide) dX1_over_181 ?_
                        refine lv_iload hx hb dX1_over_182 (lv_at hl 2 rfl) ?_
                        refine lv_isub hx hb dX1_over_184 ?_
                        refine lv_istore (lv' := [(4, .int ((F 11 q) - (F 11 q))), (6, .int (y6 + (F 11 q))), (3, .int (y3 + (F 11 q))), (11, .int (F 11 q)), (10, .int (8 - y6)), (9, .int (40 - y3)), (8, .int (8 - y6)), (0, .ref (a 16)), (1, .int (nI one)), (2, .int ((F 10 one) / 7)), (5, .int (nI ((7 * (dayN F one / 7)) + i))), (7, .int (nI q))]) hx hb dX1_over_185 hl (by decide) rfl (fun ls hl => ?_)
                        refine lv_iinc (v := (nI (q + 1))) (lv' := [(7, .int (nI (q + 1))), (4, .int ((F 11 q) - (F 11 q))), (6, .int (y6 + (F 11 q))), (3, .int (y3 + (F 11 q))), (11, .int (F 11 q)), (10, .int (8 - y6)), (9, .int (40 - y3)), (8, .int (8 - y6)), (0, .ref (a 16)), (1, .int (nI one)), (2, .int ((F 10 one) / 7)), (5, .int (nI ((7 * (dayN F one / 7)) + i)))]) hx hb dX1_over_187 hl (k := 11) rfl (nI_1 q) (by decide) rfl (fun ls hl => ?_)
                        refine lv_goto (tgt := 38) hx hb dX1_over_190 (by decide) ?_
                        exact ih_38 (q + 1) _ _ _ ls (by omega) ((ov_t3 ⟨c_60, c_72, Or.inr (Int32.not_lt.mp c_89)⟩ ey3 ey6 (by unfold ovIts; rw [if_pos (Int32.not_le.mp c_96), if_pos (Int32.not_le.mp c_120), if_pos (Int32.not_le.mp c_141)])).1) ((ov_t3 ⟨c_60, c_72, Or.inr (Int32.not_lt.mp c_89)⟩ ey3 ey6 (by unfold ovIts; rw [if_pos (Int32.not_le.mp c_96), if_pos (Int32.not_le.mp c_120), if_pos (Int32.not_le.mp c_141)])).2.2) ((ov_t3 ⟨c_60, c_72, Or.inr (Int32.not_lt.mp c_89)⟩ ey3 ey6 (by unfold ovIts; rw [if_pos (Int32.not_le.mp c_96), if_pos (Int32.not_le.mp c_120), if_pos (Int32.not_le.mp c_141)])).2.1) (lv_sub hl [8, 9, 10, 3, 1, 11, 2, 0] rfl)
      exact K_38 N 0 _ _ _ ls (by omega) (ex3) (ex4) (rfl) (lv_sub hl [2, 3, 4, 5, 6, 7, 1, 0] rfl)
  exact K_21 (dayN F one % 7 + 1) 0 _ _ ls (by omega) (rfl) (rfl) (lv_sub hl [4, 5, 3, 2, 1, 0] rfl)

set_option maxHeartbeats 4000000 in
set_option maxRecDepth 100000 in
theorem c_X1_isWorked (l : Launch) (D : va_G) (cA : ClassId) (a : Nat → Nat) (F : Nat → Nat → Int32) (th : Int32) (N : Nat) (hW : wf F N) (w t k : Int32) : Rd l D cA (wM a cA F th) yX1_isWorked wsX1_isWorked rmX1_isWorked [.ref (a 16), .int w, .int t, .int k] (bI (wkd F w t k N)) := by
  refine Rd.ofz (cc := cX1_isWorked) (maxL := 6) (by decide) rfl (Nat.le_of_ble_eq_true rfl) ?_
  intro p e s m args below meth c ls Q hx hb hts hown hml hK hP hl hend
  have hown : s.vm.findClass RX1 = some m.cls := hown
  have hi : ∀ w ∈ wsX10, w ∈ wsX1_isWorked := by decide +kernel
  have hl : lv_has ls 6 [(0, .ref (a 16)), (1, .int w), (2, .int t), (3, .int k)] := hl
  have hN : N ≤ 80 := hW.n
  have hc : F 7 0 = nI N := hW.c
  refine lv_iconst (v := 0) hx hb dX1_isWorked_0 (by decide) ?_
  refine lv_istore (lv' := [(4, .int 0), (0, .ref (a 16)), (1, .int w), (2, .int t), (3, .int k)]) hx hb dX1_isWorked_1 hl (by decide) rfl (fun ls hl => ?_)
  refine lv_iconst (v := 0) hx hb dX1_isWorked_3 (by decide) ?_
  refine lv_istore (lv' := [(5, .int 0), (4, .int 0), (0, .ref (a 16)), (1, .int w), (2, .int t), (3, .int k)]) hx hb dX1_isWorked_4 hl (by decide) rfl (fun ls hl => ?_)
  have K_6 : ∀ (n i : Nat) (x4 : Int32) (ls : Array Slot), i + n = N → x4 = bI (wkd F w t k i) → lv_has ls 6 [(0, .ref (a 16)), (1, .int w), (2, .int t), (3, .int k), (4, .int x4), (5, .int (nI i))] → W p l e rmX1_isWorked s m args below meth c s.heap [] 0 0 Q (F0 m 6 ls []) := by
    intro n
    induction n with
    | zero =>
      intro i x4 ls hin_6 ex4 hl
      have hiN : i = N := by omega
      refine lv_iload hx hb dX1_isWorked_6 (lv_at hl 5 rfl) ?_
      refine lv_aload_n hx hb dX1_isWorked_8 rfl (lv_at hl 0 rfl) ?_
      refine va_get (D := D) (ci := 1) (v := .int (F 7 0)) (C := RX1) (T := TX1) (N := 16) hx hb hts hi hown hK hP 0 rfl rfl 7 (by decide) (hts (.fieldLink RX1 60 "AssignmentHouseModel" "shifts" "I") (by decide +kernel)) (fun _ h9 => h9) rfl dX1_isWorked_9 ?_
      refine lv_icmp_ge (tgt := 79) hx hb dX1_isWorked_12 (by decide) (fun c_12 => ?_) (fun c_12 => (absurd (((br_ge hc (by omega) (by omega : i ≤ N)).mpr hiN)) c_12 : False).elim)
      refine lv_iload hx hb dX1_isWorked_79 (lv_at hl 4 rfl) ?_
      exact hend 81 ls _ dX1_isWorked_81 (by rw [ex4, hiN]) (bI_01 ex4)
    | succ n ih_6 =>
      intro i x4 ls hin_6 ex4 hl
      have hiN : i < N := by omega
      refine lv_iload hx hb dX1_isWorked_6 (lv_at hl 5 rfl) ?_
      refine lv_aload_n hx hb dX1_isWorked_8 rfl (lv_at hl 0 rfl) ?_
      refine va_get (D := D) (ci := 1) (v := .int (F 7 0)) (C := RX1) (T := TX1) (N := 16) hx hb hts hi hown hK hP 0 rfl rfl 7 (by decide) (hts (.fieldLink RX1 60 "AssignmentHouseModel" "shifts" "I") (by decide +kernel)) (fun _ h9 => h9) rfl dX1_isWorked_9 ?_
      refine lv_icmp_ge (tgt := 79) hx hb dX1_isWorked_12 (by decide) (fun c_12 => (absurd (((br_ge hc (by omega) (by omega : i ≤ N)).mp c_12)) (by omega) : False).elim) (fun c_12 => ?_)
      refine lv_iload hx hb dX1_isWorked_15 (lv_at hl 4 rfl) ?_
      refine lv_if_ne (tgt := 66) hx hb dX1_isWorked_17 (by decide) (fun c_17 => ?_) (fun c_17 => ?_)
      · skip
        refine lv_iconst (v := 1) hx hb dX1_isWorked_66 (by decide) ?_
        refine lv_goto (tgt := 71) hx hb dX1_isWorked_67 (by decide) ?_
        refine lv_istore (lv' := [(4, .int 1), (0, .ref (a 16)), (1, .int w), (2, .int t), (3, .int k), (5, .int (nI i))]) hx hb dX1_isWorked_71 hl (by decide) rfl (fun ls hl => ?_)
        refine lv_iinc (v := (nI (i + 1))) (lv' := [(5, .int (nI (i + 1))), (4, .int 1), (0, .ref (a 16)), (1, .int w), (2, .int t), (3, .int k)]) hx hb dX1_isWorked_73 hl (k := 5) rfl (nI_1 i) (by decide) rfl (fun ls hl => ?_)
        refine lv_goto (tgt := 6) hx hb dX1_isWorked_76 (by decide) ?_
        exact ih_6 (i + 1) _ ls (by omega) (wk_t (bI_t ex4 c_17)) (lv_sub hl [2, 3, 4, 5, 1, 0] rfl)
      · skip
        refine lv_aload_n hx hb dX1_isWorked_20 rfl (lv_at hl 0 rfl) ?_
        refine va_get (D := D) (ci := 1) (v := .ref (a 8)) (C := RX1) (T := TX1) (N := 16) hx hb hts hi hown hK hP 0 rfl rfl 8 (by decide) (hts (.fieldLink RX1 32 "AssignmentHouseModel" "workers" "[I") (by decide +kernel)) (fun _ h9 => h9) rfl dX1_isWorked_21 ?_
        refine lv_iload hx hb dX1_isWorked_24 (lv_at hl 5 rfl) ?_
        refine ri_ald (j := i) hx hb hK hP 6 rfl (rfl) (by omega) (by decide) dX1_isWorked_26 ?_
        refine lv_iload_n hx hb dX1_isWorked_27 rfl (lv_at hl 1 rfl) ?_
        refine lv_icmp_ne (tgt := 70) hx hb dX1_isWorked_28 (by decide) (fun c_28 => ?_) (fun c_28 => ?_)
        · skip
          refine lv_iconst (v := 0) hx hb dX1_isWorked_70 (by decide) ?_
          refine lv_istore (lv' := [(4, .int 0), (0, .ref (a 16)), (1, .int w), (2, .int t), (3, .int k), (5, .int (nI i))]) hx hb dX1_isWorked_71 hl (by decide) rfl (fun ls hl => ?_)
          refine lv_iinc (v := (nI (i + 1))) (lv' := [(5, .int (nI (i + 1))), (4, .int 0), (0, .ref (a 16)), (1, .int w), (2, .int t), (3, .int k)]) hx hb dX1_isWorked_73 hl (k := 5) rfl (nI_1 i) (by decide) rfl (fun ls hl => ?_)
          refine lv_goto (tgt := 6) hx hb dX1_isWorked_76 (by decide) ?_
          exact ih_6 (i + 1) _ ls (by omega) (wk_n (bI_f ex4 c_17) (fun h => c_28 h.1)) (lv_sub hl [2, 3, 4, 5, 1, 0] rfl)
        · skip
          refine lv_aload_n hx hb dX1_isWorked_31 rfl (lv_at hl 0 rfl) ?_
          refine va_get (D := D) (ci := 1) (v := .ref (a 9)) (C := RX1) (T := TX1) (N := 16) hx hb hts hi hown hK hP 0 rfl rfl 9 (by decide) (hts (.fieldLink RX1 35 "AssignmentHouseModel" "sites" "[I") (by decide +kernel)) (fun _ h9 => h9) rfl dX1_isWorked_32 ?_
          refine lv_iload hx hb dX1_isWorked_35 (lv_at hl 5 rfl) ?_
          refine ri_ald (j := i) hx hb hK hP 7 rfl (rfl) (by omega) (by decide) dX1_isWorked_37 ?_
          refine lv_iload_n hx hb dX1_isWorked_38 rfl (lv_at hl 2 rfl) ?_
          refine lv_icmp_ne (tgt := 70) hx hb dX1_isWorked_39 (by decide) (fun c_39 => ?_) (fun c_39 => ?_)
          · skip
            refine lv_iconst (v := 0) hx hb dX1_isWorked_70 (by decide) ?_
            refine lv_istore (lv' := [(4, .int 0), (0, .ref (a 16)), (1, .int w), (2, .int t), (3, .int k), (5, .int (nI i))]) hx hb dX1_isWorked_71 hl (by decide) rfl (fun ls hl => ?_)
            refine lv_iinc (v := (nI (i + 1))) (lv' := [(5, .int (nI (i + 1))), (4, .int 0), (0, .ref (a 16)), (1, .int w), (2, .int t), (3, .int k)]) hx hb dX1_isWorked_73 hl (k := 5) rfl (nI_1 i) (by decide) rfl (fun ls hl => ?_)
            refine lv_goto (tgt := 6) hx hb dX1_isWorked_76 (by decide) ?_
            exact ih_6 (i + 1) _ ls (by omega) (wk_n (bI_f ex4 c_17) (fun h => c_39 h.2.1)) (lv_sub hl [2, 3, 4, 5, 1, 0] rfl)
          · skip
            refine lv_aload_n hx hb dX1_isWorked_42 rfl (lv_at hl 0 rfl) ?_
            refine va_get (D := D) (ci := 1) (v := .ref (a 10)) (C := RX1) (T := TX1) (N := 16) hx hb hts hi hown hK hP 0 rfl rfl 10 (by decide) (hts (.fieldLink RX1 38 "AssignmentHouseModel" "days" "[I") (by decide +kernel)) (fun _ h9 => h9) rfl dX1_isWorked_43 ?_
            refine lv_iload hx hb dX1_isWorked_46 (lv_at hl 5 rfl) ?_
            refine ri_ald (j := i) hx hb hK hP 8 rfl (rfl) (by omega) (by decide) dX1_isWorked_48 ?_
            refine lv_bipush (v := 7) hx hb dX1_isWorked_49 (by decide) ?_
            refine lv_idiv hx hb dX1_isWorked_51 (by decide) ?_
            refine lv_iload_n hx hb dX1_isWorked_52 rfl (lv_at hl 3 rfl) ?_
            refine lv_icmp_ne (tgt := 70) hx hb dX1_isWorked_53 (by decide) (fun c_53 => ?_) (fun c_53 => ?_)
            · skip
              refine lv_iconst (v := 0) hx hb dX1_isWorked_70 (by decide) ?_
              refine lv_istore (lv' := [(4, .int 0), (0, .ref (a 16)), (1, .int w), (2, .int t), (3, .int k), (5, .int (nI i))]) hx hb dX1_isWorked_71 hl (by decide) rfl (fun ls hl => ?_)
              refine lv_iinc (v := (nI (i + 1))) (lv' := [(5, .int (nI (i + 1))), (4, .int 0), (0, .ref (a 16)), (1, .int w), (2, .int t), (3, .int k)]) hx hb dX1_isWorked_73 hl (k := 5) rfl (nI_1 i) (by decide) rfl (fun ls hl => ?_)
              refine lv_goto (tgt := 6) hx hb dX1_isWorked_76 (by decide) ?_
              exact ih_6 (i + 1) _ ls (by omega) (wk_n (bI_f ex4 c_17) (fun h => c_53 h.2.2.1)) (lv_sub hl [2, 3, 4, 5, 1, 0] rfl)
            · skip
              refine lv_aload_n hx hb dX1_isWorked_56 rfl (lv_at hl 0 rfl) ?_
              refine va_get (D := D) (ci := 1) (v := .ref (a 11)) (C := RX1) (T := TX1) (N := 16) hx hb hts hi hown hK hP 0 rfl rfl 11 (by decide) (hts (.fieldLink RX1 41 "AssignmentHouseModel" "hours" "[I") (by decide +kernel)) (fun _ h9 => h9) rfl dX1_isWorked_57 ?_
              refine lv_iload hx hb dX1_isWorked_60 (lv_at hl 5 rfl) ?_
              refine ri_ald (j := i) hx hb hK hP 9 rfl (rfl) (by omega) (by decide) dX1_isWorked_62 ?_
              refine lv_if_le (tgt := 70) hx hb dX1_isWorked_63 (by decide) (fun c_63 => ?_) (fun c_63 => ?_)
              · skip
                refine lv_iconst (v := 0) hx hb dX1_isWorked_70 (by decide) ?_
                refine lv_istore (lv' := [(4, .int 0), (0, .ref (a 16)), (1, .int w), (2, .int t), (3, .int k), (5, .int (nI i))]) hx hb dX1_isWorked_71 hl (by decide) rfl (fun ls hl => ?_)
                refine lv_iinc (v := (nI (i + 1))) (lv' := [(5, .int (nI (i + 1))), (4, .int 0), (0, .ref (a 16)), (1, .int w), (2, .int t), (3, .int k)]) hx hb dX1_isWorked_73 hl (k := 5) rfl (nI_1 i) (by decide) rfl (fun ls hl => ?_)
                refine lv_goto (tgt := 6) hx hb dX1_isWorked_76 (by decide) ?_
                exact ih_6 (i + 1) _ ls (by omega) (wk_n (bI_f ex4 c_17) (fun h => absurd c_63 (Int32.not_le.mpr h.2.2.2))) (lv_sub hl [2, 3, 4, 5, 1, 0] rfl)
              · skip
                refine lv_iconst (v := 1) hx hb dX1_isWorked_66 (by decide) ?_
                refine lv_goto (tgt := 71) hx hb dX1_isWorked_67 (by decide) ?_
                refine lv_istore (lv' := [(4, .int 1), (0, .ref (a 16)), (1, .int w), (2, .int t), (3, .int k), (5, .int (nI i))]) hx hb dX1_isWorked_71 hl (by decide) rfl (fun ls hl => ?_)
                refine lv_iinc (v := (nI (i + 1))) (lv' := [(5, .int (nI (i + 1))), (4, .int 1), (0, .ref (a 16)), (1, .int w), (2, .int t), (3, .int k)]) hx hb dX1_isWorked_73 hl (k := 5) rfl (nI_1 i) (by decide) rfl (fun ls hl => ?_)
                refine lv_goto (tgt := 6) hx hb dX1_isWorked_76 (by decide) ?_
                exact ih_6 (i + 1) _ ls (by omega) (wk_p ⟨c_28, c_39, c_53, Int32.not_le.mp c_63⟩) (lv_sub hl [2, 3, 4, 5, 1, 0] rfl)
  exact K_6 N 0 _ ls (by omega) (rfl) (lv_sub hl [2, 3, 4, 5, 1, 0] rfl)

set_option maxHeartbeats 4000000 in
set_option maxRecDepth 100000 in
theorem c_X1_isEqual (l : Launch) (D : va_G) (cA : ClassId) (a : Nat → Nat) (F : Nat → Nat → Int32) (th : Int32) (N : Nat) (hW : wf F N) (w t x : Int32) (k : Nat) (ek : x = nI k) (hk : k ≤ 20) : Rd l D cA (wM a cA F th) yX1_isEqual wsX1_isEqual rmX1_isEqual [.ref (a 16), .int w, .int t, .int x] (if F 5 0 ≤ sEqV F N w t k then 1 else 0) := by
  refine Rd.ofz (cc := cX1_isEqual) (maxL := 8) (by decide) rfl (Nat.le_of_ble_eq_true rfl) ?_
  intro p e s m args below meth c ls Q hx hb hts hown hml hK hP hl hend
  have hown : s.vm.findClass RX1 = some m.cls := hown
  have hi : ∀ w ∈ wsX10, w ∈ wsX1_isEqual := by decide +kernel
  have hl : lv_has ls 8 [(0, .ref (a 16)), (1, .int w), (2, .int t), (3, .int x)] := hl
  have hN : N ≤ 80 := hW.n
  have hc : F 7 0 = nI N := hW.c
  refine lv_iconst (v := 0) hx hb dX1_isEqual_0 (by decide) ?_
  refine lv_istore (lv' := [(4, .int 0), (0, .ref (a 16)), (1, .int w), (2, .int t), (3, .int x)]) hx hb dX1_isEqual_1 hl (by decide) rfl (fun ls hl => ?_)
  refine lv_iconst (v := 0) hx hb dX1_isEqual_3 (by decide) ?_
  refine lv_istore (lv' := [(5, .int 0), (4, .int 0), (0, .ref (a 16)), (1, .int w), (2, .int t), (3, .int x)]) hx hb dX1_isEqual_4 hl (by decide) rfl (fun ls hl => ?_)
  refine lv_iload_n hx hb dX1_isEqual_6 rfl (lv_at hl 5 rfl) ?_
  refine lv_iconst (v := 1) hx hb dX1_isEqual_7 (by decide) ?_
  refine lv_isub hx hb dX1_isEqual_8 ?_
  refine lv_istore (lv' := [(6, .int (x - 1)), (5, .int 0), (4, .int 0), (0, .ref (a 16)), (1, .int w), (2, .int t), (3, .int x)]) hx hb dX1_isEqual_9 hl (by decide) rfl (fun ls hl => ?_)
  have K_11 : ∀ (j : Nat) (x4 x5 x6 : Int32) (ls : Array Slot), j ≤ 20 → x6 = nI j - 1 → eqL (fun j => wkd F w t (nI j) N) (F 6 0) j x4 x5 = sEqV F N w t k → lv_has ls 8 [(0, .ref (a 16)), (1, .int w), (2, .int t), (4, .int x4), (5, .int x5), (6, .int x6)] → W p l e rmX1_isEqual s m args below meth c s.heap [] 0 0 Q (F0 m 11 ls []) := by
    intro j
    induction j with
    | zero =>
      intro x4 x5 x6 ls hj ex6 hq0 hl
      have ex6 : x6 = -1 := ex6
      subst ex6
      refine lv_iload hx hb dX1_isEqual_11 (lv_at hl 5 rfl) ?_
      refine lv_if_lt (tgt := 71) hx hb dX1_isEqual_13 (by decide) (fun c_13 => ?_) (fun c_13 => (c_13 (by decide) : False).elim)
      refine lv_iload hx hb dX1_isEqual_71 (lv_at hl 3 rfl) ?_
      refine lv_aload_n hx hb dX1_isEqual_73 rfl (lv_at hl 0 rfl) ?_
      refine va_get (D := D) (ci := 1) (v := .int (F 5 0)) (C := RX1) (T := TX1) (N := 16) hx hb hts hi hown hK hP 0 rfl rfl 5 (by decide) (hts (.fieldLink RX1 25 "AssignmentHouseModel" "span" "I") (by decide +kernel)) (fun _ h9 => h9) rfl dX1_isEqual_74 ?_
      refine lv_icmp_lt (tgt := 84) hx hb dX1_isEqual_77 (by decide) (fun c_77 => ?_) (fun c_77 => ?_)
      · skip
        refine lv_iconst (v := 0) hx hb dX1_isEqual_84 (by decide) ?_
        have hv : x4 = sEqV F N w t k := by rw [← hq0]; first | rfl | rw [eqL_s, if_neg (Int32.not_le.mpr c_22)]
        exact hend 85 ls _ dX1_isEqual_85 (by rw [← hv]; exact (if_neg (Int32.not_le.mpr c_77)).symm) (Or.inl rfl)
      · skip
        refine lv_iconst (v := 1) hx hb dX1_isEqual_80 (by decide) ?_
        refine lv_goto (tgt := 85) hx hb dX1_isEqual_81 (by decide) ?_
        have hv : x4 = sEqV F N w t k := by rw [← hq0]; first | rfl | rw [eqL_s, if_neg (Int32.not_le.mpr c_22)]
        exact hend 85 ls _ dX1_isEqual_85 (by rw [← hv]; exact (if_pos (Int32.not_lt.mp c_77)).symm) (Or.inr rfl)
    | succ j ih_11 =>
      intro x4 x5 x6 ls hj ex6 hq0 hl
      have ex6 : x6 = nI j := by rw [ex6]; exact nI_pred j
      subst ex6
      refine lv_iload hx hb dX1_isEqual_11 (lv_at hl 5 rfl) ?_
      refine lv_if_lt (tgt := 71) hx hb dX1_isEqual_13 (by decide) (fun c_13 => (absurd c_13 (nI_pos (by omega)) : False).elim) (fun c_13 => ?_)
      refine lv_iload hx hb dX1_isEqual_16 (lv_at hl 4 rfl) ?_
      refine lv_aload_n hx hb dX1_isEqual_18 rfl (lv_at hl 0 rfl) ?_
      refine va_get (D := D) (ci := 1) (v := .int (F 6 0)) (C := RX1) (T := TX1) (N := 16) hx hb hts hi hown hK hP 0 rfl rfl 6 (by decide) (hts (.fieldLink RX1 29 "AssignmentHouseModel" "gap" "I") (by decide +kernel)) (fun _ h9 => h9) rfl dX1_isEqual_19 ?_
      refine lv_icmp_gt (tgt := 71) hx hb dX1_isEqual_22 (by decide) (fun c_22 => ?_) (fun c_22 => ?_)
      · skip
        refine lv_iload hx hb dX1_isEqual_71 (lv_at hl 3 rfl) ?_
        refine lv_aload_n hx hb dX1_isEqual_73 rfl (lv_at hl 0 rfl) ?_
        refine va_get (D := D) (ci := 1) (v := .int (F 5 0)) (C := RX1) (T := TX1) (N := 16) hx hb hts hi hown hK hP 0 rfl rfl 5 (by decide) (hts (.fieldLink RX1 25 "AssignmentHouseModel" "span" "I") (by decide +kernel)) (fun _ h9 => h9) rfl dX1_isEqual_74 ?_
        refine lv_icmp_lt (tgt := 84) hx hb dX1_isEqual_77 (by decide) (fun c_77 => ?_) (fun c_77 => ?_)
        · skip
          refine lv_iconst (v := 0) hx hb dX1_isEqual_84 (by decide) ?_
          have hv : x4 = sEqV F N w t k := by rw [← hq0]; first | rfl | rw [eqL_s, if_neg (Int32.not_le.mpr c_22)]
          exact hend 85 ls _ dX1_isEqual_85 (by rw [← hv]; exact (if_neg (Int32.not_le.mpr c_77)).symm) (Or.inl rfl)
        · skip
          refine lv_iconst (v := 1) hx hb dX1_isEqual_80 (by decide) ?_
          refine lv_goto (tgt := 85) hx hb dX1_isEqual_81 (by decide) ?_
          have hv : x4 = sEqV F N w t k := by rw [← hq0]; first | rfl | rw [eqL_s, if_neg (Int32.not_le.mpr c_22)]
          exact hend 85 ls _ dX1_isEqual_85 (by rw [← hv]; exact (if_pos (Int32.not_lt.mp c_77)).symm) (Or.inr rfl)
      · skip
        refine lv_aload_n hx hb dX1_isEqual_25 rfl (lv_at hl 0 rfl) ?_
        refine lv_iload_n hx hb dX1_isEqual_26 rfl (lv_at hl 1 rfl) ?_
        refine lv_iload_n hx hb dX1_isEqual_27 rfl (lv_at hl 2 rfl) ?_
        refine lv_iload hx hb dX1_isEqual_28 (lv_at hl 5 rfl) ?_
        refine Rd.callV (rest := []) (q0 := 0) (ci := 1) ⟨hx, hb, hml, hown, hts⟩ (c_X1_isWorked l D cA a F th N hW w t (nI j)) (cwV 3 hts gX1_isEqual_X1_isWorked rfl rfl rfl (by decide +kernel) ⟨Nat.le_of_ble_eq_true rfl, Nat.le_of_ble_eq_true rfl⟩) hK hP rfl rfl rfl rfl rfl hl.1 (Nat.le_of_ble_eq_true rfl) dX1_isEqual_30 ⟨Nat.zero_le _, Nat.zero_le _⟩ ?_
        refine lv_istore (lv' := [(7, .int (bI (wkd F w t (nI j) N))), (0, .ref (a 16)), (1, .int w), (2, .int t), (4, .int x4), (5, .int x5), (6, .int (nI j))]) hx hb dX1_isEqual_33 hl (by decide) rfl (fun ls hl => ?_)
        refine lv_iload hx hb dX1_isEqual_35 (lv_at hl 4 rfl) ?_
        refine lv_iload hx hb dX1_isEqual_37 (lv_at hl 0 rfl) ?_
        refine lv_if_eq (tgt := 46) hx hb dX1_isEqual_39 (by decide) (fun c_39 => ?_) (fun c_39 => ?_)
        · skip
          have hq : wkd F w t (nI j) N = false := bI_f rfl c_39
          refine lv_iconst (v := 0) hx hb dX1_isEqual_46 (by decide) ?_
          refine lv_iadd hx hb dX1_isEqual_47 ?_
          refine lv_istore (lv' := [(4, .int (x4 + 0)), (7, .int (bI (wkd F w t (nI j) N))), (0, .ref (a 16)), (1, .int w), (2, .int t), (5, .int x5), (6, .int (nI j))]) hx hb dX1_isEqual_48 hl (by decide) rfl (fun ls hl => ?_)
          refine lv_iload hx hb dX1_isEqual_50 (lv_at hl 1 rfl) ?_
          refine lv_if_eq (tgt := 59) hx hb dX1_isEqual_52 (by decide) (fun c_52 => ?_) (fun c_52 => (c_52 c_39 : False).elim)
          refine lv_iload hx hb dX1_isEqual_59 (lv_at hl 5 rfl) ?_
          refine lv_iconst (v := 1) hx hb dX1_isEqual_61 (by decide) ?_
          refine lv_iadd hx hb dX1_isEqual_62 ?_
          refine lv_istore (lv' := [(5, .int (x5 + 1)), (4, .int (x4 + 0)), (7, .int (bI (wkd F w t (nI j) N))), (0, .ref (a 16)), (1, .int w), (2, .int t), (6, .int (nI j))]) hx hb dX1_isEqual_63 hl (by decide) rfl (fun ls hl => ?_)
          refine lv_iinc (v := (nI j - 1)) (lv' := [(6, .int (nI j - 1)), (5, .int (x5 + 1)), (4, .int (x4 + 0)), (7, .int (bI (wkd F w t (nI j) N))), (0, .ref (a 16)), (1, .int w), (2, .int t)]) hx hb dX1_isEqual_65 hl (k := 6) rfl (i32_m1 _) (by decide) rfl (fun ls hl => ?_)
          refine lv_goto (tgt := 11) hx hb dX1_isEqual_68 (by decide) ?_
          exact ih_11 _ _ _ ls (by omega) rfl (by rw [i32_a0, ← hq0, eqL_s, if_pos (Int32.not_lt.mp c_22), if_neg (by rw [hq]; decide)]) (lv_sub hl [4, 5, 6, 2, 1, 0] rfl)
        · skip
          have hq : wkd F w t (nI j) N = true := bI_t rfl c_39
          refine lv_iconst (v := 1) hx hb dX1_isEqual_42 (by decide) ?_
          refine lv_goto (tgt := 47) hx hb dX1_isEqual_43 (by decide) ?_
          refine lv_iadd hx hb dX1_isEqual_47 ?_
          refine lv_istore (lv' := [(4, .int (x4 + 1)), (7, .int (bI (wkd F w t (nI j) N))), (0, .ref (a 16)), (1, .int w), (2, .int t), (5, .int x5), (6, .int (nI j))]) hx hb dX1_isEqual_48 hl (by decide) rfl (fun ls hl => ?_)
          refine lv_iload hx hb dX1_isEqual_50 (lv_at hl 1 rfl) ?_
          refine lv_if_eq (tgt := 59) hx hb dX1_isEqual_52 (by decide) (fun c_52 => (c_39 c_52 : False).elim) (fun c_52 => ?_)
          refine lv_iconst (v := 0) hx hb dX1_isEqual_55 (by decide) ?_
          refine lv_goto (tgt := 63) hx hb dX1_isEqual_56 (by decide) ?_
          refine lv_istore (lv' := [(5, .int 0), (4, .int (x4 + 1)), (7, .int (bI (wkd F w t (nI j) N))), (0, .ref (a 16)), (1, .int w), (2, .int t), (6, .int (nI j))]) hx hb dX1_isEqual_63 hl (by decide) rfl (fun ls hl => ?_)
          refine lv_iinc (v := (nI j - 1)) (lv' := [(6, .int (nI j - 1)), (5, .int 0), (4, .int (x4 + 1)), (7, .int (bI (wkd F w t (nI j) N))), (0, .ref (a 16)), (1, .int w), (2, .int t)]) hx hb dX1_isEqual_65 hl (k := 6) rfl (i32_m1 _) (by decide) rfl (fun ls hl => ?_)
          refine lv_goto (tgt := 11) hx hb dX1_isEqual_68 (by decide) ?_
          exact ih_11 _ _ _ ls (by omega) rfl (by rw [← hq0, eqL_s, if_pos (Int32.not_lt.mp c_22), if_pos hq]) (lv_sub hl [4, 5, 6, 2, 1, 0] rfl)
  exact K_11 k _ _ _ ls hk (by rw [ek]) rfl (lv_sub hl [3, 4, 5, 2, 1, 0] rfl)

set_option maxHeartbeats 4000000 in
set_option maxRecDepth 100000 in
theorem c_X1_payFor (l : Launch) (D : va_G) (cA : ClassId) (a : Nat → Nat) (F : Nat → Nat → Int32) (th : Int32) (N : Nat) (hW : wf F N) (x : Int32) (one : Nat) (ei : x = nI one) (ho : one < N) : Rd l D cA (wM a cA F th) yX1_payFor wsX1_payFor rmX1_payFor [.ref (a 16), .int x] (sPy F N one) := by
  subst ei
  refine Rd.of (cc := cX1_payFor) (maxL := 5) (by decide) rfl (Nat.le_of_ble_eq_true rfl) ?_
  intro p e s m args below meth c ls Q hx hb hts hown hml hK hP hl hend
  have hown : s.vm.findClass RX1 = some m.cls := hown
  have hi : ∀ w ∈ wsX10, w ∈ wsX1_payFor := by decide +kernel
  have hl : lv_has ls 5 [(0, .ref (a 16)), (1, .int (nI one))] := hl
  have hN : N ≤ 80 := hW.n
  have hc : F 7 0 = nI N := hW.c
  have hd7 := (hW.day ho).1
  refine lv_aload_n hx hb dX1_payFor_0 rfl (lv_at hl 0 rfl) ?_
  refine lv_iload_n hx hb dX1_payFor_1 rfl (lv_at hl 1 rfl) ?_
  refine Rd.callV (rest := []) (q0 := 0) (ci := 1) ⟨hx, hb, hml, hown, hts⟩ (c_X1_over l D cA a F th N hW (nI one) one rfl ho) (cwV 1 hts gX1_payFor_X1_over rfl rfl rfl (by decide +kernel) ⟨Nat.le_of_ble_eq_true rfl, Nat.le_of_ble_eq_true rfl⟩) hK hP rfl rfl rfl rfl rfl hl.1 (Nat.le_of_ble_eq_true rfl) dX1_payFor_2 ⟨Nat.zero_le _, Nat.zero_le _⟩ ?_
  refine lv_istore_n (lv' := [(2, .int (sOv F N one)), (0, .ref (a 16)), (1, .int (nI one))]) hx hb dX1_payFor_5 rfl hl (by decide) rfl (fun ls hl => ?_)
  refine lv_aload_n hx hb dX1_payFor_6 rfl (lv_at hl 1 rfl) ?_
  refine lv_aload_n hx hb dX1_payFor_7 rfl (lv_at hl 1 rfl) ?_
  refine va_get (D := D) (ci := 1) (v := .ref (a 8)) (C := RX1) (T := TX1) (N := 16) hx hb hts hi hown hK hP 0 rfl rfl 8 (by decide) (hts (.fieldLink RX1 32 "AssignmentHouseModel" "workers" "[I") (by decide +kernel)) (fun _ h9 => h9) rfl dX1_payFor_8 ?_
  refine lv_iload_n hx hb dX1_payFor_11 rfl (lv_at hl 2 rfl) ?_
  refine ri_ald (j := one) hx hb hK hP 6 rfl (rfl) (by omega) (by decide) dX1_payFor_12 ?_
  refine lv_aload_n hx hb dX1_payFor_13 rfl (lv_at hl 1 rfl) ?_
  refine va_get (D := D) (ci := 1) (v := .ref (a 9)) (C := RX1) (T := TX1) (N := 16) hx hb hts hi hown hK hP 0 rfl rfl 9 (by decide) (hts (.fieldLink RX1 35 "AssignmentHouseModel" "sites" "[I") (by decide +kernel)) (fun _ h9 => h9) rfl dX1_payFor_14 ?_
  refine lv_iload_n hx hb dX1_payFor_17 rfl (lv_at hl 2 rfl) ?_
  refine ri_ald (j := one) hx hb hK hP 7 rfl (rfl) (by omega) (by decide) dX1_payFor_18 ?_
  refine lv_aload_n hx hb dX1_payFor_19 rfl (lv_at hl 1 rfl) ?_
  refine va_get (D := D) (ci := 1) (v := .ref (a 10)) (C := RX1) (T := TX1) (N := 16) hx hb hts hi hown hK hP 0 rfl rfl 10 (by decide) (hts (.fieldLink RX1 38 "AssignmentHouseModel" "days" "[I") (by decide +kernel)) (fun _ h9 => h9) rfl dX1_payFor_20 ?_
  refine lv_iload_n hx hb dX1_payFor_23 rfl (lv_at hl 2 rfl) ?_
  refine ri_ald (j := one) hx hb hK hP 8 rfl (rfl) (by omega) (by decide) dX1_payFor_24 ?_
  refine lv_bipush (v := 7) hx hb dX1_payFor_25 (by decide) ?_
  refine lv_idiv hx hb dX1_payFor_27 (by decide) ?_
  refine Rd.callV (rest := []) (q0 := 0) (ci := 1) ⟨hx, hb, hml, hown, hts⟩ (c_X1_isEqual l D cA a F th N hW (F 8 one) (F 9 one) ((F 10 one) / 7) (dayN F one / 7) (hW.week ho) (by omega)) (cwV 3 hts gX1_payFor_X1_isEqual rfl rfl rfl (by decide +kernel) ⟨Nat.le_of_ble_eq_true rfl, Nat.le_of_ble_eq_true rfl⟩) hK hP rfl rfl rfl rfl rfl hl.1 (Nat.le_of_ble_eq_true rfl) dX1_payFor_28 ⟨Nat.zero_le _, Nat.zero_le _⟩ ?_
  refine lv_istore_n (lv' := [(3, .int (if F 5 0 ≤ sEqV F N (F 8 one) (F 9 one) (dayN F one / 7) then 1 else 0)), (2, .int (sOv F N one)), (0, .ref (a 16)), (1, .int (nI one))]) hx hb dX1_payFor_31 rfl hl (by decide) rfl (fun ls hl => ?_)
  refine lv_iload_n hx hb dX1_payFor_32 rfl (lv_at hl 0 rfl) ?_
  refine lv_if_eq (tgt := 50) hx hb dX1_payFor_33 (by decide) (fun c_33 => ?_) (fun c_33 => ?_)
  · skip
    have hq : ¬ (F 5 0 ≤ sEqV F N (F 8 one) (F 9 one) (dayN F one / 7)) := fun h => absurd c_33 (by rw [if_pos h]; decide)
    refine lv_aload_n hx hb dX1_payFor_50 rfl (lv_at hl 2 rfl) ?_
    refine va_get (D := D) (ci := 1) (v := .ref (a 0)) (C := RX1) (T := TX1) (N := 16) hx hb hts hi hown hK hP 0 rfl rfl 0 (by decide) (hts (.fieldLink RX1 7 "AssignmentHouseModel" "rates" "[I") (by decide +kernel)) (fun _ h9 => h9) rfl dX1_payFor_51 ?_
    refine lv_aload_n hx hb dX1_payFor_54 rfl (lv_at hl 2 rfl) ?_
    refine va_get (D := D) (ci := 1) (v := .ref (a 9)) (C := RX1) (T := TX1) (N := 16) hx hb hts hi hown hK hP 0 rfl rfl 9 (by decide) (hts (.fieldLink RX1 35 "AssignmentHouseModel" "sites" "[I") (by decide +kernel)) (fun _ h9 => h9) rfl dX1_payFor_55 ?_
    refine lv_iload_n hx hb dX1_payFor_58 rfl (lv_at hl 3 rfl) ?_
    refine ri_ald (j := one) hx hb hK hP 7 rfl (rfl) (by omega) (by decide) dX1_payFor_59 ?_
    refine ri_ald (j := (F 9 one).toNatClampNeg) hx hb hK hP 1 rfl ((hW.site ho).2) ((hW.site ho).1) (by decide) dX1_payFor_60 ?_
    refine lv_istore (lv' := [(4, .int (F 0 (F 9 one).toNatClampNeg)), (3, .int (if F 5 0 ≤ sEqV F N (F 8 one) (F 9 one) (dayN F one / 7) then 1 else 0)), (2, .int (sOv F N one)), (0, .ref (a 16)), (1, .int (nI one))]) hx hb dX1_payFor_61 hl (by decide) rfl (fun ls hl => ?_)
    refine lv_iconst (v := 2) hx hb dX1_payFor_63 (by decide) ?_
    refine lv_aload_n hx hb dX1_payFor_64 rfl (lv_at hl 3 rfl) ?_
    refine va_get (D := D) (ci := 1) (v := .ref (a 11)) (C := RX1) (T := TX1) (N := 16) hx hb hts hi hown hK hP 0 rfl rfl 11 (by decide) (hts (.fieldLink RX1 41 "AssignmentHouseModel" "hours" "[I") (by decide +kernel)) (fun _ h9 => h9) rfl dX1_payFor_65 ?_
    refine lv_iload_n hx hb dX1_payFor_68 rfl (lv_at hl 4 rfl) ?_
    refine ri_ald (j := one) hx hb hK hP 9 rfl (rfl) (by omega) (by decide) dX1_payFor_69 ?_
    refine lv_iload_n hx hb dX1_payFor_70 rfl (lv_at hl 2 rfl) ?_
    refine lv_isub hx hb dX1_payFor_71 ?_
    refine lv_imul hx hb dX1_payFor_72 ?_
    refine lv_iconst (v := 3) hx hb dX1_payFor_73 (by decide) ?_
    refine lv_iload_n hx hb dX1_payFor_74 rfl (lv_at hl 2 rfl) ?_
    refine lv_imul hx hb dX1_payFor_75 ?_
    refine lv_iadd hx hb dX1_payFor_76 ?_
    refine lv_iload hx hb dX1_payFor_77 (lv_at hl 0 rfl) ?_
    refine lv_imul hx hb dX1_payFor_79 ?_
    refine lv_iconst (v := 2) hx hb dX1_payFor_80 (by decide) ?_
    refine lv_idiv hx hb dX1_payFor_81 (by decide) ?_
    exact hend 82 ls _ dX1_payFor_82 (by unfold sPy sRt; rw [if_neg hq])
  · skip
    have hq : (F 5 0 ≤ sEqV F N (F 8 one) (F 9 one) (dayN F one / 7)) := Classical.byContradiction (fun h => c_33 (if_neg h))
    refine lv_aload_n hx hb dX1_payFor_36 rfl (lv_at hl 2 rfl) ?_
    refine va_get (D := D) (ci := 1) (v := .ref (a 1)) (C := RX1) (T := TX1) (N := 16) hx hb hts hi hown hK hP 0 rfl rfl 1 (by decide) (hts (.fieldLink RX1 13 "AssignmentHouseModel" "equals" "[I") (by decide +kernel)) (fun _ h9 => h9) rfl dX1_payFor_37 ?_
    refine lv_aload_n hx hb dX1_payFor_40 rfl (lv_at hl 2 rfl) ?_
    refine va_get (D := D) (ci := 1) (v := .ref (a 9)) (C := RX1) (T := TX1) (N := 16) hx hb hts hi hown hK hP 0 rfl rfl 9 (by decide) (hts (.fieldLink RX1 35 "AssignmentHouseModel" "sites" "[I") (by decide +kernel)) (fun _ h9 => h9) rfl dX1_payFor_41 ?_
    refine lv_iload_n hx hb dX1_payFor_44 rfl (lv_at hl 3 rfl) ?_
    refine ri_ald (j := one) hx hb hK hP 7 rfl (rfl) (by omega) (by decide) dX1_payFor_45 ?_
    refine ri_ald (j := (F 9 one).toNatClampNeg) hx hb hK hP 2 rfl ((hW.site ho).2) ((hW.site ho).1) (by decide) dX1_payFor_46 ?_
    refine lv_goto (tgt := 61) hx hb dX1_payFor_47 (by decide) ?_
    refine lv_istore (lv' := [(4, .int (F 1 (F 9 one).toNatClampNeg)), (3, .int (if F 5 0 ≤ sEqV F N (F 8 one) (F 9 one) (dayN F one / 7) then 1 else 0)), (2, .int (sOv F N one)), (0, .ref (a 16)), (1, .int (nI one))]) hx hb dX1_payFor_61 hl (by decide) rfl (fun ls hl => ?_)
    refine lv_iconst (v := 2) hx hb dX1_payFor_63 (by decide) ?_
    refine lv_aload_n hx hb dX1_payFor_64 rfl (lv_at hl 3 rfl) ?_
    refine va_get (D := D) (ci := 1) (v := .ref (a 11)) (C := RX1) (T := TX1) (N := 16) hx hb hts hi hown hK hP 0 rfl rfl 11 (by decide) (hts (.fieldLink RX1 41 "AssignmentHouseModel" "hours" "[I") (by decide +kernel)) (fun _ h9 => h9) rfl dX1_payFor_65 ?_
    refine lv_iload_n hx hb dX1_payFor_68 rfl (lv_at hl 4 rfl) ?_
    refine ri_ald (j := one) hx hb hK hP 9 rfl (rfl) (by omega) (by decide) dX1_payFor_69 ?_
    refine lv_iload_n hx hb dX1_payFor_70 rfl (lv_at hl 2 rfl) ?_
    refine lv_isub hx hb dX1_payFor_71 ?_
    refine lv_imul hx hb dX1_payFor_72 ?_
    refine lv_iconst (v := 3) hx hb dX1_payFor_73 (by decide) ?_
    refine lv_iload_n hx hb dX1_payFor_74 rfl (lv_at hl 2 rfl) ?_
    refine lv_imul hx hb dX1_payFor_75 ?_
    refine lv_iadd hx hb dX1_payFor_76 ?_
    refine lv_iload hx hb dX1_payFor_77 (lv_at hl 0 rfl) ?_
    refine lv_imul hx hb dX1_payFor_79 ?_
    refine lv_iconst (v := 2) hx hb dX1_payFor_80 (by decide) ?_
    refine lv_idiv hx hb dX1_payFor_81 (by decide) ?_
    exact hend 82 ls _ dX1_payFor_82 (by unfold sPy sRt; rw [if_pos hq])

set_option maxHeartbeats 4000000 in
set_option maxRecDepth 100000 in
theorem c_X1_chargeFor (l : Launch) (D : va_G) (cA : ClassId) (a : Nat → Nat) (F : Nat → Nat → Int32) (th : Int32) (N : Nat) (hW : wf F N) (x : Int32) (one : Nat) (ei : x = nI one) (ho : one < N) : Rd l D cA (wM a cA F th) yX1_chargeFor wsX1_chargeFor rmX1_chargeFor [.ref (a 16), .int x] (sCh F N one) := by
  subst ei
  refine Rd.of (cc := cX1_chargeFor) (maxL := 5) (by decide) rfl (Nat.le_of_ble_eq_true rfl) ?_
  intro p e s m args below meth c ls Q hx hb hts hown hml hK hP hl hend
  have hown : s.vm.findClass RX1 = some m.cls := hown
  have hi : ∀ w ∈ wsX10, w ∈ wsX1_chargeFor := by decide +kernel
  have hl : lv_has ls 5 [(0, .ref (a 16)), (1, .int (nI one))] := hl
  have hN : N ≤ 80 := hW.n
  have hc : F 7 0 = nI N := hW.c
  refine lv_aload_n hx hb dX1_chargeFor_0 rfl (lv_at hl 0 rfl) ?_
  refine va_get (D := D) (ci := 1) (v := .ref (a 9)) (C := RX1) (T := TX1) (N := 16) hx hb hts hi hown hK hP 0 rfl rfl 9 (by decide) (hts (.fieldLink RX1 35 "AssignmentHouseModel" "sites" "[I") (by decide +kernel)) (fun _ h9 => h9) rfl dX1_chargeFor_1 ?_
  refine lv_iload_n hx hb dX1_chargeFor_4 rfl (lv_at hl 1 rfl) ?_
  refine ri_ald (j := one) hx hb hK hP 7 rfl (rfl) (by omega) (by decide) dX1_chargeFor_5 ?_
  refine lv_istore_n (lv' := [(2, .int (F 9 one)), (0, .ref (a 16)), (1, .int (nI one))]) hx hb dX1_chargeFor_6 rfl hl (by decide) rfl (fun ls hl => ?_)
  refine lv_iconst (v := 0) hx hb dX1_chargeFor_7 (by decide) ?_
  refine lv_istore_n (lv' := [(3, .int 0), (2, .int (F 9 one)), (0, .ref (a 16)), (1, .int (nI one))]) hx hb dX1_chargeFor_8 rfl hl (by decide) rfl (fun ls hl => ?_)
  refine lv_iconst (v := 0) hx hb dX1_chargeFor_9 (by decide) ?_
  refine lv_istore (lv' := [(4, .int 0), (3, .int 0), (2, .int (F 9 one)), (0, .ref (a 16)), (1, .int (nI one))]) hx hb dX1_chargeFor_10 hl (by decide) rfl (fun ls hl => ?_)
  have K_12 : ∀ (n i : Nat) (x3 : Int32) (ls : Array Slot), i + n = N → x3 = ps (tAt F (F 9 one) (F 10 one / 7)) i → lv_has ls 5 [(0, .ref (a 16)), (1, .int (nI one)), (2, .int (F 9 one)), (3, .int x3), (4, .int (nI i))] → W p l e rmX1_chargeFor s m args below meth c s.heap [] 0 0 Q (F0 m 12 ls []) := by
    intro n
    induction n with
    | zero =>
      intro i x3 ls hin_12 ex3 hl
      have hiN : i = N := by omega
      refine lv_iload hx hb dX1_chargeFor_12 (lv_at hl 4 rfl) ?_
      refine lv_aload_n hx hb dX1_chargeFor_14 rfl (lv_at hl 0 rfl) ?_
      refine va_get (D := D) (ci := 1) (v := .int (F 7 0)) (C := RX1) (T := TX1) (N := 16) hx hb hts hi hown hK hP 0 rfl rfl 7 (by decide) (hts (.fieldLink RX1 60 "AssignmentHouseModel" "shifts" "I") (by decide +kernel)) (fun _ h9 => h9) rfl dX1_chargeFor_15 ?_
      refine lv_icmp_ge (tgt := 74) hx hb dX1_chargeFor_18 (by decide) (fun c_18 => ?_) (fun c_18 => (absurd (((br_ge hc (by omega) (by omega : i ≤ N)).mpr hiN)) c_18 : False).elim)
      refine lv_iload_n hx hb dX1_chargeFor_74 rfl (lv_at hl 3 rfl) ?_
      refine lv_aload_n hx hb dX1_chargeFor_75 rfl (lv_at hl 0 rfl) ?_
      refine va_get (D := D) (ci := 1) (v := .ref (a 4)) (C := RX1) (T := TX1) (N := 16) hx hb hts hi hown hK hP 0 rfl rfl 4 (by decide) (hts (.fieldLink RX1 22 "AssignmentHouseModel" "volumes" "[I") (by decide +kernel)) (fun _ h9 => h9) rfl dX1_chargeFor_76 ?_
      refine lv_iload_n hx hb dX1_chargeFor_79 rfl (lv_at hl 2 rfl) ?_
      refine ri_ald (j := (F 9 one).toNatClampNeg) hx hb hK hP 5 rfl ((hW.site ho).2) ((hW.site ho).1) (by decide) dX1_chargeFor_80 ?_
      refine lv_icmp_lt (tgt := 93) hx hb dX1_chargeFor_81 (by decide) (fun c_81 => ?_) (fun c_81 => ?_)
      · skip
        refine lv_aload_n hx hb dX1_chargeFor_93 rfl (lv_at hl 0 rfl) ?_
        refine va_get (D := D) (ci := 1) (v := .ref (a 2)) (C := RX1) (T := TX1) (N := 16) hx hb hts hi hown hK hP 0 rfl rfl 2 (by decide) (hts (.fieldLink RX1 16 "AssignmentHouseModel" "margins" "[I") (by decide +kernel)) (fun _ h9 => h9) rfl dX1_chargeFor_94 ?_
        refine lv_iload_n hx hb dX1_chargeFor_97 rfl (lv_at hl 2 rfl) ?_
        refine ri_ald (j := (F 9 one).toNatClampNeg) hx hb hK hP 3 rfl ((hW.site ho).2) ((hW.site ho).1) (by decide) dX1_chargeFor_98 ?_
        refine lv_istore (lv' := [(4, .int (F 2 (F 9 one).toNatClampNeg)), (0, .ref (a 16)), (1, .int (nI one)), (2, .int (F 9 one)), (3, .int x3)]) hx hb dX1_chargeFor_99 hl (by decide) rfl (fun ls hl => ?_)
        refine lv_aload_n hx hb dX1_chargeFor_101 rfl (lv_at hl 1 rfl) ?_
        refine lv_iload_n hx hb dX1_chargeFor_102 rfl (lv_at hl 2 rfl) ?_
        refine Rd.callV (rest := []) (q0 := 0) (ci := 1) ⟨hx, hb, hml, hown, hts⟩ (c_X1_payFor l D cA a F th N hW (nI one) one rfl ho) (cwV 1 hts gX1_chargeFor_X1_payFor rfl rfl rfl (by decide +kernel) ⟨Nat.le_of_ble_eq_true rfl, Nat.le_of_ble_eq_true rfl⟩) hK hP rfl rfl rfl rfl rfl hl.1 (Nat.le_of_ble_eq_true rfl) dX1_chargeFor_103 ⟨Nat.zero_le _, Nat.zero_le _⟩ ?_
        refine lv_bipush (v := 100) hx hb dX1_chargeFor_106 (by decide) ?_
        refine lv_iload hx hb dX1_chargeFor_108 (lv_at hl 0 rfl) ?_
        refine lv_iadd hx hb dX1_chargeFor_110 ?_
        refine lv_imul hx hb dX1_chargeFor_111 ?_
        refine lv_bipush (v := 100) hx hb dX1_chargeFor_112 (by decide) ?_
        refine lv_idiv hx hb dX1_chargeFor_114 (by decide) ?_
        exact hend 115 ls _ dX1_chargeFor_115 (by unfold sCh sMg; rw [if_neg (Int32.not_le.mpr (by rw [← hiN, ← ex3]; exact c_81))])
      · skip
        refine lv_aload_n hx hb dX1_chargeFor_84 rfl (lv_at hl 0 rfl) ?_
        refine va_get (D := D) (ci := 1) (v := .ref (a 3)) (C := RX1) (T := TX1) (N := 16) hx hb hts hi hown hK hP 0 rfl rfl 3 (by decide) (hts (.fieldLink RX1 19 "AssignmentHouseModel" "lows" "[I") (by decide +kernel)) (fun _ h9 => h9) rfl dX1_chargeFor_85 ?_
        refine lv_iload_n hx hb dX1_chargeFor_88 rfl (lv_at hl 2 rfl) ?_
        refine ri_ald (j := (F 9 one).toNatClampNeg) hx hb hK hP 4 rfl ((hW.site ho).2) ((hW.site ho).1) (by decide) dX1_chargeFor_89 ?_
        refine lv_goto (tgt := 99) hx hb dX1_chargeFor_90 (by decide) ?_
        refine lv_istore (lv' := [(4, .int (F 3 (F 9 one).toNatClampNeg)), (0, .ref (a 16)), (1, .int (nI one)), (2, .int (F 9 one)), (3, .int x3)]) hx hb dX1_chargeFor_99 hl (by decide) rfl (fun ls hl => ?_)
        refine lv_aload_n hx hb dX1_chargeFor_101 rfl (lv_at hl 1 rfl) ?_
        refine lv_iload_n hx hb dX1_chargeFor_102 rfl (lv_at hl 2 rfl) ?_
        refine Rd.callV (rest := []) (q0 := 0) (ci := 1) ⟨hx, hb, hml, hown, hts⟩ (c_X1_payFor l D cA a F th N hW (nI one) one rfl ho) (cwV 1 hts gX1_chargeFor_X1_payFor rfl rfl rfl (by decide +kernel) ⟨Nat.le_of_ble_eq_true rfl, Nat.le_of_ble_eq_true rfl⟩) hK hP rfl rfl rfl rfl rfl hl.1 (Nat.le_of_ble_eq_true rfl) dX1_chargeFor_103 ⟨Nat.zero_le _, Nat.zero_le _⟩ ?_
        refine lv_bipush (v := 100) hx hb dX1_chargeFor_106 (by decide) ?_
        refine lv_iload hx hb dX1_chargeFor_108 (lv_at hl 0 rfl) ?_
        refine lv_iadd hx hb dX1_chargeFor_110 ?_
        refine lv_imul hx hb dX1_chargeFor_111 ?_
        refine lv_bipush (v := 100) hx hb dX1_chargeFor_112 (by decide) ?_
        refine lv_idiv hx hb dX1_chargeFor_114 (by decide) ?_
        exact hend 115 ls _ dX1_chargeFor_115 (by unfold sCh sMg; rw [if_pos (by rw [← hiN, ← ex3]; exact Int32.not_lt.mp c_81)])
    | succ n ih_12 =>
      intro i x3 ls hin_12 ex3 hl
      have hiN : i < N := by omega
      refine lv_iload hx hb dX1_chargeFor_12 (lv_at hl 4 rfl) ?_
      refine lv_aload_n hx hb dX1_chargeFor_14 rfl (lv_at hl 0 rfl) ?_
      refine va_get (D := D) (ci := 1) (v := .int (F 7 0)) (C := RX1) (T := TX1) (N := 16) hx hb hts hi hown hK hP 0 rfl rfl 7 (by decide) (hts (.fieldLink RX1 60 "AssignmentHouseModel" "shifts" "I") (by decide +kernel)) (fun _ h9 => h9) rfl dX1_chargeFor_15 ?_
      refine lv_icmp_ge (tgt := 74) hx hb dX1_chargeFor_18 (by decide) (fun c_18 => (absurd (((br_ge hc (by omega) (by omega : i ≤ N)).mp c_18)) (by omega) : False).elim) (fun c_18 => ?_)
      refine lv_iload_n hx hb dX1_chargeFor_21 rfl (lv_at hl 3 rfl) ?_
      refine lv_aload_n hx hb dX1_chargeFor_22 rfl (lv_at hl 0 rfl) ?_
      refine va_get (D := D) (ci := 1) (v := .ref (a 9)) (C := RX1) (T := TX1) (N := 16) hx hb hts hi hown hK hP 0 rfl rfl 9 (by decide) (hts (.fieldLink RX1 35 "AssignmentHouseModel" "sites" "[I") (by decide +kernel)) (fun _ h9 => h9) rfl dX1_chargeFor_23 ?_
      refine lv_iload hx hb dX1_chargeFor_26 (lv_at hl 4 rfl) ?_
      refine ri_ald (j := i) hx hb hK hP 7 rfl (rfl) (by omega) (by decide) dX1_chargeFor_28 ?_
      refine lv_iload_n hx hb dX1_chargeFor_29 rfl (lv_at hl 2 rfl) ?_
      refine lv_icmp_ne (tgt := 65) hx hb dX1_chargeFor_30 (by decide) (fun c_30 => ?_) (fun c_30 => ?_)
      · skip
        refine lv_iconst (v := 0) hx hb dX1_chargeFor_65 (by decide) ?_
        refine lv_iadd hx hb dX1_chargeFor_66 ?_
        refine lv_istore_n (lv' := [(3, .int (x3 + 0)), (0, .ref (a 16)), (1, .int (nI one)), (2, .int (F 9 one)), (4, .int (nI i))]) hx hb dX1_chargeFor_67 rfl hl (by decide) rfl (fun ls hl => ?_)
        refine lv_iinc (v := (nI (i + 1))) (lv' := [(4, .int (nI (i + 1))), (3, .int (x3 + 0)), (0, .ref (a 16)), (1, .int (nI one)), (2, .int (F 9 one))]) hx hb dX1_chargeFor_68 hl (k := 4) rfl (nI_1 i) (by decide) rfl (fun ls hl => ?_)
        refine lv_goto (tgt := 12) hx hb dX1_chargeFor_71 (by decide) ?_
        exact ih_12 (i + 1) _ ls (by omega) (by rw [ps_s, ex3]; unfold tAt; rw [if_neg (fun h => c_30 h.1)]) (lv_sub hl [2, 3, 4, 1, 0] rfl)
      · skip
        refine lv_aload_n hx hb dX1_chargeFor_33 rfl (lv_at hl 0 rfl) ?_
        refine va_get (D := D) (ci := 1) (v := .ref (a 10)) (C := RX1) (T := TX1) (N := 16) hx hb hts hi hown hK hP 0 rfl rfl 10 (by decide) (hts (.fieldLink RX1 38 "AssignmentHouseModel" "days" "[I") (by decide +kernel)) (fun _ h9 => h9) rfl dX1_chargeFor_34 ?_
        refine lv_iload hx hb dX1_chargeFor_37 (lv_at hl 4 rfl) ?_
        refine ri_ald (j := i) hx hb hK hP 8 rfl (rfl) (by omega) (by decide) dX1_chargeFor_39 ?_
        refine lv_bipush (v := 7) hx hb dX1_chargeFor_40 (by decide) ?_
        refine lv_idiv hx hb dX1_chargeFor_42 (by decide) ?_
        refine lv_aload_n hx hb dX1_chargeFor_43 rfl (lv_at hl 0 rfl) ?_
        refine va_get (D := D) (ci := 1) (v := .ref (a 10)) (C := RX1) (T := TX1) (N := 16) hx hb hts hi hown hK hP 0 rfl rfl 10 (by decide) (hts (.fieldLink RX1 38 "AssignmentHouseModel" "days" "[I") (by decide +kernel)) (fun _ h9 => h9) rfl dX1_chargeFor_44 ?_
        refine lv_iload_n hx hb dX1_chargeFor_47 rfl (lv_at hl 1 rfl) ?_
        refine ri_ald (j := one) hx hb hK hP 8 rfl (rfl) (by omega) (by decide) dX1_chargeFor_48 ?_
        refine lv_bipush (v := 7) hx hb dX1_chargeFor_49 (by decide) ?_
        refine lv_idiv hx hb dX1_chargeFor_51 (by decide) ?_
        refine lv_icmp_ne (tgt := 65) hx hb dX1_chargeFor_52 (by decide) (fun c_52 => ?_) (fun c_52 => ?_)
        · skip
          refine lv_iconst (v := 0) hx hb dX1_chargeFor_65 (by decide) ?_
          refine lv_iadd hx hb dX1_chargeFor_66 ?_
          refine lv_istore_n (lv' := [(3, .int (x3 + 0)), (0, .ref (a 16)), (1, .int (nI one)), (2, .int (F 9 one)), (4, .int (nI i))]) hx hb dX1_chargeFor_67 rfl hl (by decide) rfl (fun ls hl => ?_)
          refine lv_iinc (v := (nI (i + 1))) (lv' := [(4, .int (nI (i + 1))), (3, .int (x3 + 0)), (0, .ref (a 16)), (1, .int (nI one)), (2, .int (F 9 one))]) hx hb dX1_chargeFor_68 hl (k := 4) rfl (nI_1 i) (by decide) rfl (fun ls hl => ?_)
          refine lv_goto (tgt := 12) hx hb dX1_chargeFor_71 (by decide) ?_
          exact ih_12 (i + 1) _ ls (by omega) (by rw [ps_s, ex3]; unfold tAt; rw [if_neg (fun h => c_52 h.2)]) (lv_sub hl [2, 3, 4, 1, 0] rfl)
        · skip
          refine lv_aload_n hx hb dX1_chargeFor_55 rfl (lv_at hl 0 rfl) ?_
          refine va_get (D := D) (ci := 1) (v := .ref (a 11)) (C := RX1) (T := TX1) (N := 16) hx hb hts hi hown hK hP 0 rfl rfl 11 (by decide) (hts (.fieldLink RX1 41 "AssignmentHouseModel" "hours" "[I") (by decide +kernel)) (fun _ h9 => h9) rfl dX1_chargeFor_56 ?_
          refine lv_iload hx hb dX1_chargeFor_59 (lv_at hl 4 rfl) ?_
          refine ri_ald (j := i) hx hb hK hP 9 rfl (rfl) (by omega) (by decide) dX1_chargeFor_61 ?_
          refine lv_goto (tgt := 66) hx hb dX1_chargeFor_62 (by decide) ?_
          refine lv_iadd hx hb dX1_chargeFor_66 ?_
          refine lv_istore_n (lv' := [(3, .int (x3 + (F 11 i))), (0, .ref (a 16)), (1, .int (nI one)), (2, .int (F 9 one)), (4, .int (nI i))]) hx hb dX1_chargeFor_67 rfl hl (by decide) rfl (fun ls hl => ?_)
          refine lv_iinc (v := (nI (i + 1))) (lv' := [(4, .int (nI (i + 1))), (3, .int (x3 + (F 11 i))), (0, .ref (a 16)), (1, .int (nI one)), (2, .int (F 9 one))]) hx hb dX1_chargeFor_68 hl (k := 4) rfl (nI_1 i) (by decide) rfl (fun ls hl => ?_)
          refine lv_goto (tgt := 12) hx hb dX1_chargeFor_71 (by decide) ?_
          exact ih_12 (i + 1) _ ls (by omega) (by rw [ps_s, ex3]; unfold tAt; rw [if_pos ⟨c_30, c_52⟩]) (lv_sub hl [2, 3, 4, 1, 0] rfl)
  exact K_12 N 0 _ ls (by omega) (rfl) (lv_sub hl [3, 4, 2, 1, 0] rfl)

set_option maxHeartbeats 4000000 in
set_option maxRecDepth 100000 in
theorem c_X1_payIn (l : Launch) (D : va_G) (cA : ClassId) (a : Nat → Nat) (F : Nat → Nat → Int32) (th : Int32) (N : Nat) (hW : wf F N) (w k : Int32) : Rd l D cA (wM a cA F th) yX1_payIn wsX1_payIn rmX1_payIn [.ref (a 16), .int w, .int k] (ps (tPw F N w k) N) := by
  refine Rd.of (cc := cX1_payIn) (maxL := 5) (by decide) rfl (Nat.le_of_ble_eq_true rfl) ?_
  intro p e s m args below meth c ls Q hx hb hts hown hml hK hP hl hend
  have hown : s.vm.findClass RX1 = some m.cls := hown
  have hi : ∀ w ∈ wsX10, w ∈ wsX1_payIn := by decide +kernel
  have hl : lv_has ls 5 [(0, .ref (a 16)), (1, .int w), (2, .int k)] := hl
  have hN : N ≤ 80 := hW.n
  have hc : F 7 0 = nI N := hW.c
  refine lv_iconst (v := 0) hx hb dX1_payIn_0 (by decide) ?_
  refine lv_istore_n (lv' := [(3, .int 0), (0, .ref (a 16)), (1, .int w), (2, .int k)]) hx hb dX1_payIn_1 rfl hl (by decide) rfl (fun ls hl => ?_)
  refine lv_iconst (v := 0) hx hb dX1_payIn_2 (by decide) ?_
  refine lv_istore (lv' := [(4, .int 0), (3, .int 0), (0, .ref (a 16)), (1, .int w), (2, .int k)]) hx hb dX1_payIn_3 hl (by decide) rfl (fun ls hl => ?_)
  have K_5 : ∀ (n i : Nat) (x3 : Int32) (ls : Array Slot), i + n = N → x3 = ps (tPw F N w k) i → lv_has ls 5 [(0, .ref (a 16)), (1, .int w), (2, .int k), (3, .int x3), (4, .int (nI i))] → W p l e rmX1_payIn s m args below meth c s.heap [] 0 0 Q (F0 m 5 ls []) := by
    intro n
    induction n with
    | zero =>
      intro i x3 ls hin_5 ex3 hl
      have hiN : i = N := by omega
      refine lv_iload hx hb dX1_payIn_5 (lv_at hl 4 rfl) ?_
      refine lv_aload_n hx hb dX1_payIn_7 rfl (lv_at hl 0 rfl) ?_
      refine va_get (D := D) (ci := 1) (v := .int (F 7 0)) (C := RX1) (T := TX1) (N := 16) hx hb hts hi hown hK hP 0 rfl rfl 7 (by decide) (hts (.fieldLink RX1 60 "AssignmentHouseModel" "shifts" "I") (by decide +kernel)) (fun _ h9 => h9) rfl dX1_payIn_8 ?_
      refine lv_icmp_ge (tgt := 58) hx hb dX1_payIn_11 (by decide) (fun c_11 => ?_) (fun c_11 => (absurd (((br_ge hc (by omega) (by omega : i ≤ N)).mpr hiN)) c_11 : False).elim)
      refine lv_iload_n hx hb dX1_payIn_58 rfl (lv_at hl 3 rfl) ?_
      exact hend 59 ls _ dX1_payIn_59 (by rw [ex3, hiN])
    | succ n ih_5 =>
      intro i x3 ls hin_5 ex3 hl
      have hiN : i < N := by omega
      refine lv_iload hx hb dX1_payIn_5 (lv_at hl 4 rfl) ?_
      refine lv_aload_n hx hb dX1_payIn_7 rfl (lv_at hl 0 rfl) ?_
      refine va_get (D := D) (ci := 1) (v := .int (F 7 0)) (C := RX1) (T := TX1) (N := 16) hx hb hts hi hown hK hP 0 rfl rfl 7 (by decide) (hts (.fieldLink RX1 60 "AssignmentHouseModel" "shifts" "I") (by decide +kernel)) (fun _ h9 => h9) rfl dX1_payIn_8 ?_
      refine lv_icmp_ge (tgt := 58) hx hb dX1_payIn_11 (by decide) (fun c_11 => (absurd (((br_ge hc (by omega) (by omega : i ≤ N)).mp c_11)) (by omega) : False).elim) (fun c_11 => ?_)
      refine lv_iload_n hx hb dX1_payIn_14 rfl (lv_at hl 3 rfl) ?_
      refine lv_aload_n hx hb dX1_payIn_15 rfl (lv_at hl 0 rfl) ?_
      refine va_get (D := D) (ci := 1) (v := .ref (a 8)) (C := RX1) (T := TX1) (N := 16) hx hb hts hi hown hK hP 0 rfl rfl 8 (by decide) (hts (.fieldLink RX1 32 "AssignmentHouseModel" "workers" "[I") (by decide +kernel)) (fun _ h9 => h9) rfl dX1_payIn_16 ?_
      refine lv_iload hx hb dX1_payIn_19 (lv_at hl 4 rfl) ?_
      refine ri_ald (j := i) hx hb hK hP 6 rfl (rfl) (by omega) (by decide) dX1_payIn_21 ?_
      refine lv_iload_n hx hb dX1_payIn_22 rfl (lv_at hl 1 rfl) ?_
      refine lv_icmp_ne (tgt := 49) hx hb dX1_payIn_23 (by decide) (fun c_23 => ?_) (fun c_23 => ?_)
      · skip
        refine lv_iconst (v := 0) hx hb dX1_payIn_49 (by decide) ?_
        refine lv_iadd hx hb dX1_payIn_50 ?_
        refine lv_istore_n (lv' := [(3, .int (x3 + 0)), (0, .ref (a 16)), (1, .int w), (2, .int k), (4, .int (nI i))]) hx hb dX1_payIn_51 rfl hl (by decide) rfl (fun ls hl => ?_)
        refine lv_iinc (v := (nI (i + 1))) (lv' := [(4, .int (nI (i + 1))), (3, .int (x3 + 0)), (0, .ref (a 16)), (1, .int w), (2, .int k)]) hx hb dX1_payIn_52 hl (k := 4) rfl (nI_1 i) (by decide) rfl (fun ls hl => ?_)
        refine lv_goto (tgt := 5) hx hb dX1_payIn_55 (by decide) ?_
        exact ih_5 (i + 1) _ ls (by omega) (by rw [ps_s, ex3]; unfold tPw; rw [if_neg (fun h => c_23 h.1)]) (lv_sub hl [2, 3, 4, 1, 0] rfl)
      · skip
        refine lv_aload_n hx hb dX1_payIn_26 rfl (lv_at hl 0 rfl) ?_
        refine va_get (D := D) (ci := 1) (v := .ref (a 10)) (C := RX1) (T := TX1) (N := 16) hx hb hts hi hown hK hP 0 rfl rfl 10 (by decide) (hts (.fieldLink RX1 38 "AssignmentHouseModel" "days" "[I") (by decide +kernel)) (fun _ h9 => h9) rfl dX1_payIn_27 ?_
        refine lv_iload hx hb dX1_payIn_30 (lv_at hl 4 rfl) ?_
        refine ri_ald (j := i) hx hb hK hP 8 rfl (rfl) (by omega) (by decide) dX1_payIn_32 ?_
        refine lv_bipush (v := 7) hx hb dX1_payIn_33 (by decide) ?_
        refine lv_idiv hx hb dX1_payIn_35 (by decide) ?_
        refine lv_iload_n hx hb dX1_payIn_36 rfl (lv_at hl 2 rfl) ?_
        refine lv_icmp_ne (tgt := 49) hx hb dX1_payIn_37 (by decide) (fun c_37 => ?_) (fun c_37 => ?_)
        · skip
          refine lv_iconst (v := 0) hx hb dX1_payIn_49 (by decide) ?_
          refine lv_iadd hx hb dX1_payIn_50 ?_
          refine lv_istore_n (lv' := [(3, .int (x3 + 0)), (0, .ref (a 16)), (1, .int w), (2, .int k), (4, .int (nI i))]) hx hb dX1_payIn_51 rfl hl (by decide) rfl (fun ls hl => ?_)
          refine lv_iinc (v := (nI (i + 1))) (lv' := [(4, .int (nI (i + 1))), (3, .int (x3 + 0)), (0, .ref (a 16)), (1, .int w), (2, .int k)]) hx hb dX1_payIn_52 hl (k := 4) rfl (nI_1 i) (by decide) rfl (fun ls hl => ?_)
          refine lv_goto (tgt := 5) hx hb dX1_payIn_55 (by decide) ?_
          exact ih_5 (i + 1) _ ls (by omega) (by rw [ps_s, ex3]; unfold tPw; rw [if_neg (fun h => c_37 h.2)]) (lv_sub hl [2, 3, 4, 1, 0] rfl)
        · skip
          refine lv_aload_n hx hb dX1_payIn_40 rfl (lv_at hl 0 rfl) ?_
          refine lv_iload hx hb dX1_payIn_41 (lv_at hl 4 rfl) ?_
          refine Rd.callV (rest := [.int x3]) (q0 := 0) (ci := 1) ⟨hx, hb, hml, hown, hts⟩ (c_X1_payFor l D cA a F th N hW (nI i) i rfl (by omega)) (cwV 1 hts gX1_payIn_X1_payFor rfl rfl rfl (by decide +kernel) ⟨Nat.le_of_ble_eq_true rfl, Nat.le_of_ble_eq_true rfl⟩) hK hP rfl rfl rfl rfl rfl hl.1 (Nat.le_of_ble_eq_true rfl) dX1_payIn_43 ⟨Nat.zero_le _, Nat.zero_le _⟩ ?_
          refine lv_goto (tgt := 50) hx hb dX1_payIn_46 (by decide) ?_
          refine lv_iadd hx hb dX1_payIn_50 ?_
          refine lv_istore_n (lv' := [(3, .int (x3 + (sPy F N i))), (0, .ref (a 16)), (1, .int w), (2, .int k), (4, .int (nI i))]) hx hb dX1_payIn_51 rfl hl (by decide) rfl (fun ls hl => ?_)
          refine lv_iinc (v := (nI (i + 1))) (lv' := [(4, .int (nI (i + 1))), (3, .int (x3 + (sPy F N i))), (0, .ref (a 16)), (1, .int w), (2, .int k)]) hx hb dX1_payIn_52 hl (k := 4) rfl (nI_1 i) (by decide) rfl (fun ls hl => ?_)
          refine lv_goto (tgt := 5) hx hb dX1_payIn_55 (by decide) ?_
          exact ih_5 (i + 1) _ ls (by omega) (by rw [ps_s, ex3]; unfold tPw; rw [if_pos ⟨c_23, c_37⟩]) (lv_sub hl [2, 3, 4, 1, 0] rfl)
  exact K_5 N 0 _ ls (by omega) (rfl) (lv_sub hl [2, 3, 4, 1, 0] rfl)

set_option maxHeartbeats 4000000 in
set_option maxRecDepth 100000 in
theorem c_X1_chargesIn (l : Launch) (D : va_G) (cA : ClassId) (a : Nat → Nat) (F : Nat → Nat → Int32) (th : Int32) (N : Nat) (hW : wf F N) (w k : Int32) : Rd l D cA (wM a cA F th) yX1_chargesIn wsX1_chargesIn rmX1_chargesIn [.ref (a 16), .int w, .int k] (ps (tCt F N w k) N) := by
  refine Rd.of (cc := cX1_chargesIn) (maxL := 5) (by decide) rfl (Nat.le_of_ble_eq_true rfl) ?_
  intro p e s m args below meth c ls Q hx hb hts hown hml hK hP hl hend
  have hown : s.vm.findClass RX1 = some m.cls := hown
  have hi : ∀ w ∈ wsX10, w ∈ wsX1_chargesIn := by decide +kernel
  have hl : lv_has ls 5 [(0, .ref (a 16)), (1, .int w), (2, .int k)] := hl
  have hN : N ≤ 80 := hW.n
  have hc : F 7 0 = nI N := hW.c
  refine lv_iconst (v := 0) hx hb dX1_chargesIn_0 (by decide) ?_
  refine lv_istore_n (lv' := [(3, .int 0), (0, .ref (a 16)), (1, .int w), (2, .int k)]) hx hb dX1_chargesIn_1 rfl hl (by decide) rfl (fun ls hl => ?_)
  refine lv_iconst (v := 0) hx hb dX1_chargesIn_2 (by decide) ?_
  refine lv_istore (lv' := [(4, .int 0), (3, .int 0), (0, .ref (a 16)), (1, .int w), (2, .int k)]) hx hb dX1_chargesIn_3 hl (by decide) rfl (fun ls hl => ?_)
  have K_5 : ∀ (n i : Nat) (x3 : Int32) (ls : Array Slot), i + n = N → x3 = ps (tCt F N w k) i → lv_has ls 5 [(0, .ref (a 16)), (1, .int w), (2, .int k), (3, .int x3), (4, .int (nI i))] → W p l e rmX1_chargesIn s m args below meth c s.heap [] 0 0 Q (F0 m 5 ls []) := by
    intro n
    induction n with
    | zero =>
      intro i x3 ls hin_5 ex3 hl
      have hiN : i = N := by omega
      refine lv_iload hx hb dX1_chargesIn_5 (lv_at hl 4 rfl) ?_
      refine lv_aload_n hx hb dX1_chargesIn_7 rfl (lv_at hl 0 rfl) ?_
      refine va_get (D := D) (ci := 1) (v := .int (F 7 0)) (C := RX1) (T := TX1) (N := 16) hx hb hts hi hown hK hP 0 rfl rfl 7 (by decide) (hts (.fieldLink RX1 60 "AssignmentHouseModel" "shifts" "I") (by decide +kernel)) (fun _ h9 => h9) rfl dX1_chargesIn_8 ?_
      refine lv_icmp_ge (tgt := 58) hx hb dX1_chargesIn_11 (by decide) (fun c_11 => ?_) (fun c_11 => (absurd (((br_ge hc (by omega) (by omega : i ≤ N)).mpr hiN)) c_11 : False).elim)
      refine lv_iload_n hx hb dX1_chargesIn_58 rfl (lv_at hl 3 rfl) ?_
      exact hend 59 ls _ dX1_chargesIn_59 (by rw [ex3, hiN])
    | succ n ih_5 =>
      intro i x3 ls hin_5 ex3 hl
      have hiN : i < N := by omega
      refine lv_iload hx hb dX1_chargesIn_5 (lv_at hl 4 rfl) ?_
      refine lv_aload_n hx hb dX1_chargesIn_7 rfl (lv_at hl 0 rfl) ?_
      refine va_get (D := D) (ci := 1) (v := .int (F 7 0)) (C := RX1) (T := TX1) (N := 16) hx hb hts hi hown hK hP 0 rfl rfl 7 (by decide) (hts (.fieldLink RX1 60 "AssignmentHouseModel" "shifts" "I") (by decide +kernel)) (fun _ h9 => h9) rfl dX1_chargesIn_8 ?_
      refine lv_icmp_ge (tgt := 58) hx hb dX1_chargesIn_11 (by decide) (fun c_11 => (absurd (((br_ge hc (by omega) (by omega : i ≤ N)).mp c_11)) (by omega) : False).elim) (fun c_11 => ?_)
      refine lv_iload_n hx hb dX1_chargesIn_14 rfl (lv_at hl 3 rfl) ?_
      refine lv_aload_n hx hb dX1_chargesIn_15 rfl (lv_at hl 0 rfl) ?_
      refine va_get (D := D) (ci := 1) (v := .ref (a 9)) (C := RX1) (T := TX1) (N := 16) hx hb hts hi hown hK hP 0 rfl rfl 9 (by decide) (hts (.fieldLink RX1 35 "AssignmentHouseModel" "sites" "[I") (by decide +kernel)) (fun _ h9 => h9) rfl dX1_chargesIn_16 ?_
      refine lv_iload hx hb dX1_chargesIn_19 (lv_at hl 4 rfl) ?_
      refine ri_ald (j := i) hx hb hK hP 7 rfl (rfl) (by omega) (by decide) dX1_chargesIn_21 ?_
      refine lv_iload_n hx hb dX1_chargesIn_22 rfl (lv_at hl 1 rfl) ?_
      refine lv_icmp_ne (tgt := 49) hx hb dX1_chargesIn_23 (by decide) (fun c_23 => ?_) (fun c_23 => ?_)
      · skip
        refine lv_iconst (v := 0) hx hb dX1_chargesIn_49 (by decide) ?_
        refine lv_iadd hx hb dX1_chargesIn_50 ?_
        refine lv_istore_n (lv' := [(3, .int (x3 + 0)), (0, .ref (a 16)), (1, .int w), (2, .int k), (4, .int (nI i))]) hx hb dX1_chargesIn_51 rfl hl (by decide) rfl (fun ls hl => ?_)
        refine lv_iinc (v := (nI (i + 1))) (lv' := [(4, .int (nI (i + 1))), (3, .int (x3 + 0)), (0, .ref (a 16)), (1, .int w), (2, .int k)]) hx hb dX1_chargesIn_52 hl (k := 4) rfl (nI_1 i) (by decide) rfl (fun ls hl => ?_)
        refine lv_goto (tgt := 5) hx hb dX1_chargesIn_55 (by decide) ?_
        exact ih_5 (i + 1) _ ls (by omega) (by rw [ps_s, ex3]; unfold tCt; rw [if_neg (fun h => c_23 h.1)]) (lv_sub hl [2, 3, 4, 1, 0] rfl)
      · skip
        refine lv_aload_n hx hb dX1_chargesIn_26 rfl (lv_at hl 0 rfl) ?_
        refine va_get (D := D) (ci := 1) (v := .ref (a 10)) (C := RX1) (T := TX1) (N := 16) hx hb hts hi hown hK hP 0 rfl rfl 10 (by decide) (hts (.fieldLink RX1 38 "AssignmentHouseModel" "days" "[I") (by decide +kernel)) (fun _ h9 => h9) rfl dX1_chargesIn_27 ?_
        refine lv_iload hx hb dX1_chargesIn_30 (lv_at hl 4 rfl) ?_
        refine ri_ald (j := i) hx hb hK hP 8 rfl (rfl) (by omega) (by decide) dX1_chargesIn_32 ?_
        refine lv_bipush (v := 7) hx hb dX1_chargesIn_33 (by decide) ?_
        refine lv_idiv hx hb dX1_chargesIn_35 (by decide) ?_
        refine lv_iload_n hx hb dX1_chargesIn_36 rfl (lv_at hl 2 rfl) ?_
        refine lv_icmp_ne (tgt := 49) hx hb dX1_chargesIn_37 (by decide) (fun c_37 => ?_) (fun c_37 => ?_)
        · skip
          refine lv_iconst (v := 0) hx hb dX1_chargesIn_49 (by decide) ?_
          refine lv_iadd hx hb dX1_chargesIn_50 ?_
          refine lv_istore_n (lv' := [(3, .int (x3 + 0)), (0, .ref (a 16)), (1, .int w), (2, .int k), (4, .int (nI i))]) hx hb dX1_chargesIn_51 rfl hl (by decide) rfl (fun ls hl => ?_)
          refine lv_iinc (v := (nI (i + 1))) (lv' := [(4, .int (nI (i + 1))), (3, .int (x3 + 0)), (0, .ref (a 16)), (1, .int w), (2, .int k)]) hx hb dX1_chargesIn_52 hl (k := 4) rfl (nI_1 i) (by decide) rfl (fun ls hl => ?_)
          refine lv_goto (tgt := 5) hx hb dX1_chargesIn_55 (by decide) ?_
          exact ih_5 (i + 1) _ ls (by omega) (by rw [ps_s, ex3]; unfold tCt; rw [if_neg (fun h => c_37 h.2)]) (lv_sub hl [2, 3, 4, 1, 0] rfl)
        · skip
          refine lv_aload_n hx hb dX1_chargesIn_40 rfl (lv_at hl 0 rfl) ?_
          refine lv_iload hx hb dX1_chargesIn_41 (lv_at hl 4 rfl) ?_
          refine Rd.callV (rest := [.int x3]) (q0 := 0) (ci := 1) ⟨hx, hb, hml, hown, hts⟩ (c_X1_chargeFor l D cA a F th N hW (nI i) i rfl (by omega)) (cwV 1 hts gX1_chargesIn_X1_chargeFor rfl rfl rfl (by decide +kernel) ⟨Nat.le_of_ble_eq_true rfl, Nat.le_of_ble_eq_true rfl⟩) hK hP rfl rfl rfl rfl rfl hl.1 (Nat.le_of_ble_eq_true rfl) dX1_chargesIn_43 ⟨Nat.zero_le _, Nat.zero_le _⟩ ?_
          refine lv_goto (tgt := 50) hx hb dX1_chargesIn_46 (by decide) ?_
          refine lv_iadd hx hb dX1_chargesIn_50 ?_
          refine lv_istore_n (lv' := [(3, .int (x3 + (sCh F N i))), (0, .ref (a 16)), (1, .int w), (2, .int k), (4, .int (nI i))]) hx hb dX1_chargesIn_51 rfl hl (by decide) rfl (fun ls hl => ?_)
          refine lv_iinc (v := (nI (i + 1))) (lv' := [(4, .int (nI (i + 1))), (3, .int (x3 + (sCh F N i))), (0, .ref (a 16)), (1, .int w), (2, .int k)]) hx hb dX1_chargesIn_52 hl (k := 4) rfl (nI_1 i) (by decide) rfl (fun ls hl => ?_)
          refine lv_goto (tgt := 5) hx hb dX1_chargesIn_55 (by decide) ?_
          exact ih_5 (i + 1) _ ls (by omega) (by rw [ps_s, ex3]; unfold tCt; rw [if_pos ⟨c_23, c_37⟩]) (lv_sub hl [2, 3, 4, 1, 0] rfl)
  exact K_5 N 0 _ ls (by omega) (rfl) (lv_sub hl [2, 3, 4, 1, 0] rfl)

set_option maxHeartbeats 4000000 in
set_option maxRecDepth 100000 in
theorem c_X1_left (l : Launch) (D : va_G) (cA : ClassId) (a : Nat → Nat) (F : Nat → Nat → Int32) (th : Int32) (N : Nat) (hW : wf F N) (x : Int32) (j : Nat) (ei : x = nI j) (hj : j < 6) : Rd l D cA (wM a cA F th) yX1_left wsX1_left rmX1_left [.ref (a 16), .int x] (7 * ps (tHr F x) N - F 14 j) := by
  refine Rd.of (cc := cX1_left) (maxL := 2) (by decide) rfl (Nat.le_of_ble_eq_true rfl) ?_
  intro p e s m args below meth c ls Q hx hb hts hown hml hK hP hl hend
  have hown : s.vm.findClass RX1 = some m.cls := hown
  have hi : ∀ w ∈ wsX10, w ∈ wsX1_left := by decide +kernel
  have hl : lv_has ls 2 [(0, .ref (a 16)), (1, .int x)] := hl
  have hN : N ≤ 80 := hW.n
  have hc : F 7 0 = nI N := hW.c
  refine lv_aload_n hx hb dX1_left_0 rfl (lv_at hl 0 rfl) ?_
  refine lv_iload_n hx hb dX1_left_1 rfl (lv_at hl 1 rfl) ?_
  refine Rd.callV (rest := []) (q0 := 0) (ci := 1) ⟨hx, hb, hml, hown, hts⟩ (c_X1_earned l D cA a F th N hW x) (cwV 1 hts gX1_left_X1_earned rfl rfl rfl (by decide +kernel) ⟨Nat.le_of_ble_eq_true rfl, Nat.le_of_ble_eq_true rfl⟩) hK hP rfl rfl rfl rfl rfl hl.1 (Nat.le_of_ble_eq_true rfl) dX1_left_2 ⟨Nat.zero_le _, Nat.zero_le _⟩ ?_
  refine lv_aload_n hx hb dX1_left_5 rfl (lv_at hl 0 rfl) ?_
  refine va_get (D := D) (ci := 1) (v := .ref (a 14)) (C := RX1) (T := TX1) (N := 16) hx hb hts hi hown hK hP 0 rfl rfl 14 (by decide) (hts (.fieldLink RX1 50 "AssignmentHouseModel" "taken" "[I") (by decide +kernel)) (fun _ h9 => h9) rfl dX1_left_6 ?_
  refine lv_iload_n hx hb dX1_left_9 rfl (lv_at hl 1 rfl) ?_
  refine ri_ald (j := j) hx hb hK hP 12 rfl (ei) (by omega) (by decide) dX1_left_10 ?_
  refine lv_isub hx hb dX1_left_11 ?_
  exact hend 12 ls _ dX1_left_12 (rfl)


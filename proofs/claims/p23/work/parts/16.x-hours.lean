/-! the class: payByHours; by program (wip/whole/gen) -/
abbrev rmX0_payByHours : Room := { frames := 4, cells := 0, slots := 0, locals := 95 }
abbrev rbX0_payByHours : Room := { frames := 7, cells := 1, slots := 6, locals := 111 }
set_option maxHeartbeats 4000000 in
set_option maxRecDepth 100000 in
theorem c_X0_payByHours (l : Launch) (D : va_G) (cA : ClassId) (a : Nat → Nat) (F : Nat → Nat → Int32) (g : Nat → Int32) (N : Nat) (hW : wf F N) (z0 z1 : Int32) (h1 : cI z0 6) (h2 : cI z1 20) : Rd l D cA (wX a cA F g) yX0_payByHours wsX0_payByHours rmX0_payByHours [.ref (a 16), .int z0, .int z1] (ps (tPw F N z0 z1) N) := by
  refine Rd.of (cc := cX0_payByHours) (maxL := 13) (by decide) rfl (Nat.le_of_ble_eq_true rfl) ?_
  intro p e s m args below meth c ls Q hx hb hts hown hml hK hP hl hend
  have hown : s.vm.findClass RX0 = some m.cls := hown
  have hi : ∀ w ∈ wsX00, w ∈ wsX0_payByHours := by decide +kernel
  have hl : lv_has ls 13 [(0, .ref (a 16)), (1, .int z0), (2, .int z1)] := hl
  have hN : N ≤ 80 := hW.n
  have hc : F 7 0 = nI N := hW.c
  obtain ⟨hjz0, ejz0⟩ := cI_of h1 (n := 6) (rfl) (by omega)
  obtain ⟨hjz1, ejz1⟩ := cI_of h2 (n := 20) (rfl) (by omega)
  have h7 : (7 : Int32) = nI 7 := rfl
  refine lv_iload_n hx hb dX0_payByHours_0 rfl (lv_at hl 1 rfl) ?_
  refine lv_bipush (v := 6) hx hb dX0_payByHours_1 (by decide) ?_
  refine Ru.callS (rest := []) ⟨hx, hb, hml, hown, hts⟩ (c_X0_needOneOf l D cA z0 6 h1.1 h1.2) (va_cwS 2 hts gX0_payByHours_X0_needOneOf rfl rfl rfl (by decide +kernel) ⟨Nat.le_of_ble_eq_true rfl, Nat.le_of_ble_eq_true rfl⟩) hK noP rfl rfl hl.1 (Nat.le_of_ble_eq_true rfl) dX0_payByHours_3 ⟨Nat.zero_le _, Nat.zero_le _⟩ ?_
  refine lv_iload_n hx hb dX0_payByHours_6 rfl (lv_at hl 2 rfl) ?_
  refine lv_bipush (v := 20) hx hb dX0_payByHours_7 (by decide) ?_
  refine Ru.callS (rest := []) ⟨hx, hb, hml, hown, hts⟩ (c_X0_needOneOf l D cA z1 20 h2.1 h2.2) (va_cwS 2 hts gX0_payByHours_X0_needOneOf rfl rfl rfl (by decide +kernel) ⟨Nat.le_of_ble_eq_true rfl, Nat.le_of_ble_eq_true rfl⟩) hK noP rfl rfl hl.1 (Nat.le_of_ble_eq_true rfl) dX0_payByHours_9 ⟨Nat.zero_le _, Nat.zero_le _⟩ ?_
  refine lv_iconst (v := 0) hx hb dX0_payByHours_12 (by decide) ?_
  refine lv_istore_n (lv' := [(3, .int 0), (0, .ref (a 16)), (1, .int z0), (2, .int z1)]) hx hb dX0_payByHours_13 rfl hl (by decide) rfl (fun ls hl => ?_)
  refine lv_iconst (v := 0) hx hb dX0_payByHours_14 (by decide) ?_
  refine lv_istore (lv' := [(4, .int 0), (3, .int 0), (0, .ref (a 16)), (1, .int z0), (2, .int z1)]) hx hb dX0_payByHours_15 hl (by decide) rfl (fun ls hl => ?_)
  refine lv_iconst (v := 0) hx hb dX0_payByHours_17 (by decide) ?_
  refine lv_istore (lv' := [(5, .int 0), (4, .int 0), (3, .int 0), (0, .ref (a 16)), (1, .int z0), (2, .int z1)]) hx hb dX0_payByHours_18 hl (by decide) rfl (fun ls hl => ?_)
  have K_20 : ∀ (n i : Nat) (x3 : Int32) (x4 : Int32) (ls : Array Slot), i + n = 7 → x3 = (ps (fun j => ps (tDy F N z0 (7 * z1.toNatClampNeg + j)) N) i) → x4 = nI (min 40 (wkS F z0 N (7 * z1.toNatClampNeg) i)) → lv_has ls 13 [(0, .ref (a 16)), (1, .int z0), (2, .int z1), (3, .int x3), (4, .int x4), (5, .int (nI i))] → W p l e rmX0_payByHours s m args below meth c s.heap [] 0 0 Q (F0 m 20 ls []) := by
    intro n
    induction n with
    | zero =>
      intro i x3 x4 ls hin_20 ex3 ex4 hl
      have hiN : i = 7 := by omega
      refine lv_iload hx hb dX0_payByHours_20 (lv_at hl 5 rfl) ?_
      refine lv_bipush (v := 7) hx hb dX0_payByHours_22 (by decide) ?_
      refine lv_icmp_ge (tgt := 185) hx hb dX0_payByHours_24 (by decide) (fun c_24 => ?_) (fun c_24 => (absurd (((br_ge h7 (by omega) (by omega : i ≤ 7)).mpr hiN)) c_24 : False).elim)
      refine lv_iload_n hx hb dX0_payByHours_185 rfl (lv_at hl 3 rfl) ?_
      exact hend 186 ls _ dX0_payByHours_186 (by rw [ex3, hiN, pbh_sum hW hjz1 z0, ← ejz1])
    | succ n ih_20 =>
      intro i x3 x4 ls hin_20 ex3 ex4 hl
      have hiN : i < 7 := by omega
      have hdy : z1 * 7 + nI i = nI (7 * z1.toNatClampNeg + i) := (congrArg (· + nI i) ((congrArg (· * 7) ejz1).trans ((Int32.mul_comm _ _).trans (pk_mul 7 _)))).trans (nI_add _ _)
      refine lv_iload hx hb dX0_payByHours_20 (lv_at hl 5 rfl) ?_
      refine lv_bipush (v := 7) hx hb dX0_payByHours_22 (by decide) ?_
      refine lv_icmp_ge (tgt := 185) hx hb dX0_payByHours_24 (by decide) (fun c_24 => (absurd (((br_ge h7 (by omega) (by omega : i ≤ 7)).mp c_24)) (by omega) : False).elim) (fun c_24 => ?_)
      refine lv_iload_n hx hb dX0_payByHours_27 rfl (lv_at hl 2 rfl) ?_
      refine lv_bipush (v := 7) hx hb dX0_payByHours_28 (by decide) ?_
      refine lv_imul hx hb dX0_payByHours_30 ?_
      refine lv_iload hx hb dX0_payByHours_31 (lv_at hl 5 rfl) ?_
      refine lv_iadd hx hb dX0_payByHours_33 ?_
      rw [hdy]
      refine lv_istore (lv' := [(6, .int (nI (7 * z1.toNatClampNeg + i))), (0, .ref (a 16)), (1, .int z0), (2, .int z1), (3, .int x3), (4, .int x4), (5, .int (nI i))]) hx hb dX0_payByHours_34 hl (by decide) rfl (fun ls hl => ?_)
      refine lv_iconst (v := 0) hx hb dX0_payByHours_36 (by decide) ?_
      refine lv_istore (lv' := [(7, .int 0), (6, .int (nI (7 * z1.toNatClampNeg + i))), (0, .ref (a 16)), (1, .int z0), (2, .int z1), (3, .int x3), (4, .int x4), (5, .int (nI i))]) hx hb dX0_payByHours_37 hl (by decide) rfl (fun ls hl => ?_)
      refine lv_iconst (v := 0) hx hb dX0_payByHours_39 (by decide) ?_
      refine lv_istore (lv' := [(8, .int 0), (7, .int 0), (6, .int (nI (7 * z1.toNatClampNeg + i))), (0, .ref (a 16)), (1, .int z0), (2, .int z1), (3, .int x3), (4, .int x4), (5, .int (nI i))]) hx hb dX0_payByHours_40 hl (by decide) rfl (fun ls hl => ?_)
      have K_42 : ∀ (n2 q : Nat) (y3 : Int32) (y4 : Int32) (y7 : Int32) (ls : Array Slot), q + n2 = N → y3 = (ps (fun j => ps (tDy F N z0 (7 * z1.toNatClampNeg + j)) N) i) + ps (tDy F N z0 (7 * z1.toNatClampNeg + i)) q → y4 = nI (min 40 ((wkS F z0 N (7 * z1.toNatClampNeg) i) + min 8 (dhw F z0 (7 * z1.toNatClampNeg + i) q))) → y7 = nI (dhw F z0 (7 * z1.toNatClampNeg + i) q) → lv_has ls 13 [(0, .ref (a 16)), (1, .int z0), (2, .int z1), (3, .int y3), (4, .int y4), (5, .int (nI i)), (6, .int (nI (7 * z1.toNatClampNeg + i))), (7, .int y7), (8, .int (nI q))] → W p l e rmX0_payByHours s m args below meth c s.heap [] 0 0 Q (F0 m 42 ls []) := by
        intro n2
        induction n2 with
        | zero =>
          intro q y3 y4 y7 ls hin_42 ey3 ey4 ey7 hl
          have hqN : q = N := by omega
          refine lv_iload hx hb dX0_payByHours_42 (lv_at hl 8 rfl) ?_
          refine lv_aload_n hx hb dX0_payByHours_44 rfl (lv_at hl 0 rfl) ?_
          refine va_get (D := D) (ci := 0) (v := .int (F 7 0)) (C := RX0) (T := TX0) (N := 16) hx hb hts hi hown hK hP 0 rfl rfl 7 (by decide) (hts (.fieldLink RX0 32 "AssignmentHouse" "shiftCount" "I") (by decide +kernel)) (fun _ h9 => h9) rfl dX0_payByHours_45 ?_
          refine lv_icmp_ge (tgt := 179) hx hb dX0_payByHours_48 (by decide) (fun c_48 => ?_) (fun c_48 => (absurd (((br_ge hc (by omega) (by omega : q ≤ N)).mpr hqN)) c_48 : False).elim)
          refine lv_iinc (v := (nI (i + 1))) (lv' := [(5, .int (nI (i + 1))), (0, .ref (a 16)), (1, .int z0), (2, .int z1), (3, .int y3), (4, .int y4), (6, .int (nI (7 * z1.toNatClampNeg + i))), (7, .int y7), (8, .int (nI q))]) hx hb dX0_payByHours_179 hl (k := 5) rfl (nI_1 i) (by decide) rfl (fun ls hl => ?_)
          refine lv_goto (tgt := 20) hx hb dX0_payByHours_182 (by decide) ?_
          exact ih_20 (i + 1) _ _ ls (by omega) (by rw [ey3, hqN]; rfl) (by rw [ey4, hqN]; rfl) (lv_sub hl [1, 2, 3, 4, 5, 0] rfl)
        | succ n2 ih_42 =>
          intro q y3 y4 y7 ls hin_42 ey3 ey4 ey7 hl
          have hqN : q < N := by omega
          have ehq : F 11 q = nI (hrN F q) := (hW.hn hqN).1
          have hh9 : hrN F q ≤ 16 := (hW.hn hqN).2
          have hb9 : (dhw F z0 (7 * z1.toNatClampNeg + i) q) ≤ 1280 := dhw_le hW z0 _ (by omega)
          refine lv_iload hx hb dX0_payByHours_42 (lv_at hl 8 rfl) ?_
          refine lv_aload_n hx hb dX0_payByHours_44 rfl (lv_at hl 0 rfl) ?_
          refine va_get (D := D) (ci := 0) (v := .int (F 7 0)) (C := RX0) (T := TX0) (N := 16) hx hb hts hi hown hK hP 0 rfl rfl 7 (by decide) (hts (.fieldLink RX0 32 "AssignmentHouse" "shiftCount" "I") (by decide +kernel)) (fun _ h9 => h9) rfl dX0_payByHours_45 ?_
          refine lv_icmp_ge (tgt := 179) hx hb dX0_payByHours_48 (by decide) (fun c_48 => (absurd (((br_ge hc (by omega) (by omega : q ≤ N)).mp c_48)) (by omega) : False).elim) (fun c_48 => ?_)
          refine lv_aload_n hx hb dX0_payByHours_51 rfl (lv_at hl 0 rfl) ?_
          refine va_get (D := D) (ci := 0) (v := .ref (a 8)) (C := RX0) (T := TX0) (N := 16) hx hb hts hi hown hK hP 0 rfl rfl 8 (by decide) (hts (.fieldLink RX0 35 "AssignmentHouse" "workerOf" "[I") (by decide +kernel)) (fun _ h9 => h9) rfl dX0_payByHours_52 ?_
          refine lv_iload hx hb dX0_payByHours_55 (lv_at hl 8 rfl) ?_
          refine Rd.callS (rest := []) ⟨hx, hb, hml, hown, hts⟩ (c_X0_at l D cA (a 8) 80 (F 8) (nI q) q (rfl) (by omega) (by decide)) (va_cwS 2 hts gX0_payByHours_X0_at rfl rfl rfl (by decide +kernel) ⟨Nat.le_of_ble_eq_true rfl, Nat.le_of_ble_eq_true rfl⟩) hK (hP.sub [6] rfl) rfl rfl hl.1 (Nat.le_of_ble_eq_true rfl) dX0_payByHours_57 ⟨Nat.zero_le _, Nat.zero_le _⟩ ?_
          refine lv_iload_n hx hb dX0_payByHours_60 rfl (lv_at hl 1 rfl) ?_
          refine lv_icmp_ne (tgt := 173) hx hb dX0_payByHours_61 (by decide) (fun c_61 => ?_) (fun c_61 => ?_)
          · skip
            refine lv_iinc (v := (nI (q + 1))) (lv' := [(8, .int (nI (q + 1))), (0, .ref (a 16)), (1, .int z0), (2, .int z1), (3, .int y3), (4, .int y4), (5, .int (nI i)), (6, .int (nI (7 * z1.toNatClampNeg + i))), (7, .int y7)]) hx hb dX0_payByHours_173 hl (k := 8) rfl (nI_1 q) (by decide) rfl (fun ls hl => ?_)
            refine lv_goto (tgt := 42) hx hb dX0_payByHours_176 (by decide) ?_
            exact ih_42 (q + 1) _ _ _ ls (by omega) (by have h9 : tDy F N z0 (7 * z1.toNatClampNeg + i) q = 0 := if_neg (fun h => c_61 h.1); rw [ps_s, h9, i32_a0]; exact ey3) (by have h8 : tD F z0 (7 * z1.toNatClampNeg + i) q = 0 := if_neg (fun h => c_61 h.1); rw [dhw_s, h8, Nat.add_zero]; exact ey4) (by have h8 : tD F z0 (7 * z1.toNatClampNeg + i) q = 0 := if_neg (fun h => c_61 h.1); rw [dhw_s, h8, Nat.add_zero]; exact ey7) (lv_sub hl [1, 2, 3, 4, 5, 6, 7, 8, 0] rfl)
          · skip
            refine lv_aload_n hx hb dX0_payByHours_64 rfl (lv_at hl 0 rfl) ?_
            refine va_get (D := D) (ci := 0) (v := .ref (a 10)) (C := RX0) (T := TX0) (N := 16) hx hb hts hi hown hK hP 0 rfl rfl 10 (by decide) (hts (.fieldLink RX0 41 "AssignmentHouse" "dayOf" "[I") (by decide +kernel)) (fun _ h9 => h9) rfl dX0_payByHours_65 ?_
            refine lv_iload hx hb dX0_payByHours_68 (lv_at hl 8 rfl) ?_
            refine Rd.callS (rest := []) ⟨hx, hb, hml, hown, hts⟩ (c_X0_at l D cA (a 10) 80 (F 10) (nI q) q (rfl) (by omega) (by decide)) (va_cwS 2 hts gX0_payByHours_X0_at rfl rfl rfl (by decide +kernel) ⟨Nat.le_of_ble_eq_true rfl, Nat.le_of_ble_eq_true rfl⟩) hK (hP.sub [8] rfl) rfl rfl hl.1 (Nat.le_of_ble_eq_true rfl) dX0_payByHours_70 ⟨Nat.zero_le _, Nat.zero_le _⟩ ?_
            refine lv_iload hx hb dX0_payByHours_73 (lv_at hl 6 rfl) ?_
            refine lv_icmp_ne (tgt := 173) hx hb dX0_payByHours_75 (by decide) (fun c_75 => ?_) (fun c_75 => ?_)
            · skip
              refine lv_iinc (v := (nI (q + 1))) (lv' := [(8, .int (nI (q + 1))), (0, .ref (a 16)), (1, .int z0), (2, .int z1), (3, .int y3), (4, .int y4), (5, .int (nI i)), (6, .int (nI (7 * z1.toNatClampNeg + i))), (7, .int y7)]) hx hb dX0_payByHours_173 hl (k := 8) rfl (nI_1 q) (by decide) rfl (fun ls hl => ?_)
              refine lv_goto (tgt := 42) hx hb dX0_payByHours_176 (by decide) ?_
              exact ih_42 (q + 1) _ _ _ ls (by omega) (by have h9 : tDy F N z0 (7 * z1.toNatClampNeg + i) q = 0 := if_neg (fun h => c_75 h.2); rw [ps_s, h9, i32_a0]; exact ey3) (by have h8 : tD F z0 (7 * z1.toNatClampNeg + i) q = 0 := if_neg (fun h => c_75 ((hW.dayE hqN (by omega)).mpr h.2)); rw [dhw_s, h8, Nat.add_zero]; exact ey4) (by have h8 : tD F z0 (7 * z1.toNatClampNeg + i) q = 0 := if_neg (fun h => c_75 ((hW.dayE hqN (by omega)).mpr h.2)); rw [dhw_s, h8, Nat.add_zero]; exact ey7) (lv_sub hl [1, 2, 3, 4, 5, 6, 7, 8, 0] rfl)
            · skip
              refine lv_aload_n hx hb dX0_payByHours_78 rfl (lv_at hl 0 rfl) ?_
              refine lv_iload_n hx hb dX0_payByHours_79 rfl (lv_at hl 1 rfl) ?_
              refine lv_aload_n hx hb dX0_payByHours_80 rfl (lv_at hl 0 rfl) ?_
              refine va_get (D := D) (ci := 0) (v := .ref (a 9)) (C := RX0) (T := TX0) (N := 16) hx hb hts hi hown hK hP 0 rfl rfl 9 (by decide) (hts (.fieldLink RX0 38 "AssignmentHouse" "siteOf" "[I") (by decide +kernel)) (fun _ h9 => h9) rfl dX0_payByHours_81 ?_
              refine lv_iload hx hb dX0_payByHours_84 (lv_at hl 8 rfl) ?_
              refine Rd.callS (rest := [.int z0, .ref (a 16)]) ⟨hx, hb, hml, hown, hts⟩ (c_X0_at l D cA (a 9) 80 (F 9) (nI q) q (rfl) (by omega) (by decide)) (va_cwS 2 hts gX0_payByHours_X0_at rfl rfl rfl (by decide +kernel) ⟨Nat.le_of_ble_eq_true rfl, Nat.le_of_ble_eq_true rfl⟩) hK (hP.sub [7] rfl) rfl rfl hl.1 (Nat.le_of_ble_eq_true rfl) dX0_payByHours_86 ⟨Nat.zero_le _, Nat.zero_le _⟩ ?_
              refine lv_iload_n hx hb dX0_payByHours_89 rfl (lv_at hl 2 rfl) ?_
              refine Rd.callV (rest := []) (q0 := 0) (ci := 0) ⟨hx, hb, hml, hown, hts⟩ (c_X0_rateThere l D cA a F g N hW z0 (F 9 q) (F 9 q).toNatClampNeg (hW.site hqN).2 (hW.site hqN).1 z1 z1.toNatClampNeg ejz1 (by omega)) (cwV 3 hts gX0_payByHours_X0_rateThere rfl rfl rfl (by decide +kernel) ⟨Nat.le_of_ble_eq_true rfl, Nat.le_of_ble_eq_true rfl⟩) hK hP rfl rfl rfl rfl rfl hl.1 (Nat.le_of_ble_eq_true rfl) dX0_payByHours_90 ⟨Nat.zero_le _, Nat.zero_le _⟩ ?_
              refine lv_topi (fun rt ert => ?_)
              refine lv_istore (lv' := [(9, .int rt), (0, .ref (a 16)), (1, .int z0), (2, .int z1), (3, .int y3), (4, .int y4), (5, .int (nI i)), (6, .int (nI (7 * z1.toNatClampNeg + i))), (7, .int y7), (8, .int (nI q))]) hx hb dX0_payByHours_93 hl (by decide) rfl (fun ls hl => ?_)
              refine lv_aload_n hx hb dX0_payByHours_95 rfl (lv_at hl 1 rfl) ?_
              refine va_get (D := D) (ci := 0) (v := .ref (a 11)) (C := RX0) (T := TX0) (N := 16) hx hb hts hi hown hK hP 0 rfl rfl 11 (by decide) (hts (.fieldLink RX0 44 "AssignmentHouse" "hoursOf" "[I") (by decide +kernel)) (fun _ h9 => h9) rfl dX0_payByHours_96 ?_
              refine lv_iload hx hb dX0_payByHours_99 (lv_at hl 9 rfl) ?_
              refine Rd.callS (rest := []) ⟨hx, hb, hml, hown, hts⟩ (c_X0_at l D cA (a 11) 80 (F 11) (nI q) q (rfl) (by omega) (by decide)) (va_cwS 2 hts gX0_payByHours_X0_at rfl rfl rfl (by decide +kernel) ⟨Nat.le_of_ble_eq_true rfl, Nat.le_of_ble_eq_true rfl⟩) hK (hP.sub [9] rfl) rfl rfl hl.1 (Nat.le_of_ble_eq_true rfl) dX0_payByHours_101 ⟨Nat.zero_le _, Nat.zero_le _⟩ ?_
              refine lv_istore (lv' := [(10, .int (F 11 q)), (9, .int rt), (0, .ref (a 16)), (1, .int z0), (2, .int z1), (3, .int y3), (4, .int y4), (5, .int (nI i)), (6, .int (nI (7 * z1.toNatClampNeg + i))), (7, .int y7), (8, .int (nI q))]) hx hb dX0_payByHours_104 hl (by decide) rfl (fun ls hl => ?_)
              refine lv_iconst (v := 0) hx hb dX0_payByHours_106 (by decide) ?_
              refine lv_istore (lv' := [(11, .int 0), (10, .int (F 11 q)), (9, .int rt), (0, .ref (a 16)), (1, .int z0), (2, .int z1), (3, .int y3), (4, .int y4), (5, .int (nI i)), (6, .int (nI (7 * z1.toNatClampNeg + i))), (7, .int y7), (8, .int (nI q))]) hx hb dX0_payByHours_107 hl (by decide) rfl (fun ls hl => ?_)
              refine lv_iconst (v := 0) hx hb dX0_payByHours_109 (by decide) ?_
              refine lv_istore (lv' := [(12, .int 0), (11, .int 0), (10, .int (F 11 q)), (9, .int rt), (0, .ref (a 16)), (1, .int z0), (2, .int z1), (3, .int y3), (4, .int y4), (5, .int (nI i)), (6, .int (nI (7 * z1.toNatClampNeg + i))), (7, .int y7), (8, .int (nI q))]) hx hb dX0_payByHours_110 hl (by decide) rfl (fun ls hl => ?_)
              have K_112 : ∀ (n3 u : Nat) (v4 : Int32) (v7 : Int32) (v11 : Int32) (ls : Array Slot), u + n3 = (hrN F q) → v4 = nI ((min 40 ((wkS F z0 N (7 * z1.toNatClampNeg) i) + min 8 (dhw F z0 (7 * z1.toNatClampNeg + i) q))) + (itsN (min 40 ((wkS F z0 N (7 * z1.toNatClampNeg) i) + min 8 (dhw F z0 (7 * z1.toNatClampNeg + i) q))) (dhw F z0 (7 * z1.toNatClampNeg + i) q) u)) → v7 = nI ((dhw F z0 (7 * z1.toNatClampNeg + i) q) + u) → v11 = nI (2 * (itsN (min 40 ((wkS F z0 N (7 * z1.toNatClampNeg) i) + min 8 (dhw F z0 (7 * z1.toNatClampNeg + i) q))) (dhw F z0 (7 * z1.toNatClampNeg + i) q) u) + 3 * (u - (itsN (min 40 ((wkS F z0 N (7 * z1.toNatClampNeg) i) + min 8 (dhw F z0 (7 * z1.toNatClampNeg + i) q))) (dhw F z0 (7 * z1.toNatClampNeg + i) q) u))) * rt → lv_has ls 13 [(0, .ref (a 16)), (1, .int z0), (2, .int z1), (3, .int y3), (4, .int v4), (5, .int (nI i)), (6, .int (nI (7 * z1.toNatClampNeg + i))), (7, .int v7), (8, .int (nI q)), (9, .int rt), (10, .int (F 11 q)), (11, .int v11), (12, .int (nI u))] → W p l e rmX0_payByHours s m args below meth c s.heap [] 0 0 Q (F0 m 112 ls []) := by
                intro n3
                induction n3 with
                | zero =>
                  intro u v4 v7 v11 ls hin_112 ev4 ev7 ev11 hl
                  have huN : u = (hrN F q) := by omega
                  have hdq : dayN F q = (7 * z1.toNatClampNeg + i) := (hW.dayE hqN (by omega)).mp c_75
                  have h9t : tDy F N z0 (7 * z1.toNatClampNeg + i) q = sPy F N q := if_pos ⟨c_61, c_75⟩
                  have h8t : tD F z0 (7 * z1.toNatClampNeg + i) q = hrN F q := if_pos ⟨c_61, hdq⟩
                  have hend9 : v11 / 2 = sPy F N q := hr_e (i := i) (K := z1.toNatClampNeg) hW hqN hiN c_61 hdq ert (by rw [ev11, huN])
                  refine lv_iload hx hb dX0_payByHours_112 (lv_at hl 12 rfl) ?_
                  refine lv_iload hx hb dX0_payByHours_114 (lv_at hl 10 rfl) ?_
                  refine lv_icmp_ge (tgt := 166) hx hb dX0_payByHours_116 (by decide) (fun c_116 => ?_) (fun c_116 => (absurd (((br_ge ehq (by omega) (by omega : u ≤ (hrN F q))).mpr huN)) c_116 : False).elim)
                  refine lv_iload_n hx hb dX0_payByHours_166 rfl (lv_at hl 3 rfl) ?_
                  refine lv_iload hx hb dX0_payByHours_167 (lv_at hl 11 rfl) ?_
                  refine lv_iconst (v := 2) hx hb dX0_payByHours_169 (by decide) ?_
                  refine lv_idiv hx hb dX0_payByHours_170 (by decide) ?_
                  refine lv_iadd hx hb dX0_payByHours_171 ?_
                  refine lv_istore_n (lv' := [(3, .int (y3 + (v11 / 2))), (0, .ref (a 16)), (1, .int z0), (2, .int z1), (4, .int v4), (5, .int (nI i)), (6, .int (nI (7 * z1.toNatClampNeg + i))), (7, .int v7), (8, .int (nI q)), (9, .int rt), (10, .int (F 11 q)), (11, .int v11), (12, .int (nI u))]) hx hb dX0_payByHours_172 rfl hl (by decide) rfl (fun ls hl => ?_)
                  refine lv_iinc (v := (nI (q + 1))) (lv' := [(8, .int (nI (q + 1))), (3, .int (y3 + (v11 / 2))), (0, .ref (a 16)), (1, .int z0), (2, .int z1), (4, .int v4), (5, .int (nI i)), (6, .int (nI (7 * z1.toNatClampNeg + i))), (7, .int v7), (9, .int rt), (10, .int (F 11 q)), (11, .int v11), (12, .int (nI u))]) hx hb dX0_payByHours_173 hl (k := 8) rfl (nI_1 q) (by decide) rfl (fun ls hl => ?_)
                  refine lv_goto (tgt := 42) hx hb dX0_payByHours_176 (by decide) ?_
                  exact ih_42 (q + 1) _ _ _ ls (by omega) (by rw [ps_s, h9t, ← Int32.add_assoc, ← ey3, hend9]) (by rw [dhw_s, h8t, ev4, huN]; congr 1; unfold itsN; omega) (by rw [dhw_s, h8t, ev7, huN]) (lv_sub hl [2, 3, 4, 1, 5, 6, 7, 8, 0] rfl)
                | succ n3 ih_112 =>
                  intro u v4 v7 v11 ls hin_112 ev4 ev7 ev11 hl
                  have huN : u < (hrN F q) := by omega
                  refine lv_iload hx hb dX0_payByHours_112 (lv_at hl 12 rfl) ?_
                  refine lv_iload hx hb dX0_payByHours_114 (lv_at hl 10 rfl) ?_
                  refine lv_icmp_ge (tgt := 166) hx hb dX0_payByHours_116 (by decide) (fun c_116 => (absurd (((br_ge ehq (by omega) (by omega : u ≤ (hrN F q))).mp c_116)) (by omega) : False).elim) (fun c_116 => ?_)
                  refine lv_iload hx hb dX0_payByHours_119 (lv_at hl 7 rfl) ?_
                  refine lv_bipush (v := 8) hx hb dX0_payByHours_121 (by decide) ?_
                  refine lv_icmp_ge (tgt := 133) hx hb dX0_payByHours_123 (by decide) (fun c_123 => ?_) (fun c_123 => ?_)
                  · skip
                    refine lv_iload hx hb dX0_payByHours_133 (lv_at hl 11 rfl) ?_
                    refine lv_iconst (v := 3) hx hb dX0_payByHours_135 (by decide) ?_
                    refine lv_iload hx hb dX0_payByHours_136 (lv_at hl 9 rfl) ?_
                    refine lv_imul hx hb dX0_payByHours_138 ?_
                    refine lv_iadd hx hb dX0_payByHours_139 ?_
                    refine lv_istore (lv' := [(11, .int (v11 + (3 * rt))), (0, .ref (a 16)), (1, .int z0), (2, .int z1), (3, .int y3), (4, .int v4), (5, .int (nI i)), (6, .int (nI (7 * z1.toNatClampNeg + i))), (7, .int v7), (8, .int (nI q)), (9, .int rt), (10, .int (F 11 q)), (12, .int (nI u))]) hx hb dX0_payByHours_140 hl (by decide) rfl (fun ls hl => ?_)
                    refine lv_goto (tgt := 157) hx hb dX0_payByHours_142 (by decide) ?_
                    refine lv_iinc (v := (v7 + 1)) (lv' := [(7, .int (v7 + 1)), (11, .int (v11 + (3 * rt))), (0, .ref (a 16)), (1, .int z0), (2, .int z1), (3, .int y3), (4, .int v4), (5, .int (nI i)), (6, .int (nI (7 * z1.toNatClampNeg + i))), (8, .int (nI q)), (9, .int rt), (10, .int (F 11 q)), (12, .int (nI u))]) hx hb dX0_payByHours_157 hl (k := 8) rfl (rfl) (by decide) rfl (fun ls hl => ?_)
                    refine lv_iinc (v := (nI (u + 1))) (lv' := [(12, .int (nI (u + 1))), (7, .int (v7 + 1)), (11, .int (v11 + (3 * rt))), (0, .ref (a 16)), (1, .int z0), (2, .int z1), (3, .int y3), (4, .int v4), (5, .int (nI i)), (6, .int (nI (7 * z1.toNatClampNeg + i))), (8, .int (nI q)), (9, .int rt), (10, .int (F 11 q))]) hx hb dX0_payByHours_160 hl (k := 12) rfl (nI_1 u) (by decide) rfl (fun ls hl => ?_)
                    refine lv_goto (tgt := 112) hx hb dX0_payByHours_163 (by decide) ?_
                    exact ih_112 (u + 1) _ _ _ ls (by omega) ((hr_o ev4 ev7 ev11 (Nat.min_le_left _ _) hb9 (by omega) (Or.inl c_123)).1) (by rw [ev7]; exact nI_1 _) ((hr_o ev4 ev7 ev11 (Nat.min_le_left _ _) hb9 (by omega) (Or.inl c_123)).2) (lv_sub hl [3, 4, 5, 6, 7, 8, 9, 1, 10, 11, 12, 2, 0] rfl)
                  · skip
                    refine lv_iload hx hb dX0_payByHours_126 (lv_at hl 4 rfl) ?_
                    refine lv_bipush (v := 40) hx hb dX0_payByHours_128 (by decide) ?_
                    refine lv_icmp_lt (tgt := 145) hx hb dX0_payByHours_130 (by decide) (fun c_130 => ?_) (fun c_130 => ?_)
                    · skip
                      refine lv_iload hx hb dX0_payByHours_145 (lv_at hl 11 rfl) ?_
                      refine lv_iconst (v := 2) hx hb dX0_payByHours_147 (by decide) ?_
                      refine lv_iload hx hb dX0_payByHours_148 (lv_at hl 9 rfl) ?_
                      refine lv_imul hx hb dX0_payByHours_150 ?_
                      refine lv_iadd hx hb dX0_payByHours_151 ?_
                      refine lv_istore (lv' := [(11, .int (v11 + (2 * rt))), (0, .ref (a 16)), (1, .int z0), (2, .int z1), (3, .int y3), (4, .int v4), (5, .int (nI i)), (6, .int (nI (7 * z1.toNatClampNeg + i))), (7, .int v7), (8, .int (nI q)), (9, .int rt), (10, .int (F 11 q)), (12, .int (nI u))]) hx hb dX0_payByHours_152 hl (by decide) rfl (fun ls hl => ?_)
                      refine lv_iinc (v := (v4 + 1)) (lv' := [(4, .int (v4 + 1)), (11, .int (v11 + (2 * rt))), (0, .ref (a 16)), (1, .int z0), (2, .int z1), (3, .int y3), (5, .int (nI i)), (6, .int (nI (7 * z1.toNatClampNeg + i))), (7, .int v7), (8, .int (nI q)), (9, .int rt), (10, .int (F 11 q)), (12, .int (nI u))]) hx hb dX0_payByHours_154 hl (k := 5) rfl (rfl) (by decide) rfl (fun ls hl => ?_)
                      refine lv_iinc (v := (v7 + 1)) (lv' := [(7, .int (v7 + 1)), (4, .int (v4 + 1)), (11, .int (v11 + (2 * rt))), (0, .ref (a 16)), (1, .int z0), (2, .int z1), (3, .int y3), (5, .int (nI i)), (6, .int (nI (7 * z1.toNatClampNeg + i))), (8, .int (nI q)), (9, .int rt), (10, .int (F 11 q)), (12, .int (nI u))]) hx hb dX0_payByHours_157 hl (k := 8) rfl (rfl) (by decide) rfl (fun ls hl => ?_)
                      refine lv_iinc (v := (nI (u + 1))) (lv' := [(12, .int (nI (u + 1))), (7, .int (v7 + 1)), (4, .int (v4 + 1)), (11, .int (v11 + (2 * rt))), (0, .ref (a 16)), (1, .int z0), (2, .int z1), (3, .int y3), (5, .int (nI i)), (6, .int (nI (7 * z1.toNatClampNeg + i))), (8, .int (nI q)), (9, .int rt), (10, .int (F 11 q))]) hx hb dX0_payByHours_160 hl (k := 12) rfl (nI_1 u) (by decide) rfl (fun ls hl => ?_)
                      refine lv_goto (tgt := 112) hx hb dX0_payByHours_163 (by decide) ?_
                      exact ih_112 (u + 1) _ _ _ ls (by omega) ((hr_p ev4 ev7 ev11 (Nat.min_le_left _ _) hb9 (by omega) c_123 c_130).1) (by rw [ev7]; exact nI_1 _) ((hr_p ev4 ev7 ev11 (Nat.min_le_left _ _) hb9 (by omega) c_123 c_130).2) (lv_sub hl [4, 5, 6, 7, 2, 8, 9, 1, 10, 11, 12, 3, 0] rfl)
                    · skip
                      refine lv_iload hx hb dX0_payByHours_133 (lv_at hl 11 rfl) ?_
                      refine lv_iconst (v := 3) hx hb dX0_payByHours_135 (by decide) ?_
                      refine lv_iload hx hb dX0_payByHours_136 (lv_at hl 9 rfl) ?_
                      refine lv_imul hx hb dX0_payByHours_138 ?_
                      refine lv_iadd hx hb dX0_payByHours_139 ?_
                      refine lv_istore (lv' := [(11, .int (v11 + (3 * rt))), (0, .ref (a 16)), (1, .int z0), (2, .int z1), (3, .int y3), (4, .int v4), (5, .int (nI i)), (6, .int (nI (7 * z1.toNatClampNeg + i))), (7, .int v7), (8, .int (nI q)), (9, .int rt), (10, .int (F 11 q)), (12, .int (nI u))]) hx hb dX0_payByHours_140 hl (by decide) rfl (fun ls hl => ?_)
                      refine lv_goto (tgt := 157) hx hb dX0_payByHours_142 (by decide) ?_
                      refine lv_iinc (v := (v7 + 1)) (lv' := [(7, .int (v7 + 1)), (11, .int (v11 + (3 * rt))), (0, .ref (a 16)), (1, .int z0), (2, .int z1), (3, .int y3), (4, .int v4), (5, .int (nI i)), (6, .int (nI (7 * z1.toNatClampNeg + i))), (8, .int (nI q)), (9, .int rt), (10, .int (F 11 q)), (12, .int (nI u))]) hx hb dX0_payByHours_157 hl (k := 8) rfl (rfl) (by decide) rfl (fun ls hl => ?_)
                      refine lv_iinc (v := (nI (u + 1))) (lv' := [(12, .int (nI (u + 1))), (7, .int (v7 + 1)), (11, .int (v11 + (3 * rt))), (0, .ref (a 16)), (1, .int z0), (2, .int z1), (3, .int y3), (4, .int v4), (5, .int (nI i)), (6, .int (nI (7 * z1.toNatClampNeg + i))), (8, .int (nI q)), (9, .int rt), (10, .int (F 11 q))]) hx hb dX0_payByHours_160 hl (k := 12) rfl (nI_1 u) (by decide) rfl (fun ls hl => ?_)
                      refine lv_goto (tgt := 112) hx hb dX0_payByHours_163 (by decide) ?_
                      exact ih_112 (u + 1) _ _ _ ls (by omega) ((hr_o ev4 ev7 ev11 (Nat.min_le_left _ _) hb9 (by omega) (Or.inr c_130)).1) (by rw [ev7]; exact nI_1 _) ((hr_o ev4 ev7 ev11 (Nat.min_le_left _ _) hb9 (by omega) (Or.inr c_130)).2) (lv_sub hl [3, 4, 5, 6, 7, 8, 9, 1, 10, 11, 12, 2, 0] rfl)
              exact K_112 (hrN F q) 0 _ _ _ ls (by omega) (by rw [ey4]; rfl) (by rw [ey7]; rfl) (by rw [show itsN (min 40 ((wkS F z0 N (7 * z1.toNatClampNeg) i) + min 8 (dhw F z0 (7 * z1.toNatClampNeg + i) q))) (dhw F z0 (7 * z1.toNatClampNeg + i) q) 0 = 0 from Nat.zero_min _]; exact (Int32.zero_mul (a := rt)).symm) (lv_sub hl [4, 5, 6, 7, 8, 9, 10, 11, 12, 3, 2, 1, 0] rfl)
      exact K_42 N 0 _ _ _ ls (by omega) (by rw [ex3]; exact (i32_a0 _).symm) (by rw [ex4]; rfl) (rfl) (lv_sub hl [3, 4, 5, 6, 7, 8, 2, 1, 0] rfl)
  exact K_20 7 0 _ _ ls (by omega) (rfl) (rfl) (lv_sub hl [3, 4, 5, 2, 1, 0] rfl)

set_option maxHeartbeats 4000000 in
set_option maxRecDepth 100000 in
theorem b_X0_payByHours (l : Launch) (D : va_G) (cA : ClassId) (hl9 : l.stackTraces = false) (a : Nat → Nat) (F : Nat → Nat → Int32) (g : Nat → Int32) (N : Nat) (hW : wf F N) (z0 z1 : Int32) (hk : kWW z0 z1 ≠ 0) : Bx l D cA (wX a cA F g) yX0_payByHours wsX0_payByHours rbX0_payByHours [.ref (a 16), .int z0, .int z1] (exN (kWW z0 z1) eI eA eS) := by
  refine Bx.of (cc := cX0_payByHours) (maxL := 13) (ret := (some .int)) (by decide) rfl (Nat.le_of_ble_eq_true rfl) ?_
  intro p e s m args below meth c ls hx hb hts hown hml hK hP hl htab hlocks hZ
  have hown : s.vm.findClass RX0 = some m.cls := hown
  have hi : ∀ w ∈ wsX00, w ∈ wsX0_payByHours := by decide +kernel
  have hl : lv_has ls 13 [(0, .ref (a 16)), (1, .int z0), (2, .int z1)] := hl
  have hN : N ≤ 80 := hW.n
  have hc : F 7 0 = nI N := hW.c
  refine lv_iload_n hx hb dX0_payByHours_0 rfl (lv_at hl 1 rfl) ?_
  refine lv_bipush (v := 6) hx hb dX0_payByHours_1 (by decide) ?_
  refine (Classical.em (cI z0 6)).elim (fun h1 => ?_) (fun h1 => ?_)
  rotate_left
  rw [show exN (kWW z0 z1) eI eA eS = eI from by rw [kWW, if_neg h1]; rfl]
  exact Bx.thruS (rest := []) ⟨hx, hb, hml, hown, hts⟩ htab hlocks (b_X0_needOneOf l D cA hl9 z0 6 (cI_n h1)) (va_cwS 2 hts gX0_payByHours_X0_needOneOf rfl rfl rfl (by decide +kernel) ⟨Nat.le_of_ble_eq_true rfl, Nat.le_of_ble_eq_true rfl⟩) hK noP hZ rfl rfl hl.1 (Nat.le_of_ble_eq_true rfl) dX0_payByHours_3 ⟨Nat.le_of_ble_eq_true rfl, Nat.le_of_ble_eq_true rfl⟩
  refine Ru.callS (rest := []) ⟨hx, hb, hml, hown, hts⟩ (c_X0_needOneOf l D cA z0 6 h1.1 h1.2) (va_cwS 2 hts gX0_payByHours_X0_needOneOf rfl rfl rfl (by decide +kernel) ⟨Nat.le_of_ble_eq_true rfl, Nat.le_of_ble_eq_true rfl⟩) hK noP rfl rfl hl.1 (Nat.le_of_ble_eq_true rfl) dX0_payByHours_3 ⟨Nat.zero_le _, Nat.zero_le _⟩ ?_
  refine lv_iload_n hx hb dX0_payByHours_6 rfl (lv_at hl 2 rfl) ?_
  refine lv_bipush (v := 20) hx hb dX0_payByHours_7 (by decide) ?_
  refine (Classical.em (cI z1 20)).elim (fun h2 => ?_) (fun h2 => ?_)
  rotate_left
  rw [show exN (kWW z0 z1) eI eA eS = eI from by rw [kWW, if_pos h1, if_neg h2]; rfl]
  exact Bx.thruS (rest := []) ⟨hx, hb, hml, hown, hts⟩ htab hlocks (b_X0_needOneOf l D cA hl9 z1 20 (cI_n h2)) (va_cwS 2 hts gX0_payByHours_X0_needOneOf rfl rfl rfl (by decide +kernel) ⟨Nat.le_of_ble_eq_true rfl, Nat.le_of_ble_eq_true rfl⟩) hK noP hZ rfl rfl hl.1 (Nat.le_of_ble_eq_true rfl) dX0_payByHours_9 ⟨Nat.le_of_ble_eq_true rfl, Nat.le_of_ble_eq_true rfl⟩
  exact absurd (by rw [kWW, if_pos h1, if_pos h2]) hk


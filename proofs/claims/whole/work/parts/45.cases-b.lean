/-! the law's body, case by case; by program (wip/whole/gen) -/
set_option maxHeartbeats 4000000 in
set_option maxRecDepth 100000 in
theorem law_overtime {p : Program} {l : Launch} (hl9 : l.stackTraces = false) {e : Env} {s : State} {m : MethodId} {below : List Frame} {meth : Method} {c : Code} {Q : State → Prop} {D : va_G} {cA cL : ClassId} {b L : Nat} {xs : Nat → Int32} (hL : L ≤ 2560) (hx : p.tables.exec = Jvm.exec) (hb : c.code = code) (hml : c.maxLocals = 7) (hown : s.vm.findClass RL = some m.cls) (hts : ∀ w ∈ wsL_law, w.before #[Value.ref b] s = true) (hX : va_X b L xs s s.heap) (hbl : b < s.heap.size) (hK : KL D cA cL s) (hZ : ZX s) {a a2 : Nat → Nat} {ob : Nat} (j : Nat) (hj : 5 * j + 5 ≤ L) (KK : ∀ (N1 : Nat) (F1 : Nat → Nat → Int32) (g1 : Nat → Int32) (th1 : Int32) (fo1 : Nat → Int64) (H1 : Heap) (locs1 : List Loc) (ls1 : Array Slot), wf F1 N1 → hol2 F1 N1 → va_P D vwCl (wA a a2 cA F1 g1 F1 th1 ob cL fo1) H1 → va_D (fun q : Nat => s.heap.size ≤ q) (wA a a2 cA F1 g1 F1 th1 ob cL fo1) → va_S (fun q : Nat => s.heap.size ≤ q) s.heap H1 locs1 → lv_has ls1 7 [(0, .ref b), (1, .ref (a 16)), (2, .ref (a2 16)), (3, .ref ob), (4, .int (nI (5 * j)))] → W p l e room_1 s m #[Value.ref b] below meth c H1 locs1 (28 + (j + 1)) (1132 + 6 * (j + 1)) Q (F0 m 1396 ls1 [])) {N : Nat} {F : Nat → Nat → Int32} {g : Nat → Int32} {th : Int32} {fo : Nat → Int64} {H : Heap} {locs : List Loc} {ls : Array Slot} (hW : wf F N) (hH : hol2 F N) (hP : va_P D vwCl (wA a a2 cA F g F th ob cL fo) H) (hD : va_D (fun q : Nat => s.heap.size ≤ q) (wA a a2 cA F g F th ob cL fo)) (hS : va_S (fun q : Nat => s.heap.size ≤ q) s.heap H locs) (hl : lv_has ls 7 [(0, .ref b), (1, .ref (a 16)), (2, .ref (a2 16)), (3, .ref ob), (4, .int (nI (5 * j)))]) : W p l e room_1 s m #[Value.ref b] below meth c H locs (28 + j) (1132 + 6 * j) Q (F0 m 553 ls []) := by
  have hA : ∀ q : Nat, s.heap.size ≤ q → (fun q : Nat => s.heap.size ≤ q) q := fun _ h => h
  have hbA : ¬ (fun q : Nat => s.heap.size ≤ q) b := Nat.not_le.mpr hbl
  have hKA : KA D cA s := hK.sub [0] rfl
  refine lv_aload_n hx hb dL_law_553 rfl (lv_at hl 1 rfl) ?_
  refine lv_aload_n hx hb dL_law_554 rfl (lv_at hl 0 rfl) ?_
  refine lv_iload hx hb dL_law_555 (lv_at hl 4 rfl) ?_
  refine lv_iconst (v := 1) hx hb dL_law_557 (by decide) ?_
  refine lv_iadd hx hb dL_law_558 ?_
  refine ri_sld (jj := 5 * j + 1) hx hb hX hbl hbA hS (nI_add (5 * j) 1) (by omega) hL dL_law_559 ?_
  refine lv_aload_n hx hb dL_law_560 rfl (lv_at hl 3 rfl) ?_
  refine Lw.callS (rest := []) (wr := (wM a2 cA F th)) [0, 1, 2, 3, 4, 5, 6, 7, 8, 9, 10, 11, 12, 13, 27] [14, 15, 16, 17, 18, 19, 20, 21, 22, 23, 24, 25, 26] ⟨hx, hb, hml, hown, hts⟩ (c_L_overtime l hl9 D cA cL a F g ob fo N hW (xs (5 * j + 1))) (vx_cwSW 3 hts gL_law_L_overtime rfl rfl rfl (by decide +kernel) ⟨Nat.le_of_ble_eq_true rfl, Nat.le_of_ble_eq_true rfl⟩) hK hP hD hS hA (hZ.later hS) rfl rfl (by decide) (by decide) (by decide) rfl rfl hl.1 (Nat.le_of_ble_eq_true rfl) dL_law_561 ⟨(by show 28 + j + 1 ≤ 1055; omega), (by show 1132 + 6 * j + 6 ≤ 9342; omega)⟩ (fun r9 u9 H locs hu9 hP hD hS => ?_)
  obtain ⟨hk9, h09, hn9⟩ := hu9
  have hP : va_P D vwCl (wA a a2 cA u9.1 u9.2.1 F th ob cL u9.2.2) H := hP.sub [13, 14, 15, 16, 17, 18, 19, 20, 21, 22, 23, 24, 25, 26, 0, 1, 2, 3, 4, 5, 6, 7, 8, 9, 10, 11, 12, 27] rfl
  have hD : va_D (fun q : Nat => s.heap.size ≤ q) (wA a a2 cA u9.1 u9.2.1 F th ob cL u9.2.2) := hD.sub [13, 14, 15, 16, 17, 18, 19, 20, 21, 22, 23, 24, 25, 26, 0, 1, 2, 3, 4, 5, 6, 7, 8, 9, 10, 11, 12, 27] (by decide) rfl
  refine lv_istore (lv' := [(5, .int r9), (0, .ref b), (1, .ref (a 16)), (2, .ref (a2 16)), (3, .ref ob), (4, .int (nI (5 * j)))]) hx hb dL_law_564 hl (by decide) rfl (fun ls hl => ?_)
  refine lv_aload_n hx hb dL_law_566 rfl (lv_at hl 3 rfl) ?_
  refine lv_aload_n hx hb dL_law_567 rfl (lv_at hl 1 rfl) ?_
  refine lv_iload hx hb dL_law_568 (lv_at hl 5 rfl) ?_
  refine lv_iconst (v := 1) hx hb dL_law_570 (by decide) ?_
  refine lv_iadd hx hb dL_law_571 ?_
  refine ri_sld (jj := 5 * j + 1) hx hb hX hbl hbA hS (nI_add (5 * j) 1) (by omega) hL dL_law_572 ?_
  refine Wi.callV (rest := []) (q0 := 14) (ci := 1) (wr := (wX a cA u9.1 u9.2.1 ++ wO ob cL u9.2.2)) [14, 15, 16, 17, 18, 19, 20, 21, 22, 23, 24, 25, 26] [0, 1, 2, 3, 4, 5, 6, 7, 8, 9, 10, 11, 12, 13, 27] ⟨hx, hb, hml, hown, hts⟩ (c_X1_overtime l D cA a2 F th N hW (xs (5 * j + 1))) (cwV 1 hts gL_law_X1_overtime rfl rfl rfl (by decide +kernel) ⟨Nat.le_of_ble_eq_true rfl, Nat.le_of_ble_eq_true rfl⟩) hKA hP hD hS hA rfl rfl (by decide) (by decide) (by decide) rfl rfl rfl rfl rfl hl.1 (Nat.le_of_ble_eq_true rfl) dL_law_573 ⟨(by show 28 + j + 1 ≤ 1055; omega), (by show 1132 + 6 * j + 6 ≤ 9342; omega)⟩ (fun r8 u8 H locs hu8 hP hD hS => ?_)
  obtain ⟨hk8, h08, hn8⟩ := hu8
  have hP : va_P D vwCl (wA a a2 cA u9.1 u9.2.1 u8.1 u8.2 ob cL u9.2.2) H := hP.sub [0, 1, 2, 3, 4, 5, 6, 7, 8, 9, 10, 11, 12, 13, 15, 16, 17, 18, 19, 20, 21, 22, 23, 24, 25, 26, 27, 14] rfl
  have hD : va_D (fun q : Nat => s.heap.size ≤ q) (wA a a2 cA u9.1 u9.2.1 u8.1 u8.2 ob cL u9.2.2) := hD.sub [0, 1, 2, 3, 4, 5, 6, 7, 8, 9, 10, 11, 12, 13, 15, 16, 17, 18, 19, 20, 21, 22, 23, 24, 25, 26, 27, 14] (by decide) rfl
  have hFF : u8.1 = u9.1 := F_same (fun h => (h09 h).1) hn9 (fun h => (h08 h).2) hn8
  rw [hFF] at hP hD
  obtain ⟨N1, hW1, hH1⟩ : INV u9.1 := inv_of hW hH (fun h => (h09 h).1) hn9 (fun _ => ⟨N, hW, hH⟩)
  refine lv_istore (lv' := [(6, .int r8), (5, .int r9), (0, .ref b), (1, .ref (a 16)), (2, .ref (a2 16)), (3, .ref ob), (4, .int (nI (5 * j)))]) hx hb dL_law_576 hl (by decide) rfl (fun ls hl => ?_)
  refine lv_aload_n hx hb dL_law_578 rfl (lv_at hl 4 rfl) ?_
  refine Rd.callV (rest := []) (q0 := 0) (ci := 1) ⟨hx, hb, hml, hown, hts⟩ (c_X1_thrown l D cA a2 u9.1 u8.2) (cwV 0 hts gL_law_X1_thrown rfl rfl rfl (by decide +kernel) ⟨Nat.le_of_ble_eq_true rfl, Nat.le_of_ble_eq_true rfl⟩) hKA (hP.sub [14, 15, 16, 17, 18, 19, 20, 21, 22, 23, 24, 25, 26] rfl : va_P D vwCl (wM a2 cA u9.1 u8.2) H) rfl rfl rfl rfl rfl hl.1 (Nat.le_of_ble_eq_true rfl) dL_law_579 ⟨(by show 28 + j + 1 ≤ 1055; omega), (by show 1132 + 6 * j + 6 ≤ 9342; omega)⟩ ?_
  refine lv_iload hx hb dL_law_582 (lv_at hl 1 rfl) ?_
  refine lv_icmp_eq (tgt := 589) hx hb dL_law_584 (by decide) (fun c_584 => ?_) (fun c_584 => (c_584 (hk8.trans hk9.symm) : False).elim)
  refine lv_iload hx hb dL_law_589 (lv_at hl 1 rfl) ?_
  refine lv_if_ne (tgt := 606) hx hb dL_law_591 (by decide) (fun c_591 => ?_) (fun c_591 => ?_)
  · skip
    refine lv_goto (tgt := 1396) hx hb dL_law_606 (by decide) ?_
    refine W.widen (k := 28 + (j + 1)) (n := 1132 + 6 * (j + 1)) (by omega) (by omega) ?_
    exact KK N1 _ _ _ _ _ _ ls hW1 hH1 hP hD hS (lv_sub hl [2, 3, 4, 5, 6] rfl)
  · skip
    have h0 : kSh F (xs (5 * j + 1)) = 0 := hk9.symm.trans c_591
    have hfo : u9.2.2 0 = (sOv F N (xs (5 * j + 1)).toNatClampNeg : Int32).toInt64 := (h09 h0).2
    have hr8 : r8 = sOv F N (xs (5 * j + 1)).toNatClampNeg := (h08 h0).1
    refine lv_aload_n hx hb dL_law_594 rfl (lv_at hl 5 rfl) ?_
    refine lv_iconst (v := 0) hx hb dL_law_595 (by decide) ?_
    refine va_lald hx hb hK hP 27 1 rfl rfl (vp_in_nI (n := 0) (N := 1) (by decide) (by decide)) dL_law_596 ?_
    refine lv_iload hx hb dL_law_597 (lv_at hl 0 rfl) ?_
    refine lv_i2l (v := (r8 : Int32).toInt64) hx hb dL_law_599 rfl ?_
    refine W.lcmp hx hb dL_law_600 ?_
    refine lv_if_eq (tgt := 606) hx hb dL_law_601 (by decide) (fun c_601 => ?_) (fun c_601 => (c_601 ((lg_cmp_eq _ _).mpr (by rw [hr8]; exact hfo)) : False).elim)
    refine lv_goto (tgt := 1396) hx hb dL_law_606 (by decide) ?_
    refine W.widen (k := 28 + (j + 1)) (n := 1132 + 6 * (j + 1)) (by omega) (by omega) ?_
    exact KK N1 _ _ _ _ _ _ ls hW1 hH1 hP hD hS (lv_sub hl [2, 3, 4, 5, 6] rfl)
set_option maxHeartbeats 4000000 in
set_option maxRecDepth 100000 in
theorem law_hasEqual {p : Program} {l : Launch} (hl9 : l.stackTraces = false) {e : Env} {s : State} {m : MethodId} {below : List Frame} {meth : Method} {c : Code} {Q : State → Prop} {D : va_G} {cA cL : ClassId} {b L : Nat} {xs : Nat → Int32} (hL : L ≤ 2560) (hx : p.tables.exec = Jvm.exec) (hb : c.code = code) (hml : c.maxLocals = 7) (hown : s.vm.findClass RL = some m.cls) (hts : ∀ w ∈ wsL_law, w.before #[Value.ref b] s = true) (hX : va_X b L xs s s.heap) (hbl : b < s.heap.size) (hK : KL D cA cL s) (hZ : ZX s) {a a2 : Nat → Nat} {ob : Nat} (j : Nat) (hj : 5 * j + 5 ≤ L) (KK : ∀ (N1 : Nat) (F1 : Nat → Nat → Int32) (g1 : Nat → Int32) (th1 : Int32) (fo1 : Nat → Int64) (H1 : Heap) (locs1 : List Loc) (ls1 : Array Slot), wf F1 N1 → hol2 F1 N1 → va_P D vwCl (wA a a2 cA F1 g1 F1 th1 ob cL fo1) H1 → va_D (fun q : Nat => s.heap.size ≤ q) (wA a a2 cA F1 g1 F1 th1 ob cL fo1) → va_S (fun q : Nat => s.heap.size ≤ q) s.heap H1 locs1 → lv_has ls1 7 [(0, .ref b), (1, .ref (a 16)), (2, .ref (a2 16)), (3, .ref ob), (4, .int (nI (5 * j)))] → W p l e room_1 s m #[Value.ref b] below meth c H1 locs1 (28 + (j + 1)) (1132 + 6 * (j + 1)) Q (F0 m 1396 ls1 [])) {N : Nat} {F : Nat → Nat → Int32} {g : Nat → Int32} {th : Int32} {fo : Nat → Int64} {H : Heap} {locs : List Loc} {ls : Array Slot} (hW : wf F N) (hH : hol2 F N) (hP : va_P D vwCl (wA a a2 cA F g F th ob cL fo) H) (hD : va_D (fun q : Nat => s.heap.size ≤ q) (wA a a2 cA F g F th ob cL fo)) (hS : va_S (fun q : Nat => s.heap.size ≤ q) s.heap H locs) (hl : lv_has ls 7 [(0, .ref b), (1, .ref (a 16)), (2, .ref (a2 16)), (3, .ref ob), (4, .int (nI (5 * j)))]) : W p l e room_1 s m #[Value.ref b] below meth c H locs (28 + j) (1132 + 6 * j) Q (F0 m 609 ls []) := by
  have hA : ∀ q : Nat, s.heap.size ≤ q → (fun q : Nat => s.heap.size ≤ q) q := fun _ h => h
  have hbA : ¬ (fun q : Nat => s.heap.size ≤ q) b := Nat.not_le.mpr hbl
  have hKA : KA D cA s := hK.sub [0] rfl
  refine lv_aload_n hx hb dL_law_609 rfl (lv_at hl 1 rfl) ?_
  refine lv_aload_n hx hb dL_law_610 rfl (lv_at hl 0 rfl) ?_
  refine lv_iload hx hb dL_law_611 (lv_at hl 4 rfl) ?_
  refine lv_iconst (v := 1) hx hb dL_law_613 (by decide) ?_
  refine lv_iadd hx hb dL_law_614 ?_
  refine ri_sld (jj := 5 * j + 1) hx hb hX hbl hbA hS (nI_add (5 * j) 1) (by omega) hL dL_law_615 ?_
  refine lv_aload_n hx hb dL_law_616 rfl (lv_at hl 0 rfl) ?_
  refine lv_iload hx hb dL_law_617 (lv_at hl 4 rfl) ?_
  refine lv_iconst (v := 2) hx hb dL_law_619 (by decide) ?_
  refine lv_iadd hx hb dL_law_620 ?_
  refine ri_sld (jj := 5 * j + 2) hx hb hX hbl hbA hS (nI_add (5 * j) 2) (by omega) hL dL_law_621 ?_
  refine lv_aload_n hx hb dL_law_622 rfl (lv_at hl 0 rfl) ?_
  refine lv_iload hx hb dL_law_623 (lv_at hl 4 rfl) ?_
  refine lv_iconst (v := 3) hx hb dL_law_625 (by decide) ?_
  refine lv_iadd hx hb dL_law_626 ?_
  refine ri_sld (jj := 5 * j + 3) hx hb hX hbl hbA hS (nI_add (5 * j) 3) (by omega) hL dL_law_627 ?_
  refine lv_aload_n hx hb dL_law_628 rfl (lv_at hl 3 rfl) ?_
  refine Lw.callS (rest := []) (wr := (wM a2 cA F th)) [0, 1, 2, 3, 4, 5, 6, 7, 8, 9, 10, 11, 12, 13, 27] [14, 15, 16, 17, 18, 19, 20, 21, 22, 23, 24, 25, 26] ⟨hx, hb, hml, hown, hts⟩ (c_L_hasEqual l hl9 D cA cL a F g ob fo N hW (xs (5 * j + 1)) (xs (5 * j + 2)) (xs (5 * j + 3))) (vx_cwSW 5 hts gL_law_L_hasEqual rfl rfl rfl (by decide +kernel) ⟨Nat.le_of_ble_eq_true rfl, Nat.le_of_ble_eq_true rfl⟩) hK hP hD hS hA (hZ.later hS) rfl rfl (by decide) (by decide) (by decide) rfl rfl hl.1 (Nat.le_of_ble_eq_true rfl) dL_law_629 ⟨(by show 28 + j + 1 ≤ 1055; omega), (by show 1132 + 6 * j + 6 ≤ 9342; omega)⟩ (fun r9 u9 H locs hu9 hP hD hS => ?_)
  obtain ⟨hk9, h09, hn9⟩ := hu9
  have hP : va_P D vwCl (wA a a2 cA u9.1 u9.2.1 F th ob cL u9.2.2) H := hP.sub [13, 14, 15, 16, 17, 18, 19, 20, 21, 22, 23, 24, 25, 26, 0, 1, 2, 3, 4, 5, 6, 7, 8, 9, 10, 11, 12, 27] rfl
  have hD : va_D (fun q : Nat => s.heap.size ≤ q) (wA a a2 cA u9.1 u9.2.1 F th ob cL u9.2.2) := hD.sub [13, 14, 15, 16, 17, 18, 19, 20, 21, 22, 23, 24, 25, 26, 0, 1, 2, 3, 4, 5, 6, 7, 8, 9, 10, 11, 12, 27] (by decide) rfl
  refine lv_istore (lv' := [(5, .int r9), (0, .ref b), (1, .ref (a 16)), (2, .ref (a2 16)), (3, .ref ob), (4, .int (nI (5 * j)))]) hx hb dL_law_632 hl (by decide) rfl (fun ls hl => ?_)
  refine lv_aload_n hx hb dL_law_634 rfl (lv_at hl 3 rfl) ?_
  refine lv_aload_n hx hb dL_law_635 rfl (lv_at hl 1 rfl) ?_
  refine lv_iload hx hb dL_law_636 (lv_at hl 5 rfl) ?_
  refine lv_iconst (v := 1) hx hb dL_law_638 (by decide) ?_
  refine lv_iadd hx hb dL_law_639 ?_
  refine ri_sld (jj := 5 * j + 1) hx hb hX hbl hbA hS (nI_add (5 * j) 1) (by omega) hL dL_law_640 ?_
  refine lv_aload_n hx hb dL_law_641 rfl (lv_at hl 1 rfl) ?_
  refine lv_iload hx hb dL_law_642 (lv_at hl 5 rfl) ?_
  refine lv_iconst (v := 2) hx hb dL_law_644 (by decide) ?_
  refine lv_iadd hx hb dL_law_645 ?_
  refine ri_sld (jj := 5 * j + 2) hx hb hX hbl hbA hS (nI_add (5 * j) 2) (by omega) hL dL_law_646 ?_
  refine lv_aload_n hx hb dL_law_647 rfl (lv_at hl 1 rfl) ?_
  refine lv_iload hx hb dL_law_648 (lv_at hl 5 rfl) ?_
  refine lv_iconst (v := 3) hx hb dL_law_650 (by decide) ?_
  refine lv_iadd hx hb dL_law_651 ?_
  refine ri_sld (jj := 5 * j + 3) hx hb hX hbl hbA hS (nI_add (5 * j) 3) (by omega) hL dL_law_652 ?_
  refine Wi.callV (rest := []) (q0 := 14) (ci := 1) (wr := (wX a cA u9.1 u9.2.1 ++ wO ob cL u9.2.2)) [14, 15, 16, 17, 18, 19, 20, 21, 22, 23, 24, 25, 26] [0, 1, 2, 3, 4, 5, 6, 7, 8, 9, 10, 11, 12, 13, 27] ⟨hx, hb, hml, hown, hts⟩ (c_X1_hasEqual l D cA a2 F th N hW (xs (5 * j + 1)) (xs (5 * j + 2)) (xs (5 * j + 3))) (cwV 3 hts gL_law_X1_hasEqual rfl rfl rfl (by decide +kernel) ⟨Nat.le_of_ble_eq_true rfl, Nat.le_of_ble_eq_true rfl⟩) hKA hP hD hS hA rfl rfl (by decide) (by decide) (by decide) rfl rfl rfl rfl rfl hl.1 (Nat.le_of_ble_eq_true rfl) dL_law_653 ⟨(by show 28 + j + 1 ≤ 1055; omega), (by show 1132 + 6 * j + 6 ≤ 9342; omega)⟩ (fun r8 u8 H locs hu8 hP hD hS => ?_)
  obtain ⟨hk8, h08, hn8⟩ := hu8
  have hP : va_P D vwCl (wA a a2 cA u9.1 u9.2.1 u8.1 u8.2 ob cL u9.2.2) H := hP.sub [0, 1, 2, 3, 4, 5, 6, 7, 8, 9, 10, 11, 12, 13, 15, 16, 17, 18, 19, 20, 21, 22, 23, 24, 25, 26, 27, 14] rfl
  have hD : va_D (fun q : Nat => s.heap.size ≤ q) (wA a a2 cA u9.1 u9.2.1 u8.1 u8.2 ob cL u9.2.2) := hD.sub [0, 1, 2, 3, 4, 5, 6, 7, 8, 9, 10, 11, 12, 13, 15, 16, 17, 18, 19, 20, 21, 22, 23, 24, 25, 26, 27, 14] (by decide) rfl
  have hFF : u8.1 = u9.1 := F_same (fun h => (h09 h).1) hn9 (fun h => (h08 h).2) hn8
  rw [hFF] at hP hD
  obtain ⟨N1, hW1, hH1⟩ : INV u9.1 := inv_of hW hH (fun h => (h09 h).1) hn9 (fun _ => ⟨N, hW, hH⟩)
  refine lv_istore (lv' := [(6, .int r8), (5, .int r9), (0, .ref b), (1, .ref (a 16)), (2, .ref (a2 16)), (3, .ref ob), (4, .int (nI (5 * j)))]) hx hb dL_law_656 hl (by decide) rfl (fun ls hl => ?_)
  refine lv_aload_n hx hb dL_law_658 rfl (lv_at hl 4 rfl) ?_
  refine Rd.callV (rest := []) (q0 := 0) (ci := 1) ⟨hx, hb, hml, hown, hts⟩ (c_X1_thrown l D cA a2 u9.1 u8.2) (cwV 0 hts gL_law_X1_thrown rfl rfl rfl (by decide +kernel) ⟨Nat.le_of_ble_eq_true rfl, Nat.le_of_ble_eq_true rfl⟩) hKA (hP.sub [14, 15, 16, 17, 18, 19, 20, 21, 22, 23, 24, 25, 26] rfl : va_P D vwCl (wM a2 cA u9.1 u8.2) H) rfl rfl rfl rfl rfl hl.1 (Nat.le_of_ble_eq_true rfl) dL_law_659 ⟨(by show 28 + j + 1 ≤ 1055; omega), (by show 1132 + 6 * j + 6 ≤ 9342; omega)⟩ ?_
  refine lv_iload hx hb dL_law_662 (lv_at hl 1 rfl) ?_
  refine lv_icmp_eq (tgt := 669) hx hb dL_law_664 (by decide) (fun c_664 => ?_) (fun c_664 => (c_664 (hk8.trans hk9.symm) : False).elim)
  refine lv_iload hx hb dL_law_669 (lv_at hl 1 rfl) ?_
  refine lv_if_ne (tgt := 693) hx hb dL_law_671 (by decide) (fun c_671 => ?_) (fun c_671 => ?_)
  · skip
    refine lv_goto (tgt := 1396) hx hb dL_law_693 (by decide) ?_
    refine W.widen (k := 28 + (j + 1)) (n := 1132 + 6 * (j + 1)) (by omega) (by omega) ?_
    exact KK N1 _ _ _ _ _ _ ls hW1 hH1 hP hD hS (lv_sub hl [2, 3, 4, 5, 6] rfl)
  · skip
    have h0 : kWSW (xs (5 * j + 1)) (xs (5 * j + 2)) (xs (5 * j + 3)) = 0 := hk9.symm.trans c_671
    have hfo : u9.2.2 0 = ((if F 5 0 ≤ sEqV F N (xs (5 * j + 1)) (xs (5 * j + 2)) (xs (5 * j + 3)).toNatClampNeg then 1 else 0) : Int32).toInt64 := (h09 h0).2
    have hr8 : r8 = (if F 5 0 ≤ sEqV F N (xs (5 * j + 1)) (xs (5 * j + 2)) (xs (5 * j + 3)).toNatClampNeg then 1 else 0) := (h08 h0).1
    refine lv_aload_n hx hb dL_law_674 rfl (lv_at hl 5 rfl) ?_
    refine lv_iconst (v := 0) hx hb dL_law_675 (by decide) ?_
    refine va_lald hx hb hK hP 27 1 rfl rfl (vp_in_nI (n := 0) (N := 1) (by decide) (by decide)) dL_law_676 ?_
    refine lv_iload hx hb dL_law_677 (lv_at hl 0 rfl) ?_
    refine lv_if_eq (tgt := 686) hx hb dL_law_679 (by decide) (fun c_679 => ?_) (fun c_679 => ?_)
    · skip
      refine lv_lconst (v := 0) hx hb dL_law_686 (by decide) ?_
      refine W.lcmp hx hb dL_law_687 ?_
      refine lv_if_eq (tgt := 693) hx hb dL_law_688 (by decide) (fun c_688 => ?_) (fun c_688 => (c_688 ((lg_cmp_eq _ _).mpr (be_f hfo hr8 c_679)) : False).elim)
      refine lv_goto (tgt := 1396) hx hb dL_law_693 (by decide) ?_
      refine W.widen (k := 28 + (j + 1)) (n := 1132 + 6 * (j + 1)) (by omega) (by omega) ?_
      exact KK N1 _ _ _ _ _ _ ls hW1 hH1 hP hD hS (lv_sub hl [2, 3, 4, 5, 6] rfl)
    · skip
      refine lv_lconst (v := 1) hx hb dL_law_682 (by decide) ?_
      refine lv_goto (tgt := 687) hx hb dL_law_683 (by decide) ?_
      refine W.lcmp hx hb dL_law_687 ?_
      refine lv_if_eq (tgt := 693) hx hb dL_law_688 (by decide) (fun c_688 => ?_) (fun c_688 => (c_688 ((lg_cmp_eq _ _).mpr (be_t hfo hr8 c_679)) : False).elim)
      refine lv_goto (tgt := 1396) hx hb dL_law_693 (by decide) ?_
      refine W.widen (k := 28 + (j + 1)) (n := 1132 + 6 * (j + 1)) (by omega) (by omega) ?_
      exact KK N1 _ _ _ _ _ _ ls hW1 hH1 hP hD hS (lv_sub hl [2, 3, 4, 5, 6] rfl)
set_option maxHeartbeats 4000000 in
set_option maxRecDepth 100000 in
theorem law_payOf {p : Program} {l : Launch} (hl9 : l.stackTraces = false) {e : Env} {s : State} {m : MethodId} {below : List Frame} {meth : Method} {c : Code} {Q : State → Prop} {D : va_G} {cA cL : ClassId} {b L : Nat} {xs : Nat → Int32} (hL : L ≤ 2560) (hx : p.tables.exec = Jvm.exec) (hb : c.code = code) (hml : c.maxLocals = 7) (hown : s.vm.findClass RL = some m.cls) (hts : ∀ w ∈ wsL_law, w.before #[Value.ref b] s = true) (hX : va_X b L xs s s.heap) (hbl : b < s.heap.size) (hK : KL D cA cL s) (hZ : ZX s) {a a2 : Nat → Nat} {ob : Nat} (j : Nat) (hj : 5 * j + 5 ≤ L) (KK : ∀ (N1 : Nat) (F1 : Nat → Nat → Int32) (g1 : Nat → Int32) (th1 : Int32) (fo1 : Nat → Int64) (H1 : Heap) (locs1 : List Loc) (ls1 : Array Slot), wf F1 N1 → hol2 F1 N1 → va_P D vwCl (wA a a2 cA F1 g1 F1 th1 ob cL fo1) H1 → va_D (fun q : Nat => s.heap.size ≤ q) (wA a a2 cA F1 g1 F1 th1 ob cL fo1) → va_S (fun q : Nat => s.heap.size ≤ q) s.heap H1 locs1 → lv_has ls1 7 [(0, .ref b), (1, .ref (a 16)), (2, .ref (a2 16)), (3, .ref ob), (4, .int (nI (5 * j)))] → W p l e room_1 s m #[Value.ref b] below meth c H1 locs1 (28 + (j + 1)) (1132 + 6 * (j + 1)) Q (F0 m 1396 ls1 [])) {N : Nat} {F : Nat → Nat → Int32} {g : Nat → Int32} {th : Int32} {fo : Nat → Int64} {H : Heap} {locs : List Loc} {ls : Array Slot} (hW : wf F N) (hH : hol2 F N) (hP : va_P D vwCl (wA a a2 cA F g F th ob cL fo) H) (hD : va_D (fun q : Nat => s.heap.size ≤ q) (wA a a2 cA F g F th ob cL fo)) (hS : va_S (fun q : Nat => s.heap.size ≤ q) s.heap H locs) (hl : lv_has ls 7 [(0, .ref b), (1, .ref (a 16)), (2, .ref (a2 16)), (3, .ref ob), (4, .int (nI (5 * j)))]) : W p l e room_1 s m #[Value.ref b] below meth c H locs (28 + j) (1132 + 6 * j) Q (F0 m 696 ls []) := by
  have hA : ∀ q : Nat, s.heap.size ≤ q → (fun q : Nat => s.heap.size ≤ q) q := fun _ h => h
  have hbA : ¬ (fun q : Nat => s.heap.size ≤ q) b := Nat.not_le.mpr hbl
  have hKA : KA D cA s := hK.sub [0] rfl
  refine lv_aload_n hx hb dL_law_696 rfl (lv_at hl 1 rfl) ?_
  refine lv_aload_n hx hb dL_law_697 rfl (lv_at hl 0 rfl) ?_
  refine lv_iload hx hb dL_law_698 (lv_at hl 4 rfl) ?_
  refine lv_iconst (v := 1) hx hb dL_law_700 (by decide) ?_
  refine lv_iadd hx hb dL_law_701 ?_
  refine ri_sld (jj := 5 * j + 1) hx hb hX hbl hbA hS (nI_add (5 * j) 1) (by omega) hL dL_law_702 ?_
  refine lv_aload_n hx hb dL_law_703 rfl (lv_at hl 3 rfl) ?_
  refine Lw.callS (rest := []) (wr := (wM a2 cA F th)) [0, 1, 2, 3, 4, 5, 6, 7, 8, 9, 10, 11, 12, 13, 27] [14, 15, 16, 17, 18, 19, 20, 21, 22, 23, 24, 25, 26] ⟨hx, hb, hml, hown, hts⟩ (c_L_payOf l hl9 D cA cL a F g ob fo N hW (xs (5 * j + 1))) (vx_cwSW 3 hts gL_law_L_payOf rfl rfl rfl (by decide +kernel) ⟨Nat.le_of_ble_eq_true rfl, Nat.le_of_ble_eq_true rfl⟩) hK hP hD hS hA (hZ.later hS) rfl rfl (by decide) (by decide) (by decide) rfl rfl hl.1 (Nat.le_of_ble_eq_true rfl) dL_law_704 ⟨(by show 28 + j + 1 ≤ 1055; omega), (by show 1132 + 6 * j + 6 ≤ 9342; omega)⟩ (fun r9 u9 H locs hu9 hP hD hS => ?_)
  obtain ⟨hk9, h09, hn9⟩ := hu9
  have hP : va_P D vwCl (wA a a2 cA u9.1 u9.2.1 F th ob cL u9.2.2) H := hP.sub [13, 14, 15, 16, 17, 18, 19, 20, 21, 22, 23, 24, 25, 26, 0, 1, 2, 3, 4, 5, 6, 7, 8, 9, 10, 11, 12, 27] rfl
  have hD : va_D (fun q : Nat => s.heap.size ≤ q) (wA a a2 cA u9.1 u9.2.1 F th ob cL u9.2.2) := hD.sub [13, 14, 15, 16, 17, 18, 19, 20, 21, 22, 23, 24, 25, 26, 0, 1, 2, 3, 4, 5, 6, 7, 8, 9, 10, 11, 12, 27] (by decide) rfl
  refine lv_istore (lv' := [(5, .int r9), (0, .ref b), (1, .ref (a 16)), (2, .ref (a2 16)), (3, .ref ob), (4, .int (nI (5 * j)))]) hx hb dL_law_707 hl (by decide) rfl (fun ls hl => ?_)
  refine lv_aload_n hx hb dL_law_709 rfl (lv_at hl 3 rfl) ?_
  refine lv_aload_n hx hb dL_law_710 rfl (lv_at hl 1 rfl) ?_
  refine lv_iload hx hb dL_law_711 (lv_at hl 5 rfl) ?_
  refine lv_iconst (v := 1) hx hb dL_law_713 (by decide) ?_
  refine lv_iadd hx hb dL_law_714 ?_
  refine ri_sld (jj := 5 * j + 1) hx hb hX hbl hbA hS (nI_add (5 * j) 1) (by omega) hL dL_law_715 ?_
  refine Wi.callV (rest := []) (q0 := 14) (ci := 1) (wr := (wX a cA u9.1 u9.2.1 ++ wO ob cL u9.2.2)) [14, 15, 16, 17, 18, 19, 20, 21, 22, 23, 24, 25, 26] [0, 1, 2, 3, 4, 5, 6, 7, 8, 9, 10, 11, 12, 13, 27] ⟨hx, hb, hml, hown, hts⟩ (c_X1_payOf l D cA a2 F th N hW (xs (5 * j + 1))) (cwV 1 hts gL_law_X1_payOf rfl rfl rfl (by decide +kernel) ⟨Nat.le_of_ble_eq_true rfl, Nat.le_of_ble_eq_true rfl⟩) hKA hP hD hS hA rfl rfl (by decide) (by decide) (by decide) rfl rfl rfl rfl rfl hl.1 (Nat.le_of_ble_eq_true rfl) dL_law_716 ⟨(by show 28 + j + 1 ≤ 1055; omega), (by show 1132 + 6 * j + 6 ≤ 9342; omega)⟩ (fun r8 u8 H locs hu8 hP hD hS => ?_)
  obtain ⟨hk8, h08, hn8⟩ := hu8
  have hP : va_P D vwCl (wA a a2 cA u9.1 u9.2.1 u8.1 u8.2 ob cL u9.2.2) H := hP.sub [0, 1, 2, 3, 4, 5, 6, 7, 8, 9, 10, 11, 12, 13, 15, 16, 17, 18, 19, 20, 21, 22, 23, 24, 25, 26, 27, 14] rfl
  have hD : va_D (fun q : Nat => s.heap.size ≤ q) (wA a a2 cA u9.1 u9.2.1 u8.1 u8.2 ob cL u9.2.2) := hD.sub [0, 1, 2, 3, 4, 5, 6, 7, 8, 9, 10, 11, 12, 13, 15, 16, 17, 18, 19, 20, 21, 22, 23, 24, 25, 26, 27, 14] (by decide) rfl
  have hFF : u8.1 = u9.1 := F_same (fun h => (h09 h).1) hn9 (fun h => (h08 h).2) hn8
  rw [hFF] at hP hD
  obtain ⟨N1, hW1, hH1⟩ : INV u9.1 := inv_of hW hH (fun h => (h09 h).1) hn9 (fun _ => ⟨N, hW, hH⟩)
  refine lv_istore (lv' := [(6, .int r8), (5, .int r9), (0, .ref b), (1, .ref (a 16)), (2, .ref (a2 16)), (3, .ref ob), (4, .int (nI (5 * j)))]) hx hb dL_law_719 hl (by decide) rfl (fun ls hl => ?_)
  refine lv_aload_n hx hb dL_law_721 rfl (lv_at hl 4 rfl) ?_
  refine Rd.callV (rest := []) (q0 := 0) (ci := 1) ⟨hx, hb, hml, hown, hts⟩ (c_X1_thrown l D cA a2 u9.1 u8.2) (cwV 0 hts gL_law_X1_thrown rfl rfl rfl (by decide +kernel) ⟨Nat.le_of_ble_eq_true rfl, Nat.le_of_ble_eq_true rfl⟩) hKA (hP.sub [14, 15, 16, 17, 18, 19, 20, 21, 22, 23, 24, 25, 26] rfl : va_P D vwCl (wM a2 cA u9.1 u8.2) H) rfl rfl rfl rfl rfl hl.1 (Nat.le_of_ble_eq_true rfl) dL_law_722 ⟨(by show 28 + j + 1 ≤ 1055; omega), (by show 1132 + 6 * j + 6 ≤ 9342; omega)⟩ ?_
  refine lv_iload hx hb dL_law_725 (lv_at hl 1 rfl) ?_
  refine lv_icmp_eq (tgt := 732) hx hb dL_law_727 (by decide) (fun c_727 => ?_) (fun c_727 => (c_727 (hk8.trans hk9.symm) : False).elim)
  refine lv_iload hx hb dL_law_732 (lv_at hl 1 rfl) ?_
  refine lv_if_ne (tgt := 749) hx hb dL_law_734 (by decide) (fun c_734 => ?_) (fun c_734 => ?_)
  · skip
    refine lv_goto (tgt := 1396) hx hb dL_law_749 (by decide) ?_
    refine W.widen (k := 28 + (j + 1)) (n := 1132 + 6 * (j + 1)) (by omega) (by omega) ?_
    exact KK N1 _ _ _ _ _ _ ls hW1 hH1 hP hD hS (lv_sub hl [2, 3, 4, 5, 6] rfl)
  · skip
    have h0 : kSh F (xs (5 * j + 1)) = 0 := hk9.symm.trans c_734
    have hfo : u9.2.2 0 = (sPy F N (xs (5 * j + 1)).toNatClampNeg : Int32).toInt64 := (h09 h0).2
    have hr8 : r8 = sPy F N (xs (5 * j + 1)).toNatClampNeg := (h08 h0).1
    refine lv_aload_n hx hb dL_law_737 rfl (lv_at hl 5 rfl) ?_
    refine lv_iconst (v := 0) hx hb dL_law_738 (by decide) ?_
    refine va_lald hx hb hK hP 27 1 rfl rfl (vp_in_nI (n := 0) (N := 1) (by decide) (by decide)) dL_law_739 ?_
    refine lv_iload hx hb dL_law_740 (lv_at hl 0 rfl) ?_
    refine lv_i2l (v := (r8 : Int32).toInt64) hx hb dL_law_742 rfl ?_
    refine W.lcmp hx hb dL_law_743 ?_
    refine lv_if_eq (tgt := 749) hx hb dL_law_744 (by decide) (fun c_744 => ?_) (fun c_744 => (c_744 ((lg_cmp_eq _ _).mpr (by rw [hr8]; exact hfo)) : False).elim)
    refine lv_goto (tgt := 1396) hx hb dL_law_749 (by decide) ?_
    refine W.widen (k := 28 + (j + 1)) (n := 1132 + 6 * (j + 1)) (by omega) (by omega) ?_
    exact KK N1 _ _ _ _ _ _ ls hW1 hH1 hP hD hS (lv_sub hl [2, 3, 4, 5, 6] rfl)
set_option maxHeartbeats 4000000 in
set_option maxRecDepth 100000 in
theorem law_chargeOf {p : Program} {l : Launch} (hl9 : l.stackTraces = false) {e : Env} {s : State} {m : MethodId} {below : List Frame} {meth : Method} {c : Code} {Q : State → Prop} {D : va_G} {cA cL : ClassId} {b L : Nat} {xs : Nat → Int32} (hL : L ≤ 2560) (hx : p.tables.exec = Jvm.exec) (hb : c.code = code) (hml : c.maxLocals = 7) (hown : s.vm.findClass RL = some m.cls) (hts : ∀ w ∈ wsL_law, w.before #[Value.ref b] s = true) (hX : va_X b L xs s s.heap) (hbl : b < s.heap.size) (hK : KL D cA cL s) (hZ : ZX s) {a a2 : Nat → Nat} {ob : Nat} (j : Nat) (hj : 5 * j + 5 ≤ L) (KK : ∀ (N1 : Nat) (F1 : Nat → Nat → Int32) (g1 : Nat → Int32) (th1 : Int32) (fo1 : Nat → Int64) (H1 : Heap) (locs1 : List Loc) (ls1 : Array Slot), wf F1 N1 → hol2 F1 N1 → va_P D vwCl (wA a a2 cA F1 g1 F1 th1 ob cL fo1) H1 → va_D (fun q : Nat => s.heap.size ≤ q) (wA a a2 cA F1 g1 F1 th1 ob cL fo1) → va_S (fun q : Nat => s.heap.size ≤ q) s.heap H1 locs1 → lv_has ls1 7 [(0, .ref b), (1, .ref (a 16)), (2, .ref (a2 16)), (3, .ref ob), (4, .int (nI (5 * j)))] → W p l e room_1 s m #[Value.ref b] below meth c H1 locs1 (28 + (j + 1)) (1132 + 6 * (j + 1)) Q (F0 m 1396 ls1 [])) {N : Nat} {F : Nat → Nat → Int32} {g : Nat → Int32} {th : Int32} {fo : Nat → Int64} {H : Heap} {locs : List Loc} {ls : Array Slot} (hW : wf F N) (hH : hol2 F N) (hP : va_P D vwCl (wA a a2 cA F g F th ob cL fo) H) (hD : va_D (fun q : Nat => s.heap.size ≤ q) (wA a a2 cA F g F th ob cL fo)) (hS : va_S (fun q : Nat => s.heap.size ≤ q) s.heap H locs) (hl : lv_has ls 7 [(0, .ref b), (1, .ref (a 16)), (2, .ref (a2 16)), (3, .ref ob), (4, .int (nI (5 * j)))]) : W p l e room_1 s m #[Value.ref b] below meth c H locs (28 + j) (1132 + 6 * j) Q (F0 m 752 ls []) := by
  have hA : ∀ q : Nat, s.heap.size ≤ q → (fun q : Nat => s.heap.size ≤ q) q := fun _ h => h
  have hbA : ¬ (fun q : Nat => s.heap.size ≤ q) b := Nat.not_le.mpr hbl
  have hKA : KA D cA s := hK.sub [0] rfl
  refine lv_aload_n hx hb dL_law_752 rfl (lv_at hl 1 rfl) ?_
  refine lv_aload_n hx hb dL_law_753 rfl (lv_at hl 0 rfl) ?_
  refine lv_iload hx hb dL_law_754 (lv_at hl 4 rfl) ?_
  refine lv_iconst (v := 1) hx hb dL_law_756 (by decide) ?_
  refine lv_iadd hx hb dL_law_757 ?_
  refine ri_sld (jj := 5 * j + 1) hx hb hX hbl hbA hS (nI_add (5 * j) 1) (by omega) hL dL_law_758 ?_
  refine lv_aload_n hx hb dL_law_759 rfl (lv_at hl 3 rfl) ?_
  refine Lw.callS (rest := []) (wr := (wM a2 cA F th)) [0, 1, 2, 3, 4, 5, 6, 7, 8, 9, 10, 11, 12, 13, 27] [14, 15, 16, 17, 18, 19, 20, 21, 22, 23, 24, 25, 26] ⟨hx, hb, hml, hown, hts⟩ (c_L_chargeOf l hl9 D cA cL a F g ob fo N hW (xs (5 * j + 1))) (vx_cwSW 3 hts gL_law_L_chargeOf rfl rfl rfl (by decide +kernel) ⟨Nat.le_of_ble_eq_true rfl, Nat.le_of_ble_eq_true rfl⟩) hK hP hD hS hA (hZ.later hS) rfl rfl (by decide) (by decide) (by decide) rfl rfl hl.1 (Nat.le_of_ble_eq_true rfl) dL_law_760 ⟨(by show 28 + j + 1 ≤ 1055; omega), (by show 1132 + 6 * j + 6 ≤ 9342; omega)⟩ (fun r9 u9 H locs hu9 hP hD hS => ?_)
  obtain ⟨hk9, h09, hn9⟩ := hu9
  have hP : va_P D vwCl (wA a a2 cA u9.1 u9.2.1 F th ob cL u9.2.2) H := hP.sub [13, 14, 15, 16, 17, 18, 19, 20, 21, 22, 23, 24, 25, 26, 0, 1, 2, 3, 4, 5, 6, 7, 8, 9, 10, 11, 12, 27] rfl
  have hD : va_D (fun q : Nat => s.heap.size ≤ q) (wA a a2 cA u9.1 u9.2.1 F th ob cL u9.2.2) := hD.sub [13, 14, 15, 16, 17, 18, 19, 20, 21, 22, 23, 24, 25, 26, 0, 1, 2, 3, 4, 5, 6, 7, 8, 9, 10, 11, 12, 27] (by decide) rfl
  refine lv_istore (lv' := [(5, .int r9), (0, .ref b), (1, .ref (a 16)), (2, .ref (a2 16)), (3, .ref ob), (4, .int (nI (5 * j)))]) hx hb dL_law_763 hl (by decide) rfl (fun ls hl => ?_)
  refine lv_aload_n hx hb dL_law_765 rfl (lv_at hl 3 rfl) ?_
  refine lv_aload_n hx hb dL_law_766 rfl (lv_at hl 1 rfl) ?_
  refine lv_iload hx hb dL_law_767 (lv_at hl 5 rfl) ?_
  refine lv_iconst (v := 1) hx hb dL_law_769 (by decide) ?_
  refine lv_iadd hx hb dL_law_770 ?_
  refine ri_sld (jj := 5 * j + 1) hx hb hX hbl hbA hS (nI_add (5 * j) 1) (by omega) hL dL_law_771 ?_
  refine Wi.callV (rest := []) (q0 := 14) (ci := 1) (wr := (wX a cA u9.1 u9.2.1 ++ wO ob cL u9.2.2)) [14, 15, 16, 17, 18, 19, 20, 21, 22, 23, 24, 25, 26] [0, 1, 2, 3, 4, 5, 6, 7, 8, 9, 10, 11, 12, 13, 27] ⟨hx, hb, hml, hown, hts⟩ (c_X1_chargeOf l D cA a2 F th N hW (xs (5 * j + 1))) (cwV 1 hts gL_law_X1_chargeOf rfl rfl rfl (by decide +kernel) ⟨Nat.le_of_ble_eq_true rfl, Nat.le_of_ble_eq_true rfl⟩) hKA hP hD hS hA rfl rfl (by decide) (by decide) (by decide) rfl rfl rfl rfl rfl hl.1 (Nat.le_of_ble_eq_true rfl) dL_law_772 ⟨(by show 28 + j + 1 ≤ 1055; omega), (by show 1132 + 6 * j + 6 ≤ 9342; omega)⟩ (fun r8 u8 H locs hu8 hP hD hS => ?_)
  obtain ⟨hk8, h08, hn8⟩ := hu8
  have hP : va_P D vwCl (wA a a2 cA u9.1 u9.2.1 u8.1 u8.2 ob cL u9.2.2) H := hP.sub [0, 1, 2, 3, 4, 5, 6, 7, 8, 9, 10, 11, 12, 13, 15, 16, 17, 18, 19, 20, 21, 22, 23, 24, 25, 26, 27, 14] rfl
  have hD : va_D (fun q : Nat => s.heap.size ≤ q) (wA a a2 cA u9.1 u9.2.1 u8.1 u8.2 ob cL u9.2.2) := hD.sub [0, 1, 2, 3, 4, 5, 6, 7, 8, 9, 10, 11, 12, 13, 15, 16, 17, 18, 19, 20, 21, 22, 23, 24, 25, 26, 27, 14] (by decide) rfl
  have hFF : u8.1 = u9.1 := F_same (fun h => (h09 h).1) hn9 (fun h => (h08 h).2) hn8
  rw [hFF] at hP hD
  obtain ⟨N1, hW1, hH1⟩ : INV u9.1 := inv_of hW hH (fun h => (h09 h).1) hn9 (fun _ => ⟨N, hW, hH⟩)
  refine lv_istore (lv' := [(6, .int r8), (5, .int r9), (0, .ref b), (1, .ref (a 16)), (2, .ref (a2 16)), (3, .ref ob), (4, .int (nI (5 * j)))]) hx hb dL_law_775 hl (by decide) rfl (fun ls hl => ?_)
  refine lv_aload_n hx hb dL_law_777 rfl (lv_at hl 4 rfl) ?_
  refine Rd.callV (rest := []) (q0 := 0) (ci := 1) ⟨hx, hb, hml, hown, hts⟩ (c_X1_thrown l D cA a2 u9.1 u8.2) (cwV 0 hts gL_law_X1_thrown rfl rfl rfl (by decide +kernel) ⟨Nat.le_of_ble_eq_true rfl, Nat.le_of_ble_eq_true rfl⟩) hKA (hP.sub [14, 15, 16, 17, 18, 19, 20, 21, 22, 23, 24, 25, 26] rfl : va_P D vwCl (wM a2 cA u9.1 u8.2) H) rfl rfl rfl rfl rfl hl.1 (Nat.le_of_ble_eq_true rfl) dL_law_778 ⟨(by show 28 + j + 1 ≤ 1055; omega), (by show 1132 + 6 * j + 6 ≤ 9342; omega)⟩ ?_
  refine lv_iload hx hb dL_law_781 (lv_at hl 1 rfl) ?_
  refine lv_icmp_eq (tgt := 788) hx hb dL_law_783 (by decide) (fun c_783 => ?_) (fun c_783 => (c_783 (hk8.trans hk9.symm) : False).elim)
  refine lv_iload hx hb dL_law_788 (lv_at hl 1 rfl) ?_
  refine lv_if_ne (tgt := 805) hx hb dL_law_790 (by decide) (fun c_790 => ?_) (fun c_790 => ?_)
  · skip
    refine lv_goto (tgt := 1396) hx hb dL_law_805 (by decide) ?_
    refine W.widen (k := 28 + (j + 1)) (n := 1132 + 6 * (j + 1)) (by omega) (by omega) ?_
    exact KK N1 _ _ _ _ _ _ ls hW1 hH1 hP hD hS (lv_sub hl [2, 3, 4, 5, 6] rfl)
  · skip
    have h0 : kSh F (xs (5 * j + 1)) = 0 := hk9.symm.trans c_790
    have hfo : u9.2.2 0 = (sCh F N (xs (5 * j + 1)).toNatClampNeg : Int32).toInt64 := (h09 h0).2
    have hr8 : r8 = sCh F N (xs (5 * j + 1)).toNatClampNeg := (h08 h0).1
    refine lv_aload_n hx hb dL_law_793 rfl (lv_at hl 5 rfl) ?_
    refine lv_iconst (v := 0) hx hb dL_law_794 (by decide) ?_
    refine va_lald hx hb hK hP 27 1 rfl rfl (vp_in_nI (n := 0) (N := 1) (by decide) (by decide)) dL_law_795 ?_
    refine lv_iload hx hb dL_law_796 (lv_at hl 0 rfl) ?_
    refine lv_i2l (v := (r8 : Int32).toInt64) hx hb dL_law_798 rfl ?_
    refine W.lcmp hx hb dL_law_799 ?_
    refine lv_if_eq (tgt := 805) hx hb dL_law_800 (by decide) (fun c_800 => ?_) (fun c_800 => (c_800 ((lg_cmp_eq _ _).mpr (by rw [hr8]; exact hfo)) : False).elim)
    refine lv_goto (tgt := 1396) hx hb dL_law_805 (by decide) ?_
    refine W.widen (k := 28 + (j + 1)) (n := 1132 + 6 * (j + 1)) (by omega) (by omega) ?_
    exact KK N1 _ _ _ _ _ _ ls hW1 hH1 hP hD hS (lv_sub hl [2, 3, 4, 5, 6] rfl)
set_option maxHeartbeats 4000000 in
set_option maxRecDepth 100000 in
theorem law_pay {p : Program} {l : Launch} (hl9 : l.stackTraces = false) {e : Env} {s : State} {m : MethodId} {below : List Frame} {meth : Method} {c : Code} {Q : State → Prop} {D : va_G} {cA cL : ClassId} {b L : Nat} {xs : Nat → Int32} (hL : L ≤ 2560) (hx : p.tables.exec = Jvm.exec) (hb : c.code = code) (hml : c.maxLocals = 7) (hown : s.vm.findClass RL = some m.cls) (hts : ∀ w ∈ wsL_law, w.before #[Value.ref b] s = true) (hX : va_X b L xs s s.heap) (hbl : b < s.heap.size) (hK : KL D cA cL s) (hZ : ZX s) {a a2 : Nat → Nat} {ob : Nat} (j : Nat) (hj : 5 * j + 5 ≤ L) (KK : ∀ (N1 : Nat) (F1 : Nat → Nat → Int32) (g1 : Nat → Int32) (th1 : Int32) (fo1 : Nat → Int64) (H1 : Heap) (locs1 : List Loc) (ls1 : Array Slot), wf F1 N1 → hol2 F1 N1 → va_P D vwCl (wA a a2 cA F1 g1 F1 th1 ob cL fo1) H1 → va_D (fun q : Nat => s.heap.size ≤ q) (wA a a2 cA F1 g1 F1 th1 ob cL fo1) → va_S (fun q : Nat => s.heap.size ≤ q) s.heap H1 locs1 → lv_has ls1 7 [(0, .ref b), (1, .ref (a 16)), (2, .ref (a2 16)), (3, .ref ob), (4, .int (nI (5 * j)))] → W p l e room_1 s m #[Value.ref b] below meth c H1 locs1 (28 + (j + 1)) (1132 + 6 * (j + 1)) Q (F0 m 1396 ls1 [])) {N : Nat} {F : Nat → Nat → Int32} {g : Nat → Int32} {th : Int32} {fo : Nat → Int64} {H : Heap} {locs : List Loc} {ls : Array Slot} (hW : wf F N) (hH : hol2 F N) (hP : va_P D vwCl (wA a a2 cA F g F th ob cL fo) H) (hD : va_D (fun q : Nat => s.heap.size ≤ q) (wA a a2 cA F g F th ob cL fo)) (hS : va_S (fun q : Nat => s.heap.size ≤ q) s.heap H locs) (hl : lv_has ls 7 [(0, .ref b), (1, .ref (a 16)), (2, .ref (a2 16)), (3, .ref ob), (4, .int (nI (5 * j)))]) : W p l e room_1 s m #[Value.ref b] below meth c H locs (28 + j) (1132 + 6 * j) Q (F0 m 808 ls []) := by
  have hA : ∀ q : Nat, s.heap.size ≤ q → (fun q : Nat => s.heap.size ≤ q) q := fun _ h => h
  have hbA : ¬ (fun q : Nat => s.heap.size ≤ q) b := Nat.not_le.mpr hbl
  have hKA : KA D cA s := hK.sub [0] rfl
  refine lv_aload_n hx hb dL_law_808 rfl (lv_at hl 1 rfl) ?_
  refine lv_aload_n hx hb dL_law_809 rfl (lv_at hl 0 rfl) ?_
  refine lv_iload hx hb dL_law_810 (lv_at hl 4 rfl) ?_
  refine lv_iconst (v := 1) hx hb dL_law_812 (by decide) ?_
  refine lv_iadd hx hb dL_law_813 ?_
  refine ri_sld (jj := 5 * j + 1) hx hb hX hbl hbA hS (nI_add (5 * j) 1) (by omega) hL dL_law_814 ?_
  refine lv_aload_n hx hb dL_law_815 rfl (lv_at hl 0 rfl) ?_
  refine lv_iload hx hb dL_law_816 (lv_at hl 4 rfl) ?_
  refine lv_iconst (v := 2) hx hb dL_law_818 (by decide) ?_
  refine lv_iadd hx hb dL_law_819 ?_
  refine ri_sld (jj := 5 * j + 2) hx hb hX hbl hbA hS (nI_add (5 * j) 2) (by omega) hL dL_law_820 ?_
  refine lv_aload_n hx hb dL_law_821 rfl (lv_at hl 3 rfl) ?_
  refine Lw.callS (rest := []) (wr := (wM a2 cA F th)) [0, 1, 2, 3, 4, 5, 6, 7, 8, 9, 10, 11, 12, 13, 27] [14, 15, 16, 17, 18, 19, 20, 21, 22, 23, 24, 25, 26] ⟨hx, hb, hml, hown, hts⟩ (c_L_pay l hl9 D cA cL a F g ob fo N hW (xs (5 * j + 1)) (xs (5 * j + 2))) (vx_cwSW 4 hts gL_law_L_pay rfl rfl rfl (by decide +kernel) ⟨Nat.le_of_ble_eq_true rfl, Nat.le_of_ble_eq_true rfl⟩) hK hP hD hS hA (hZ.later hS) rfl rfl (by decide) (by decide) (by decide) rfl rfl hl.1 (Nat.le_of_ble_eq_true rfl) dL_law_822 ⟨(by show 28 + j + 1 ≤ 1055; omega), (by show 1132 + 6 * j + 6 ≤ 9342; omega)⟩ (fun r9 u9 H locs hu9 hP hD hS => ?_)
  obtain ⟨hk9, h09, hn9⟩ := hu9
  have hP : va_P D vwCl (wA a a2 cA u9.1 u9.2.1 F th ob cL u9.2.2) H := hP.sub [13, 14, 15, 16, 17, 18, 19, 20, 21, 22, 23, 24, 25, 26, 0, 1, 2, 3, 4, 5, 6, 7, 8, 9, 10, 11, 12, 27] rfl
  have hD : va_D (fun q : Nat => s.heap.size ≤ q) (wA a a2 cA u9.1 u9.2.1 F th ob cL u9.2.2) := hD.sub [13, 14, 15, 16, 17, 18, 19, 20, 21, 22, 23, 24, 25, 26, 0, 1, 2, 3, 4, 5, 6, 7, 8, 9, 10, 11, 12, 27] (by decide) rfl
  refine lv_istore (lv' := [(5, .int r9), (0, .ref b), (1, .ref (a 16)), (2, .ref (a2 16)), (3, .ref ob), (4, .int (nI (5 * j)))]) hx hb dL_law_825 hl (by decide) rfl (fun ls hl => ?_)
  refine lv_aload_n hx hb dL_law_827 rfl (lv_at hl 3 rfl) ?_
  refine lv_aload_n hx hb dL_law_828 rfl (lv_at hl 1 rfl) ?_
  refine lv_iload hx hb dL_law_829 (lv_at hl 5 rfl) ?_
  refine lv_iconst (v := 1) hx hb dL_law_831 (by decide) ?_
  refine lv_iadd hx hb dL_law_832 ?_
  refine ri_sld (jj := 5 * j + 1) hx hb hX hbl hbA hS (nI_add (5 * j) 1) (by omega) hL dL_law_833 ?_
  refine lv_aload_n hx hb dL_law_834 rfl (lv_at hl 1 rfl) ?_
  refine lv_iload hx hb dL_law_835 (lv_at hl 5 rfl) ?_
  refine lv_iconst (v := 2) hx hb dL_law_837 (by decide) ?_
  refine lv_iadd hx hb dL_law_838 ?_
  refine ri_sld (jj := 5 * j + 2) hx hb hX hbl hbA hS (nI_add (5 * j) 2) (by omega) hL dL_law_839 ?_
  refine Wi.callV (rest := []) (q0 := 14) (ci := 1) (wr := (wX a cA u9.1 u9.2.1 ++ wO ob cL u9.2.2)) [14, 15, 16, 17, 18, 19, 20, 21, 22, 23, 24, 25, 26] [0, 1, 2, 3, 4, 5, 6, 7, 8, 9, 10, 11, 12, 13, 27] ⟨hx, hb, hml, hown, hts⟩ (c_X1_pay l D cA a2 F th N hW (xs (5 * j + 1)) (xs (5 * j + 2))) (cwV 2 hts gL_law_X1_pay rfl rfl rfl (by decide +kernel) ⟨Nat.le_of_ble_eq_true rfl, Nat.le_of_ble_eq_true rfl⟩) hKA hP hD hS hA rfl rfl (by decide) (by decide) (by decide) rfl rfl rfl rfl rfl hl.1 (Nat.le_of_ble_eq_true rfl) dL_law_840 ⟨(by show 28 + j + 1 ≤ 1055; omega), (by show 1132 + 6 * j + 6 ≤ 9342; omega)⟩ (fun r8 u8 H locs hu8 hP hD hS => ?_)
  obtain ⟨hk8, h08, hn8⟩ := hu8
  have hP : va_P D vwCl (wA a a2 cA u9.1 u9.2.1 u8.1 u8.2 ob cL u9.2.2) H := hP.sub [0, 1, 2, 3, 4, 5, 6, 7, 8, 9, 10, 11, 12, 13, 15, 16, 17, 18, 19, 20, 21, 22, 23, 24, 25, 26, 27, 14] rfl
  have hD : va_D (fun q : Nat => s.heap.size ≤ q) (wA a a2 cA u9.1 u9.2.1 u8.1 u8.2 ob cL u9.2.2) := hD.sub [0, 1, 2, 3, 4, 5, 6, 7, 8, 9, 10, 11, 12, 13, 15, 16, 17, 18, 19, 20, 21, 22, 23, 24, 25, 26, 27, 14] (by decide) rfl
  have hFF : u8.1 = u9.1 := F_same (fun h => (h09 h).1) hn9 (fun h => (h08 h).2) hn8
  rw [hFF] at hP hD
  obtain ⟨N1, hW1, hH1⟩ : INV u9.1 := inv_of hW hH (fun h => (h09 h).1) hn9 (fun _ => ⟨N, hW, hH⟩)
  refine lv_istore (lv' := [(6, .int r8), (5, .int r9), (0, .ref b), (1, .ref (a 16)), (2, .ref (a2 16)), (3, .ref ob), (4, .int (nI (5 * j)))]) hx hb dL_law_843 hl (by decide) rfl (fun ls hl => ?_)
  refine lv_aload_n hx hb dL_law_845 rfl (lv_at hl 4 rfl) ?_
  refine Rd.callV (rest := []) (q0 := 0) (ci := 1) ⟨hx, hb, hml, hown, hts⟩ (c_X1_thrown l D cA a2 u9.1 u8.2) (cwV 0 hts gL_law_X1_thrown rfl rfl rfl (by decide +kernel) ⟨Nat.le_of_ble_eq_true rfl, Nat.le_of_ble_eq_true rfl⟩) hKA (hP.sub [14, 15, 16, 17, 18, 19, 20, 21, 22, 23, 24, 25, 26] rfl : va_P D vwCl (wM a2 cA u9.1 u8.2) H) rfl rfl rfl rfl rfl hl.1 (Nat.le_of_ble_eq_true rfl) dL_law_846 ⟨(by show 28 + j + 1 ≤ 1055; omega), (by show 1132 + 6 * j + 6 ≤ 9342; omega)⟩ ?_
  refine lv_iload hx hb dL_law_849 (lv_at hl 1 rfl) ?_
  refine lv_icmp_eq (tgt := 856) hx hb dL_law_851 (by decide) (fun c_851 => ?_) (fun c_851 => (c_851 (hk8.trans hk9.symm) : False).elim)
  refine lv_iload hx hb dL_law_856 (lv_at hl 1 rfl) ?_
  refine lv_if_ne (tgt := 873) hx hb dL_law_858 (by decide) (fun c_858 => ?_) (fun c_858 => ?_)
  · skip
    refine lv_goto (tgt := 1396) hx hb dL_law_873 (by decide) ?_
    refine W.widen (k := 28 + (j + 1)) (n := 1132 + 6 * (j + 1)) (by omega) (by omega) ?_
    exact KK N1 _ _ _ _ _ _ ls hW1 hH1 hP hD hS (lv_sub hl [2, 3, 4, 5, 6] rfl)
  · skip
    have h0 : kWW (xs (5 * j + 1)) (xs (5 * j + 2)) = 0 := hk9.symm.trans c_858
    have hfo : u9.2.2 0 = (ps (tPw F N (xs (5 * j + 1)) (xs (5 * j + 2))) N : Int32).toInt64 := (h09 h0).2
    have hr8 : r8 = ps (tPw F N (xs (5 * j + 1)) (xs (5 * j + 2))) N := (h08 h0).1
    refine lv_aload_n hx hb dL_law_861 rfl (lv_at hl 5 rfl) ?_
    refine lv_iconst (v := 0) hx hb dL_law_862 (by decide) ?_
    refine va_lald hx hb hK hP 27 1 rfl rfl (vp_in_nI (n := 0) (N := 1) (by decide) (by decide)) dL_law_863 ?_
    refine lv_iload hx hb dL_law_864 (lv_at hl 0 rfl) ?_
    refine lv_i2l (v := (r8 : Int32).toInt64) hx hb dL_law_866 rfl ?_
    refine W.lcmp hx hb dL_law_867 ?_
    refine lv_if_eq (tgt := 873) hx hb dL_law_868 (by decide) (fun c_868 => ?_) (fun c_868 => (c_868 ((lg_cmp_eq _ _).mpr (by rw [hr8]; exact hfo)) : False).elim)
    refine lv_goto (tgt := 1396) hx hb dL_law_873 (by decide) ?_
    refine W.widen (k := 28 + (j + 1)) (n := 1132 + 6 * (j + 1)) (by omega) (by omega) ?_
    exact KK N1 _ _ _ _ _ _ ls hW1 hH1 hP hD hS (lv_sub hl [2, 3, 4, 5, 6] rfl)
set_option maxHeartbeats 4000000 in
set_option maxRecDepth 100000 in
theorem law_payByHours {p : Program} {l : Launch} (hl9 : l.stackTraces = false) {e : Env} {s : State} {m : MethodId} {below : List Frame} {meth : Method} {c : Code} {Q : State → Prop} {D : va_G} {cA cL : ClassId} {b L : Nat} {xs : Nat → Int32} (hL : L ≤ 2560) (hx : p.tables.exec = Jvm.exec) (hb : c.code = code) (hml : c.maxLocals = 7) (hown : s.vm.findClass RL = some m.cls) (hts : ∀ w ∈ wsL_law, w.before #[Value.ref b] s = true) (hX : va_X b L xs s s.heap) (hbl : b < s.heap.size) (hK : KL D cA cL s) (hZ : ZX s) {a a2 : Nat → Nat} {ob : Nat} (j : Nat) (hj : 5 * j + 5 ≤ L) (KK : ∀ (N1 : Nat) (F1 : Nat → Nat → Int32) (g1 : Nat → Int32) (th1 : Int32) (fo1 : Nat → Int64) (H1 : Heap) (locs1 : List Loc) (ls1 : Array Slot), wf F1 N1 → hol2 F1 N1 → va_P D vwCl (wA a a2 cA F1 g1 F1 th1 ob cL fo1) H1 → va_D (fun q : Nat => s.heap.size ≤ q) (wA a a2 cA F1 g1 F1 th1 ob cL fo1) → va_S (fun q : Nat => s.heap.size ≤ q) s.heap H1 locs1 → lv_has ls1 7 [(0, .ref b), (1, .ref (a 16)), (2, .ref (a2 16)), (3, .ref ob), (4, .int (nI (5 * j)))] → W p l e room_1 s m #[Value.ref b] below meth c H1 locs1 (28 + (j + 1)) (1132 + 6 * (j + 1)) Q (F0 m 1396 ls1 [])) {N : Nat} {F : Nat → Nat → Int32} {g : Nat → Int32} {th : Int32} {fo : Nat → Int64} {H : Heap} {locs : List Loc} {ls : Array Slot} (hW : wf F N) (hH : hol2 F N) (hP : va_P D vwCl (wA a a2 cA F g F th ob cL fo) H) (hD : va_D (fun q : Nat => s.heap.size ≤ q) (wA a a2 cA F g F th ob cL fo)) (hS : va_S (fun q : Nat => s.heap.size ≤ q) s.heap H locs) (hl : lv_has ls 7 [(0, .ref b), (1, .ref (a 16)), (2, .ref (a2 16)), (3, .ref ob), (4, .int (nI (5 * j)))]) : W p l e room_1 s m #[Value.ref b] below meth c H locs (28 + j) (1132 + 6 * j) Q (F0 m 876 ls []) := by
  have hA : ∀ q : Nat, s.heap.size ≤ q → (fun q : Nat => s.heap.size ≤ q) q := fun _ h => h
  have hbA : ¬ (fun q : Nat => s.heap.size ≤ q) b := Nat.not_le.mpr hbl
  have hKA : KA D cA s := hK.sub [0] rfl
  refine lv_aload_n hx hb dL_law_876 rfl (lv_at hl 1 rfl) ?_
  refine lv_aload_n hx hb dL_law_877 rfl (lv_at hl 0 rfl) ?_
  refine lv_iload hx hb dL_law_878 (lv_at hl 4 rfl) ?_
  refine lv_iconst (v := 1) hx hb dL_law_880 (by decide) ?_
  refine lv_iadd hx hb dL_law_881 ?_
  refine ri_sld (jj := 5 * j + 1) hx hb hX hbl hbA hS (nI_add (5 * j) 1) (by omega) hL dL_law_882 ?_
  refine lv_aload_n hx hb dL_law_883 rfl (lv_at hl 0 rfl) ?_
  refine lv_iload hx hb dL_law_884 (lv_at hl 4 rfl) ?_
  refine lv_iconst (v := 2) hx hb dL_law_886 (by decide) ?_
  refine lv_iadd hx hb dL_law_887 ?_
  refine ri_sld (jj := 5 * j + 2) hx hb hX hbl hbA hS (nI_add (5 * j) 2) (by omega) hL dL_law_888 ?_
  refine lv_aload_n hx hb dL_law_889 rfl (lv_at hl 3 rfl) ?_
  refine Lw.callS (rest := []) (wr := (wM a2 cA F th)) [0, 1, 2, 3, 4, 5, 6, 7, 8, 9, 10, 11, 12, 13, 27] [14, 15, 16, 17, 18, 19, 20, 21, 22, 23, 24, 25, 26] ⟨hx, hb, hml, hown, hts⟩ (c_L_payByHours l hl9 D cA cL a F g ob fo N hW (xs (5 * j + 1)) (xs (5 * j + 2))) (vx_cwSW 4 hts gL_law_L_payByHours rfl rfl rfl (by decide +kernel) ⟨Nat.le_of_ble_eq_true rfl, Nat.le_of_ble_eq_true rfl⟩) hK hP hD hS hA (hZ.later hS) rfl rfl (by decide) (by decide) (by decide) rfl rfl hl.1 (Nat.le_of_ble_eq_true rfl) dL_law_890 ⟨(by show 28 + j + 1 ≤ 1055; omega), (by show 1132 + 6 * j + 6 ≤ 9342; omega)⟩ (fun r9 u9 H locs hu9 hP hD hS => ?_)
  obtain ⟨hk9, h09, hn9⟩ := hu9
  have hP : va_P D vwCl (wA a a2 cA u9.1 u9.2.1 F th ob cL u9.2.2) H := hP.sub [13, 14, 15, 16, 17, 18, 19, 20, 21, 22, 23, 24, 25, 26, 0, 1, 2, 3, 4, 5, 6, 7, 8, 9, 10, 11, 12, 27] rfl
  have hD : va_D (fun q : Nat => s.heap.size ≤ q) (wA a a2 cA u9.1 u9.2.1 F th ob cL u9.2.2) := hD.sub [13, 14, 15, 16, 17, 18, 19, 20, 21, 22, 23, 24, 25, 26, 0, 1, 2, 3, 4, 5, 6, 7, 8, 9, 10, 11, 12, 27] (by decide) rfl
  refine lv_istore (lv' := [(5, .int r9), (0, .ref b), (1, .ref (a 16)), (2, .ref (a2 16)), (3, .ref ob), (4, .int (nI (5 * j)))]) hx hb dL_law_893 hl (by decide) rfl (fun ls hl => ?_)
  refine lv_aload_n hx hb dL_law_895 rfl (lv_at hl 3 rfl) ?_
  refine lv_aload_n hx hb dL_law_896 rfl (lv_at hl 1 rfl) ?_
  refine lv_iload hx hb dL_law_897 (lv_at hl 5 rfl) ?_
  refine lv_iconst (v := 1) hx hb dL_law_899 (by decide) ?_
  refine lv_iadd hx hb dL_law_900 ?_
  refine ri_sld (jj := 5 * j + 1) hx hb hX hbl hbA hS (nI_add (5 * j) 1) (by omega) hL dL_law_901 ?_
  refine lv_aload_n hx hb dL_law_902 rfl (lv_at hl 1 rfl) ?_
  refine lv_iload hx hb dL_law_903 (lv_at hl 5 rfl) ?_
  refine lv_iconst (v := 2) hx hb dL_law_905 (by decide) ?_
  refine lv_iadd hx hb dL_law_906 ?_
  refine ri_sld (jj := 5 * j + 2) hx hb hX hbl hbA hS (nI_add (5 * j) 2) (by omega) hL dL_law_907 ?_
  refine Wi.callV (rest := []) (q0 := 14) (ci := 1) (wr := (wX a cA u9.1 u9.2.1 ++ wO ob cL u9.2.2)) [14, 15, 16, 17, 18, 19, 20, 21, 22, 23, 24, 25, 26] [0, 1, 2, 3, 4, 5, 6, 7, 8, 9, 10, 11, 12, 13, 27] ⟨hx, hb, hml, hown, hts⟩ (c_X1_payByHours l D cA a2 F th N hW (xs (5 * j + 1)) (xs (5 * j + 2))) (cwV 2 hts gL_law_X1_payByHours rfl rfl rfl (by decide +kernel) ⟨Nat.le_of_ble_eq_true rfl, Nat.le_of_ble_eq_true rfl⟩) hKA hP hD hS hA rfl rfl (by decide) (by decide) (by decide) rfl rfl rfl rfl rfl hl.1 (Nat.le_of_ble_eq_true rfl) dL_law_908 ⟨(by show 28 + j + 1 ≤ 1055; omega), (by show 1132 + 6 * j + 6 ≤ 9342; omega)⟩ (fun r8 u8 H locs hu8 hP hD hS => ?_)
  obtain ⟨hk8, h08, hn8⟩ := hu8
  have hP : va_P D vwCl (wA a a2 cA u9.1 u9.2.1 u8.1 u8.2 ob cL u9.2.2) H := hP.sub [0, 1, 2, 3, 4, 5, 6, 7, 8, 9, 10, 11, 12, 13, 15, 16, 17, 18, 19, 20, 21, 22, 23, 24, 25, 26, 27, 14] rfl
  have hD : va_D (fun q : Nat => s.heap.size ≤ q) (wA a a2 cA u9.1 u9.2.1 u8.1 u8.2 ob cL u9.2.2) := hD.sub [0, 1, 2, 3, 4, 5, 6, 7, 8, 9, 10, 11, 12, 13, 15, 16, 17, 18, 19, 20, 21, 22, 23, 24, 25, 26, 27, 14] (by decide) rfl
  have hFF : u8.1 = u9.1 := F_same (fun h => (h09 h).1) hn9 (fun h => (h08 h).2) hn8
  rw [hFF] at hP hD
  obtain ⟨N1, hW1, hH1⟩ : INV u9.1 := inv_of hW hH (fun h => (h09 h).1) hn9 (fun _ => ⟨N, hW, hH⟩)
  refine lv_istore (lv' := [(6, .int r8), (5, .int r9), (0, .ref b), (1, .ref (a 16)), (2, .ref (a2 16)), (3, .ref ob), (4, .int (nI (5 * j)))]) hx hb dL_law_911 hl (by decide) rfl (fun ls hl => ?_)
  refine lv_aload_n hx hb dL_law_913 rfl (lv_at hl 4 rfl) ?_
  refine Rd.callV (rest := []) (q0 := 0) (ci := 1) ⟨hx, hb, hml, hown, hts⟩ (c_X1_thrown l D cA a2 u9.1 u8.2) (cwV 0 hts gL_law_X1_thrown rfl rfl rfl (by decide +kernel) ⟨Nat.le_of_ble_eq_true rfl, Nat.le_of_ble_eq_true rfl⟩) hKA (hP.sub [14, 15, 16, 17, 18, 19, 20, 21, 22, 23, 24, 25, 26] rfl : va_P D vwCl (wM a2 cA u9.1 u8.2) H) rfl rfl rfl rfl rfl hl.1 (Nat.le_of_ble_eq_true rfl) dL_law_914 ⟨(by show 28 + j + 1 ≤ 1055; omega), (by show 1132 + 6 * j + 6 ≤ 9342; omega)⟩ ?_
  refine lv_iload hx hb dL_law_917 (lv_at hl 1 rfl) ?_
  refine lv_icmp_eq (tgt := 924) hx hb dL_law_919 (by decide) (fun c_919 => ?_) (fun c_919 => (c_919 (hk8.trans hk9.symm) : False).elim)
  refine lv_iload hx hb dL_law_924 (lv_at hl 1 rfl) ?_
  refine lv_if_ne (tgt := 941) hx hb dL_law_926 (by decide) (fun c_926 => ?_) (fun c_926 => ?_)
  · skip
    refine lv_goto (tgt := 1396) hx hb dL_law_941 (by decide) ?_
    refine W.widen (k := 28 + (j + 1)) (n := 1132 + 6 * (j + 1)) (by omega) (by omega) ?_
    exact KK N1 _ _ _ _ _ _ ls hW1 hH1 hP hD hS (lv_sub hl [2, 3, 4, 5, 6] rfl)
  · skip
    have h0 : kWW (xs (5 * j + 1)) (xs (5 * j + 2)) = 0 := hk9.symm.trans c_926
    have hfo : u9.2.2 0 = (ps (tPw F N (xs (5 * j + 1)) (xs (5 * j + 2))) N : Int32).toInt64 := (h09 h0).2
    have hr8 : r8 = ps (tPw F N (xs (5 * j + 1)) (xs (5 * j + 2))) N := (h08 h0).1
    refine lv_aload_n hx hb dL_law_929 rfl (lv_at hl 5 rfl) ?_
    refine lv_iconst (v := 0) hx hb dL_law_930 (by decide) ?_
    refine va_lald hx hb hK hP 27 1 rfl rfl (vp_in_nI (n := 0) (N := 1) (by decide) (by decide)) dL_law_931 ?_
    refine lv_iload hx hb dL_law_932 (lv_at hl 0 rfl) ?_
    refine lv_i2l (v := (r8 : Int32).toInt64) hx hb dL_law_934 rfl ?_
    refine W.lcmp hx hb dL_law_935 ?_
    refine lv_if_eq (tgt := 941) hx hb dL_law_936 (by decide) (fun c_936 => ?_) (fun c_936 => (c_936 ((lg_cmp_eq _ _).mpr (by rw [hr8]; exact hfo)) : False).elim)
    refine lv_goto (tgt := 1396) hx hb dL_law_941 (by decide) ?_
    refine W.widen (k := 28 + (j + 1)) (n := 1132 + 6 * (j + 1)) (by omega) (by omega) ?_
    exact KK N1 _ _ _ _ _ _ ls hW1 hH1 hP hD hS (lv_sub hl [2, 3, 4, 5, 6] rfl)
set_option maxHeartbeats 4000000 in
set_option maxRecDepth 100000 in
theorem law_run {p : Program} {l : Launch} (hl9 : l.stackTraces = false) {e : Env} {s : State} {m : MethodId} {below : List Frame} {meth : Method} {c : Code} {Q : State → Prop} {D : va_G} {cA cL : ClassId} {b L : Nat} {xs : Nat → Int32} (hL : L ≤ 2560) (hx : p.tables.exec = Jvm.exec) (hb : c.code = code) (hml : c.maxLocals = 7) (hown : s.vm.findClass RL = some m.cls) (hts : ∀ w ∈ wsL_law, w.before #[Value.ref b] s = true) (hX : va_X b L xs s s.heap) (hbl : b < s.heap.size) (hK : KL D cA cL s) (hZ : ZX s) {a a2 : Nat → Nat} {ob : Nat} (j : Nat) (hj : 5 * j + 5 ≤ L) (KK : ∀ (N1 : Nat) (F1 : Nat → Nat → Int32) (g1 : Nat → Int32) (th1 : Int32) (fo1 : Nat → Int64) (H1 : Heap) (locs1 : List Loc) (ls1 : Array Slot), wf F1 N1 → hol2 F1 N1 → va_P D vwCl (wA a a2 cA F1 g1 F1 th1 ob cL fo1) H1 → va_D (fun q : Nat => s.heap.size ≤ q) (wA a a2 cA F1 g1 F1 th1 ob cL fo1) → va_S (fun q : Nat => s.heap.size ≤ q) s.heap H1 locs1 → lv_has ls1 7 [(0, .ref b), (1, .ref (a 16)), (2, .ref (a2 16)), (3, .ref ob), (4, .int (nI (5 * j)))] → W p l e room_1 s m #[Value.ref b] below meth c H1 locs1 (28 + (j + 1)) (1132 + 6 * (j + 1)) Q (F0 m 1396 ls1 [])) {N : Nat} {F : Nat → Nat → Int32} {g : Nat → Int32} {th : Int32} {fo : Nat → Int64} {H : Heap} {locs : List Loc} {ls : Array Slot} (hW : wf F N) (hH : hol2 F N) (hP : va_P D vwCl (wA a a2 cA F g F th ob cL fo) H) (hD : va_D (fun q : Nat => s.heap.size ≤ q) (wA a a2 cA F g F th ob cL fo)) (hS : va_S (fun q : Nat => s.heap.size ≤ q) s.heap H locs) (hl : lv_has ls 7 [(0, .ref b), (1, .ref (a 16)), (2, .ref (a2 16)), (3, .ref ob), (4, .int (nI (5 * j)))]) : W p l e room_1 s m #[Value.ref b] below meth c H locs (28 + j) (1132 + 6 * j) Q (F0 m 944 ls []) := by
  have hA : ∀ q : Nat, s.heap.size ≤ q → (fun q : Nat => s.heap.size ≤ q) q := fun _ h => h
  have hbA : ¬ (fun q : Nat => s.heap.size ≤ q) b := Nat.not_le.mpr hbl
  have hKA : KA D cA s := hK.sub [0] rfl
  refine lv_aload_n hx hb dL_law_944 rfl (lv_at hl 1 rfl) ?_
  refine lv_aload_n hx hb dL_law_945 rfl (lv_at hl 0 rfl) ?_
  refine lv_iload hx hb dL_law_946 (lv_at hl 4 rfl) ?_
  refine lv_iconst (v := 1) hx hb dL_law_948 (by decide) ?_
  refine lv_iadd hx hb dL_law_949 ?_
  refine ri_sld (jj := 5 * j + 1) hx hb hX hbl hbA hS (nI_add (5 * j) 1) (by omega) hL dL_law_950 ?_
  refine lv_aload_n hx hb dL_law_951 rfl (lv_at hl 3 rfl) ?_
  refine Lw.callS (rest := []) (wr := (wM a2 cA F th)) [0, 1, 2, 3, 4, 5, 6, 7, 8, 9, 10, 11, 12, 13, 27] [14, 15, 16, 17, 18, 19, 20, 21, 22, 23, 24, 25, 26] ⟨hx, hb, hml, hown, hts⟩ (c_L_run l hl9 D cA cL a F g ob fo N hW (xs (5 * j + 1))) (vx_cwSW 3 hts gL_law_L_run rfl rfl rfl (by decide +kernel) ⟨Nat.le_of_ble_eq_true rfl, Nat.le_of_ble_eq_true rfl⟩) hK hP hD hS hA (hZ.later hS) rfl rfl (by decide) (by decide) (by decide) rfl rfl hl.1 (Nat.le_of_ble_eq_true rfl) dL_law_952 ⟨(by show 28 + j + 1 ≤ 1055; omega), (by show 1132 + 6 * j + 6 ≤ 9342; omega)⟩ (fun r9 u9 H locs hu9 hP hD hS => ?_)
  obtain ⟨hk9, h09, hn9⟩ := hu9
  have hP : va_P D vwCl (wA a a2 cA u9.1 u9.2.1 F th ob cL u9.2.2) H := hP.sub [13, 14, 15, 16, 17, 18, 19, 20, 21, 22, 23, 24, 25, 26, 0, 1, 2, 3, 4, 5, 6, 7, 8, 9, 10, 11, 12, 27] rfl
  have hD : va_D (fun q : Nat => s.heap.size ≤ q) (wA a a2 cA u9.1 u9.2.1 F th ob cL u9.2.2) := hD.sub [13, 14, 15, 16, 17, 18, 19, 20, 21, 22, 23, 24, 25, 26, 0, 1, 2, 3, 4, 5, 6, 7, 8, 9, 10, 11, 12, 27] (by decide) rfl
  refine lv_istore (lv' := [(5, .int r9), (0, .ref b), (1, .ref (a 16)), (2, .ref (a2 16)), (3, .ref ob), (4, .int (nI (5 * j)))]) hx hb dL_law_955 hl (by decide) rfl (fun ls hl => ?_)
  refine lv_aload_n hx hb dL_law_957 rfl (lv_at hl 3 rfl) ?_
  refine lv_aload_n hx hb dL_law_958 rfl (lv_at hl 1 rfl) ?_
  refine lv_iload hx hb dL_law_959 (lv_at hl 5 rfl) ?_
  refine lv_iconst (v := 1) hx hb dL_law_961 (by decide) ?_
  refine lv_iadd hx hb dL_law_962 ?_
  refine ri_sld (jj := 5 * j + 1) hx hb hX hbl hbA hS (nI_add (5 * j) 1) (by omega) hL dL_law_963 ?_
  refine Wi.callV (rest := []) (q0 := 14) (ci := 1) (wr := (wX a cA u9.1 u9.2.1 ++ wO ob cL u9.2.2)) [14, 15, 16, 17, 18, 19, 20, 21, 22, 23, 24, 25, 26] [0, 1, 2, 3, 4, 5, 6, 7, 8, 9, 10, 11, 12, 13, 27] ⟨hx, hb, hml, hown, hts⟩ (c_X1_run l D cA a2 F th N hW (xs (5 * j + 1))) (cwV 1 hts gL_law_X1_run rfl rfl rfl (by decide +kernel) ⟨Nat.le_of_ble_eq_true rfl, Nat.le_of_ble_eq_true rfl⟩) hKA hP hD hS hA rfl rfl (by decide) (by decide) (by decide) rfl rfl rfl rfl rfl hl.1 (Nat.le_of_ble_eq_true rfl) dL_law_964 ⟨(by show 28 + j + 1 ≤ 1055; omega), (by show 1132 + 6 * j + 6 ≤ 9342; omega)⟩ (fun r8 u8 H locs hu8 hP hD hS => ?_)
  obtain ⟨hk8, h08, hn8⟩ := hu8
  have hP : va_P D vwCl (wA a a2 cA u9.1 u9.2.1 u8.1 u8.2 ob cL u9.2.2) H := hP.sub [0, 1, 2, 3, 4, 5, 6, 7, 8, 9, 10, 11, 12, 13, 15, 16, 17, 18, 19, 20, 21, 22, 23, 24, 25, 26, 27, 14] rfl
  have hD : va_D (fun q : Nat => s.heap.size ≤ q) (wA a a2 cA u9.1 u9.2.1 u8.1 u8.2 ob cL u9.2.2) := hD.sub [0, 1, 2, 3, 4, 5, 6, 7, 8, 9, 10, 11, 12, 13, 15, 16, 17, 18, 19, 20, 21, 22, 23, 24, 25, 26, 27, 14] (by decide) rfl
  have hFF : u8.1 = u9.1 := F_same (fun h => (h09 h).1) hn9 (fun h => (h08 h).2) hn8
  rw [hFF] at hP hD
  obtain ⟨N1, hW1, hH1⟩ : INV u9.1 := inv_of hW hH (fun h => (h09 h).1) hn9 (fun _ => inv_run hW hH _)
  refine lv_istore (lv' := [(6, .int r8), (5, .int r9), (0, .ref b), (1, .ref (a 16)), (2, .ref (a2 16)), (3, .ref ob), (4, .int (nI (5 * j)))]) hx hb dL_law_967 hl (by decide) rfl (fun ls hl => ?_)
  refine lv_aload_n hx hb dL_law_969 rfl (lv_at hl 4 rfl) ?_
  refine Rd.callV (rest := []) (q0 := 0) (ci := 1) ⟨hx, hb, hml, hown, hts⟩ (c_X1_thrown l D cA a2 u9.1 u8.2) (cwV 0 hts gL_law_X1_thrown rfl rfl rfl (by decide +kernel) ⟨Nat.le_of_ble_eq_true rfl, Nat.le_of_ble_eq_true rfl⟩) hKA (hP.sub [14, 15, 16, 17, 18, 19, 20, 21, 22, 23, 24, 25, 26] rfl : va_P D vwCl (wM a2 cA u9.1 u8.2) H) rfl rfl rfl rfl rfl hl.1 (Nat.le_of_ble_eq_true rfl) dL_law_970 ⟨(by show 28 + j + 1 ≤ 1055; omega), (by show 1132 + 6 * j + 6 ≤ 9342; omega)⟩ ?_
  refine lv_iload hx hb dL_law_973 (lv_at hl 1 rfl) ?_
  refine lv_icmp_eq (tgt := 980) hx hb dL_law_975 (by decide) (fun c_975 => ?_) (fun c_975 => (c_975 (hk8.trans hk9.symm) : False).elim)
  refine lv_iload hx hb dL_law_980 (lv_at hl 1 rfl) ?_
  refine lv_if_ne (tgt := 997) hx hb dL_law_982 (by decide) (fun c_982 => ?_) (fun c_982 => ?_)
  · skip
    refine lv_goto (tgt := 1396) hx hb dL_law_997 (by decide) ?_
    refine W.widen (k := 28 + (j + 1)) (n := 1132 + 6 * (j + 1)) (by omega) (by omega) ?_
    exact KK N1 _ _ _ _ _ _ ls hW1 hH1 hP hD hS (lv_sub hl [2, 3, 4, 5, 6] rfl)
  · skip
    have h0 : kWk (xs (5 * j + 1)) = 0 := hk9.symm.trans c_982
    have hfo : u9.2.2 0 = (sRun F N (xs (5 * j + 1)).toNatClampNeg : Int32).toInt64 := (h09 h0).2
    have hr8 : r8 = sRun F N (xs (5 * j + 1)).toNatClampNeg := (h08 h0).1
    refine lv_aload_n hx hb dL_law_985 rfl (lv_at hl 5 rfl) ?_
    refine lv_iconst (v := 0) hx hb dL_law_986 (by decide) ?_
    refine va_lald hx hb hK hP 27 1 rfl rfl (vp_in_nI (n := 0) (N := 1) (by decide) (by decide)) dL_law_987 ?_
    refine lv_iload hx hb dL_law_988 (lv_at hl 0 rfl) ?_
    refine lv_i2l (v := (r8 : Int32).toInt64) hx hb dL_law_990 rfl ?_
    refine W.lcmp hx hb dL_law_991 ?_
    refine lv_if_eq (tgt := 997) hx hb dL_law_992 (by decide) (fun c_992 => ?_) (fun c_992 => (c_992 ((lg_cmp_eq _ _).mpr (by rw [hr8]; exact hfo)) : False).elim)
    refine lv_goto (tgt := 1396) hx hb dL_law_997 (by decide) ?_
    refine W.widen (k := 28 + (j + 1)) (n := 1132 + 6 * (j + 1)) (by omega) (by omega) ?_
    exact KK N1 _ _ _ _ _ _ ls hW1 hH1 hP hD hS (lv_sub hl [2, 3, 4, 5, 6] rfl)

/-! the law's body, case by case; by program (wip/whole/gen) -/
set_option maxHeartbeats 4000000 in
set_option maxRecDepth 100000 in
theorem law_paid {p : Program} {l : Launch} (hl9 : l.stackTraces = false) {e : Env} {s : State} {m : MethodId} {below : List Frame} {meth : Method} {c : Code} {Q : State → Prop} {D : va_G} {cA cL : ClassId} {b L : Nat} {xs : Nat → Int32} (hL : L ≤ 2560) (hx : p.tables.exec = Jvm.exec) (hb : c.code = code) (hml : c.maxLocals = 7) (hown : s.vm.findClass RL = some m.cls) (hts : ∀ w ∈ wsL_law, w.before #[Value.ref b] s = true) (hX : va_X b L xs s s.heap) (hbl : b < s.heap.size) (hK : KL D cA cL s) (hZ : ZX s) {a a2 : Nat → Nat} {ob : Nat} (j : Nat) (hj : 5 * j + 5 ≤ L) (KK : ∀ (N1 : Nat) (F1 : Nat → Nat → Int32) (g1 : Nat → Int32) (th1 : Int32) (fo1 : Nat → Int64) (H1 : Heap) (locs1 : List Loc) (ls1 : Array Slot), wf F1 N1 → hol2 F1 N1 → va_P D vwCl (wA a a2 cA F1 g1 F1 th1 ob cL fo1) H1 → va_D (fun q : Nat => s.heap.size ≤ q) (wA a a2 cA F1 g1 F1 th1 ob cL fo1) → va_S (fun q : Nat => s.heap.size ≤ q) s.heap H1 locs1 → lv_has ls1 7 [(0, .ref b), (1, .ref (a 16)), (2, .ref (a2 16)), (3, .ref ob), (4, .int (nI (5 * j)))] → W p l e room_1 s m #[Value.ref b] below meth c H1 locs1 (28 + (j + 1)) (1132 + 6 * (j + 1)) Q (F0 m 1396 ls1 [])) {N : Nat} {F : Nat → Nat → Int32} {g : Nat → Int32} {th : Int32} {fo : Nat → Int64} {H : Heap} {locs : List Loc} {ls : Array Slot} (hW : wf F N) (hH : hol2 F N) (hP : va_P D vwCl (wA a a2 cA F g F th ob cL fo) H) (hD : va_D (fun q : Nat => s.heap.size ≤ q) (wA a a2 cA F g F th ob cL fo)) (hS : va_S (fun q : Nat => s.heap.size ≤ q) s.heap H locs) (hl : lv_has ls 7 [(0, .ref b), (1, .ref (a 16)), (2, .ref (a2 16)), (3, .ref ob), (4, .int (nI (5 * j)))]) : W p l e room_1 s m #[Value.ref b] below meth c H locs (28 + j) (1132 + 6 * j) Q (F0 m 1000 ls []) := by
  have hA : ∀ q : Nat, s.heap.size ≤ q → (fun q : Nat => s.heap.size ≤ q) q := fun _ h => h
  have hbA : ¬ (fun q : Nat => s.heap.size ≤ q) b := Nat.not_le.mpr hbl
  have hKA : KA D cA s := hK.sub [0] rfl
  refine lv_aload_n hx hb dL_law_1000 rfl (lv_at hl 1 rfl) ?_
  refine lv_aload_n hx hb dL_law_1001 rfl (lv_at hl 0 rfl) ?_
  refine lv_iload hx hb dL_law_1002 (lv_at hl 4 rfl) ?_
  refine lv_iconst (v := 1) hx hb dL_law_1004 (by decide) ?_
  refine lv_iadd hx hb dL_law_1005 ?_
  refine ri_sld (jj := 5 * j + 1) hx hb hX hbl hbA hS (nI_add (5 * j) 1) (by omega) hL dL_law_1006 ?_
  refine lv_aload_n hx hb dL_law_1007 rfl (lv_at hl 0 rfl) ?_
  refine lv_iload hx hb dL_law_1008 (lv_at hl 4 rfl) ?_
  refine lv_iconst (v := 2) hx hb dL_law_1010 (by decide) ?_
  refine lv_iadd hx hb dL_law_1011 ?_
  refine ri_sld (jj := 5 * j + 2) hx hb hX hbl hbA hS (nI_add (5 * j) 2) (by omega) hL dL_law_1012 ?_
  refine lv_aload_n hx hb dL_law_1013 rfl (lv_at hl 3 rfl) ?_
  refine Lw.callS (rest := []) (wr := (wM a2 cA F th)) [0, 1, 2, 3, 4, 5, 6, 7, 8, 9, 10, 11, 12, 13, 27] [14, 15, 16, 17, 18, 19, 20, 21, 22, 23, 24, 25, 26] ⟨hx, hb, hml, hown, hts⟩ (c_L_paid l hl9 D cA cL a F g ob fo N hW (xs (5 * j + 1)) (xs (5 * j + 2))) (vx_cwSW 4 hts gL_law_L_paid rfl rfl rfl (by decide +kernel) ⟨Nat.le_of_ble_eq_true rfl, Nat.le_of_ble_eq_true rfl⟩) hK hP hD hS hA (hZ.later hS) rfl rfl (by decide) (by decide) (by decide) rfl rfl hl.1 (Nat.le_of_ble_eq_true rfl) dL_law_1014 ⟨(by show 28 + j + 1 ≤ 1055; omega), (by show 1132 + 6 * j + 6 ≤ 9342; omega)⟩ (fun r9 u9 H locs hu9 hP hD hS => ?_)
  obtain ⟨hk9, h09, hn9⟩ := hu9
  have hP : va_P D vwCl (wA a a2 cA u9.1 u9.2.1 F th ob cL u9.2.2) H := hP.sub [13, 14, 15, 16, 17, 18, 19, 20, 21, 22, 23, 24, 25, 26, 0, 1, 2, 3, 4, 5, 6, 7, 8, 9, 10, 11, 12, 27] rfl
  have hD : va_D (fun q : Nat => s.heap.size ≤ q) (wA a a2 cA u9.1 u9.2.1 F th ob cL u9.2.2) := hD.sub [13, 14, 15, 16, 17, 18, 19, 20, 21, 22, 23, 24, 25, 26, 0, 1, 2, 3, 4, 5, 6, 7, 8, 9, 10, 11, 12, 27] (by decide) rfl
  refine lv_istore (lv' := [(5, .int r9), (0, .ref b), (1, .ref (a 16)), (2, .ref (a2 16)), (3, .ref ob), (4, .int (nI (5 * j)))]) hx hb dL_law_1017 hl (by decide) rfl (fun ls hl => ?_)
  refine lv_aload_n hx hb dL_law_1019 rfl (lv_at hl 3 rfl) ?_
  refine lv_aload_n hx hb dL_law_1020 rfl (lv_at hl 1 rfl) ?_
  refine lv_iload hx hb dL_law_1021 (lv_at hl 5 rfl) ?_
  refine lv_iconst (v := 1) hx hb dL_law_1023 (by decide) ?_
  refine lv_iadd hx hb dL_law_1024 ?_
  refine ri_sld (jj := 5 * j + 1) hx hb hX hbl hbA hS (nI_add (5 * j) 1) (by omega) hL dL_law_1025 ?_
  refine lv_aload_n hx hb dL_law_1026 rfl (lv_at hl 1 rfl) ?_
  refine lv_iload hx hb dL_law_1027 (lv_at hl 5 rfl) ?_
  refine lv_iconst (v := 2) hx hb dL_law_1029 (by decide) ?_
  refine lv_iadd hx hb dL_law_1030 ?_
  refine ri_sld (jj := 5 * j + 2) hx hb hX hbl hbA hS (nI_add (5 * j) 2) (by omega) hL dL_law_1031 ?_
  refine Wi.callV (rest := []) (q0 := 14) (ci := 1) (wr := (wX a cA u9.1 u9.2.1 ++ wO ob cL u9.2.2)) [14, 15, 16, 17, 18, 19, 20, 21, 22, 23, 24, 25, 26] [0, 1, 2, 3, 4, 5, 6, 7, 8, 9, 10, 11, 12, 13, 27] ⟨hx, hb, hml, hown, hts⟩ (c_X1_paid l D cA a2 F th N hW (xs (5 * j + 1)) (xs (5 * j + 2))) (cwV 2 hts gL_law_X1_paid rfl rfl rfl (by decide +kernel) ⟨Nat.le_of_ble_eq_true rfl, Nat.le_of_ble_eq_true rfl⟩) hKA hP hD hS hA rfl rfl (by decide) (by decide) (by decide) rfl rfl rfl rfl rfl hl.1 (Nat.le_of_ble_eq_true rfl) dL_law_1032 ⟨(by show 28 + j + 1 ≤ 1055; omega), (by show 1132 + 6 * j + 6 ≤ 9342; omega)⟩ (fun r8 u8 H locs hu8 hP hD hS => ?_)
  obtain ⟨hk8, h08, hn8⟩ := hu8
  have hP : va_P D vwCl (wA a a2 cA u9.1 u9.2.1 u8.1 u8.2 ob cL u9.2.2) H := hP.sub [0, 1, 2, 3, 4, 5, 6, 7, 8, 9, 10, 11, 12, 13, 15, 16, 17, 18, 19, 20, 21, 22, 23, 24, 25, 26, 27, 14] rfl
  have hD : va_D (fun q : Nat => s.heap.size ≤ q) (wA a a2 cA u9.1 u9.2.1 u8.1 u8.2 ob cL u9.2.2) := hD.sub [0, 1, 2, 3, 4, 5, 6, 7, 8, 9, 10, 11, 12, 13, 15, 16, 17, 18, 19, 20, 21, 22, 23, 24, 25, 26, 27, 14] (by decide) rfl
  have hFF : u8.1 = u9.1 := F_same (fun h => (h09 h).1) hn9 (fun h => (h08 h).2) hn8
  rw [hFF] at hP hD
  obtain ⟨N1, hW1, hH1⟩ : INV u9.1 := inv_of hW hH (fun h => (h09 h).1) hn9 (fun _ => ⟨N, hW, hH⟩)
  refine lv_istore (lv' := [(6, .int r8), (5, .int r9), (0, .ref b), (1, .ref (a 16)), (2, .ref (a2 16)), (3, .ref ob), (4, .int (nI (5 * j)))]) hx hb dL_law_1035 hl (by decide) rfl (fun ls hl => ?_)
  refine lv_aload_n hx hb dL_law_1037 rfl (lv_at hl 4 rfl) ?_
  refine Rd.callV (rest := []) (q0 := 0) (ci := 1) ⟨hx, hb, hml, hown, hts⟩ (c_X1_thrown l D cA a2 u9.1 u8.2) (cwV 0 hts gL_law_X1_thrown rfl rfl rfl (by decide +kernel) ⟨Nat.le_of_ble_eq_true rfl, Nat.le_of_ble_eq_true rfl⟩) hKA (hP.sub [14, 15, 16, 17, 18, 19, 20, 21, 22, 23, 24, 25, 26] rfl : va_P D vwCl (wM a2 cA u9.1 u8.2) H) rfl rfl rfl rfl rfl hl.1 (Nat.le_of_ble_eq_true rfl) dL_law_1038 ⟨(by show 28 + j + 1 ≤ 1055; omega), (by show 1132 + 6 * j + 6 ≤ 9342; omega)⟩ ?_
  refine lv_iload hx hb dL_law_1041 (lv_at hl 1 rfl) ?_
  refine lv_icmp_eq (tgt := 1048) hx hb dL_law_1043 (by decide) (fun c_1043 => ?_) (fun c_1043 => (c_1043 (hk8.trans hk9.symm) : False).elim)
  refine lv_iload hx hb dL_law_1048 (lv_at hl 1 rfl) ?_
  refine lv_if_ne (tgt := 1065) hx hb dL_law_1050 (by decide) (fun c_1050 => ?_) (fun c_1050 => ?_)
  · skip
    refine lv_goto (tgt := 1396) hx hb dL_law_1065 (by decide) ?_
    refine W.widen (k := 28 + (j + 1)) (n := 1132 + 6 * (j + 1)) (by omega) (by omega) ?_
    exact KK N1 _ _ _ _ _ _ ls hW1 hH1 hP hD hS (lv_sub hl [2, 3, 4, 5, 6] rfl)
  · skip
    have h0 : kWW (xs (5 * j + 1)) (xs (5 * j + 2)) = 0 := hk9.symm.trans c_1050
    have hfo : u9.2.2 0 = (F 12 ((xs (5 * j + 1)).toNatClampNeg * 20 + (xs (5 * j + 2)).toNatClampNeg) : Int32).toInt64 := (h09 h0).2
    have hr8 : r8 = F 12 ((xs (5 * j + 1)).toNatClampNeg * 20 + (xs (5 * j + 2)).toNatClampNeg) := (h08 h0).1
    refine lv_aload_n hx hb dL_law_1053 rfl (lv_at hl 5 rfl) ?_
    refine lv_iconst (v := 0) hx hb dL_law_1054 (by decide) ?_
    refine va_lald hx hb hK hP 27 1 rfl rfl (vp_in_nI (n := 0) (N := 1) (by decide) (by decide)) dL_law_1055 ?_
    refine lv_iload hx hb dL_law_1056 (lv_at hl 0 rfl) ?_
    refine lv_i2l (v := (r8 : Int32).toInt64) hx hb dL_law_1058 rfl ?_
    refine W.lcmp hx hb dL_law_1059 ?_
    refine lv_if_eq (tgt := 1065) hx hb dL_law_1060 (by decide) (fun c_1060 => ?_) (fun c_1060 => (c_1060 ((lg_cmp_eq _ _).mpr (by rw [hr8]; exact hfo)) : False).elim)
    refine lv_goto (tgt := 1396) hx hb dL_law_1065 (by decide) ?_
    refine W.widen (k := 28 + (j + 1)) (n := 1132 + 6 * (j + 1)) (by omega) (by omega) ?_
    exact KK N1 _ _ _ _ _ _ ls hW1 hH1 hP hD hS (lv_sub hl [2, 3, 4, 5, 6] rfl)
set_option maxHeartbeats 4000000 in
set_option maxRecDepth 100000 in
theorem law_billed {p : Program} {l : Launch} (hl9 : l.stackTraces = false) {e : Env} {s : State} {m : MethodId} {below : List Frame} {meth : Method} {c : Code} {Q : State → Prop} {D : va_G} {cA cL : ClassId} {b L : Nat} {xs : Nat → Int32} (hL : L ≤ 2560) (hx : p.tables.exec = Jvm.exec) (hb : c.code = code) (hml : c.maxLocals = 7) (hown : s.vm.findClass RL = some m.cls) (hts : ∀ w ∈ wsL_law, w.before #[Value.ref b] s = true) (hX : va_X b L xs s s.heap) (hbl : b < s.heap.size) (hK : KL D cA cL s) (hZ : ZX s) {a a2 : Nat → Nat} {ob : Nat} (j : Nat) (hj : 5 * j + 5 ≤ L) (KK : ∀ (N1 : Nat) (F1 : Nat → Nat → Int32) (g1 : Nat → Int32) (th1 : Int32) (fo1 : Nat → Int64) (H1 : Heap) (locs1 : List Loc) (ls1 : Array Slot), wf F1 N1 → hol2 F1 N1 → va_P D vwCl (wA a a2 cA F1 g1 F1 th1 ob cL fo1) H1 → va_D (fun q : Nat => s.heap.size ≤ q) (wA a a2 cA F1 g1 F1 th1 ob cL fo1) → va_S (fun q : Nat => s.heap.size ≤ q) s.heap H1 locs1 → lv_has ls1 7 [(0, .ref b), (1, .ref (a 16)), (2, .ref (a2 16)), (3, .ref ob), (4, .int (nI (5 * j)))] → W p l e room_1 s m #[Value.ref b] below meth c H1 locs1 (28 + (j + 1)) (1132 + 6 * (j + 1)) Q (F0 m 1396 ls1 [])) {N : Nat} {F : Nat → Nat → Int32} {g : Nat → Int32} {th : Int32} {fo : Nat → Int64} {H : Heap} {locs : List Loc} {ls : Array Slot} (hW : wf F N) (hH : hol2 F N) (hP : va_P D vwCl (wA a a2 cA F g F th ob cL fo) H) (hD : va_D (fun q : Nat => s.heap.size ≤ q) (wA a a2 cA F g F th ob cL fo)) (hS : va_S (fun q : Nat => s.heap.size ≤ q) s.heap H locs) (hl : lv_has ls 7 [(0, .ref b), (1, .ref (a 16)), (2, .ref (a2 16)), (3, .ref ob), (4, .int (nI (5 * j)))]) : W p l e room_1 s m #[Value.ref b] below meth c H locs (28 + j) (1132 + 6 * j) Q (F0 m 1068 ls []) := by
  have hA : ∀ q : Nat, s.heap.size ≤ q → (fun q : Nat => s.heap.size ≤ q) q := fun _ h => h
  have hbA : ¬ (fun q : Nat => s.heap.size ≤ q) b := Nat.not_le.mpr hbl
  have hKA : KA D cA s := hK.sub [0] rfl
  refine lv_aload_n hx hb dL_law_1068 rfl (lv_at hl 1 rfl) ?_
  refine lv_aload_n hx hb dL_law_1069 rfl (lv_at hl 0 rfl) ?_
  refine lv_iload hx hb dL_law_1070 (lv_at hl 4 rfl) ?_
  refine lv_iconst (v := 1) hx hb dL_law_1072 (by decide) ?_
  refine lv_iadd hx hb dL_law_1073 ?_
  refine ri_sld (jj := 5 * j + 1) hx hb hX hbl hbA hS (nI_add (5 * j) 1) (by omega) hL dL_law_1074 ?_
  refine lv_aload_n hx hb dL_law_1075 rfl (lv_at hl 0 rfl) ?_
  refine lv_iload hx hb dL_law_1076 (lv_at hl 4 rfl) ?_
  refine lv_iconst (v := 2) hx hb dL_law_1078 (by decide) ?_
  refine lv_iadd hx hb dL_law_1079 ?_
  refine ri_sld (jj := 5 * j + 2) hx hb hX hbl hbA hS (nI_add (5 * j) 2) (by omega) hL dL_law_1080 ?_
  refine lv_aload_n hx hb dL_law_1081 rfl (lv_at hl 3 rfl) ?_
  refine Lw.callS (rest := []) (wr := (wM a2 cA F th)) [0, 1, 2, 3, 4, 5, 6, 7, 8, 9, 10, 11, 12, 13, 27] [14, 15, 16, 17, 18, 19, 20, 21, 22, 23, 24, 25, 26] ⟨hx, hb, hml, hown, hts⟩ (c_L_billed l hl9 D cA cL a F g ob fo N hW (xs (5 * j + 1)) (xs (5 * j + 2))) (vx_cwSW 4 hts gL_law_L_billed rfl rfl rfl (by decide +kernel) ⟨Nat.le_of_ble_eq_true rfl, Nat.le_of_ble_eq_true rfl⟩) hK hP hD hS hA (hZ.later hS) rfl rfl (by decide) (by decide) (by decide) rfl rfl hl.1 (Nat.le_of_ble_eq_true rfl) dL_law_1082 ⟨(by show 28 + j + 1 ≤ 1055; omega), (by show 1132 + 6 * j + 6 ≤ 9342; omega)⟩ (fun r9 u9 H locs hu9 hP hD hS => ?_)
  obtain ⟨hk9, h09, hn9⟩ := hu9
  have hP : va_P D vwCl (wA a a2 cA u9.1 u9.2.1 F th ob cL u9.2.2) H := hP.sub [13, 14, 15, 16, 17, 18, 19, 20, 21, 22, 23, 24, 25, 26, 0, 1, 2, 3, 4, 5, 6, 7, 8, 9, 10, 11, 12, 27] rfl
  have hD : va_D (fun q : Nat => s.heap.size ≤ q) (wA a a2 cA u9.1 u9.2.1 F th ob cL u9.2.2) := hD.sub [13, 14, 15, 16, 17, 18, 19, 20, 21, 22, 23, 24, 25, 26, 0, 1, 2, 3, 4, 5, 6, 7, 8, 9, 10, 11, 12, 27] (by decide) rfl
  refine lv_istore (lv' := [(5, .int r9), (0, .ref b), (1, .ref (a 16)), (2, .ref (a2 16)), (3, .ref ob), (4, .int (nI (5 * j)))]) hx hb dL_law_1085 hl (by decide) rfl (fun ls hl => ?_)
  refine lv_aload_n hx hb dL_law_1087 rfl (lv_at hl 3 rfl) ?_
  refine lv_aload_n hx hb dL_law_1088 rfl (lv_at hl 1 rfl) ?_
  refine lv_iload hx hb dL_law_1089 (lv_at hl 5 rfl) ?_
  refine lv_iconst (v := 1) hx hb dL_law_1091 (by decide) ?_
  refine lv_iadd hx hb dL_law_1092 ?_
  refine ri_sld (jj := 5 * j + 1) hx hb hX hbl hbA hS (nI_add (5 * j) 1) (by omega) hL dL_law_1093 ?_
  refine lv_aload_n hx hb dL_law_1094 rfl (lv_at hl 1 rfl) ?_
  refine lv_iload hx hb dL_law_1095 (lv_at hl 5 rfl) ?_
  refine lv_iconst (v := 2) hx hb dL_law_1097 (by decide) ?_
  refine lv_iadd hx hb dL_law_1098 ?_
  refine ri_sld (jj := 5 * j + 2) hx hb hX hbl hbA hS (nI_add (5 * j) 2) (by omega) hL dL_law_1099 ?_
  refine Wi.callV (rest := []) (q0 := 14) (ci := 1) (wr := (wX a cA u9.1 u9.2.1 ++ wO ob cL u9.2.2)) [14, 15, 16, 17, 18, 19, 20, 21, 22, 23, 24, 25, 26] [0, 1, 2, 3, 4, 5, 6, 7, 8, 9, 10, 11, 12, 13, 27] ⟨hx, hb, hml, hown, hts⟩ (c_X1_billed l D cA a2 F th N hW (xs (5 * j + 1)) (xs (5 * j + 2))) (cwV 2 hts gL_law_X1_billed rfl rfl rfl (by decide +kernel) ⟨Nat.le_of_ble_eq_true rfl, Nat.le_of_ble_eq_true rfl⟩) hKA hP hD hS hA rfl rfl (by decide) (by decide) (by decide) rfl rfl rfl rfl rfl hl.1 (Nat.le_of_ble_eq_true rfl) dL_law_1100 ⟨(by show 28 + j + 1 ≤ 1055; omega), (by show 1132 + 6 * j + 6 ≤ 9342; omega)⟩ (fun r8 u8 H locs hu8 hP hD hS => ?_)
  obtain ⟨hk8, h08, hn8⟩ := hu8
  have hP : va_P D vwCl (wA a a2 cA u9.1 u9.2.1 u8.1 u8.2 ob cL u9.2.2) H := hP.sub [0, 1, 2, 3, 4, 5, 6, 7, 8, 9, 10, 11, 12, 13, 15, 16, 17, 18, 19, 20, 21, 22, 23, 24, 25, 26, 27, 14] rfl
  have hD : va_D (fun q : Nat => s.heap.size ≤ q) (wA a a2 cA u9.1 u9.2.1 u8.1 u8.2 ob cL u9.2.2) := hD.sub [0, 1, 2, 3, 4, 5, 6, 7, 8, 9, 10, 11, 12, 13, 15, 16, 17, 18, 19, 20, 21, 22, 23, 24, 25, 26, 27, 14] (by decide) rfl
  have hFF : u8.1 = u9.1 := F_same (fun h => (h09 h).1) hn9 (fun h => (h08 h).2) hn8
  rw [hFF] at hP hD
  obtain ⟨N1, hW1, hH1⟩ : INV u9.1 := inv_of hW hH (fun h => (h09 h).1) hn9 (fun _ => ⟨N, hW, hH⟩)
  refine lv_istore (lv' := [(6, .int r8), (5, .int r9), (0, .ref b), (1, .ref (a 16)), (2, .ref (a2 16)), (3, .ref ob), (4, .int (nI (5 * j)))]) hx hb dL_law_1103 hl (by decide) rfl (fun ls hl => ?_)
  refine lv_aload_n hx hb dL_law_1105 rfl (lv_at hl 4 rfl) ?_
  refine Rd.callV (rest := []) (q0 := 0) (ci := 1) ⟨hx, hb, hml, hown, hts⟩ (c_X1_thrown l D cA a2 u9.1 u8.2) (cwV 0 hts gL_law_X1_thrown rfl rfl rfl (by decide +kernel) ⟨Nat.le_of_ble_eq_true rfl, Nat.le_of_ble_eq_true rfl⟩) hKA (hP.sub [14, 15, 16, 17, 18, 19, 20, 21, 22, 23, 24, 25, 26] rfl : va_P D vwCl (wM a2 cA u9.1 u8.2) H) rfl rfl rfl rfl rfl hl.1 (Nat.le_of_ble_eq_true rfl) dL_law_1106 ⟨(by show 28 + j + 1 ≤ 1055; omega), (by show 1132 + 6 * j + 6 ≤ 9342; omega)⟩ ?_
  refine lv_iload hx hb dL_law_1109 (lv_at hl 1 rfl) ?_
  refine lv_icmp_eq (tgt := 1116) hx hb dL_law_1111 (by decide) (fun c_1111 => ?_) (fun c_1111 => (c_1111 (hk8.trans hk9.symm) : False).elim)
  refine lv_iload hx hb dL_law_1116 (lv_at hl 1 rfl) ?_
  refine lv_if_ne (tgt := 1133) hx hb dL_law_1118 (by decide) (fun c_1118 => ?_) (fun c_1118 => ?_)
  · skip
    refine lv_goto (tgt := 1396) hx hb dL_law_1133 (by decide) ?_
    refine W.widen (k := 28 + (j + 1)) (n := 1132 + 6 * (j + 1)) (by omega) (by omega) ?_
    exact KK N1 _ _ _ _ _ _ ls hW1 hH1 hP hD hS (lv_sub hl [2, 3, 4, 5, 6] rfl)
  · skip
    have h0 : kSW (xs (5 * j + 1)) (xs (5 * j + 2)) = 0 := hk9.symm.trans c_1118
    have hfo : u9.2.2 0 = (F 13 ((xs (5 * j + 1)).toNatClampNeg * 20 + (xs (5 * j + 2)).toNatClampNeg) : Int32).toInt64 := (h09 h0).2
    have hr8 : r8 = F 13 ((xs (5 * j + 1)).toNatClampNeg * 20 + (xs (5 * j + 2)).toNatClampNeg) := (h08 h0).1
    refine lv_aload_n hx hb dL_law_1121 rfl (lv_at hl 5 rfl) ?_
    refine lv_iconst (v := 0) hx hb dL_law_1122 (by decide) ?_
    refine va_lald hx hb hK hP 27 1 rfl rfl (vp_in_nI (n := 0) (N := 1) (by decide) (by decide)) dL_law_1123 ?_
    refine lv_iload hx hb dL_law_1124 (lv_at hl 0 rfl) ?_
    refine lv_i2l (v := (r8 : Int32).toInt64) hx hb dL_law_1126 rfl ?_
    refine W.lcmp hx hb dL_law_1127 ?_
    refine lv_if_eq (tgt := 1133) hx hb dL_law_1128 (by decide) (fun c_1128 => ?_) (fun c_1128 => (c_1128 ((lg_cmp_eq _ _).mpr (by rw [hr8]; exact hfo)) : False).elim)
    refine lv_goto (tgt := 1396) hx hb dL_law_1133 (by decide) ?_
    refine W.widen (k := 28 + (j + 1)) (n := 1132 + 6 * (j + 1)) (by omega) (by omega) ?_
    exact KK N1 _ _ _ _ _ _ ls hW1 hH1 hP hD hS (lv_sub hl [2, 3, 4, 5, 6] rfl)
set_option maxHeartbeats 4000000 in
set_option maxRecDepth 100000 in
theorem law_owing {p : Program} {l : Launch} (hl9 : l.stackTraces = false) {e : Env} {s : State} {m : MethodId} {below : List Frame} {meth : Method} {c : Code} {Q : State → Prop} {D : va_G} {cA cL : ClassId} {b L : Nat} {xs : Nat → Int32} (hL : L ≤ 2560) (hx : p.tables.exec = Jvm.exec) (hb : c.code = code) (hml : c.maxLocals = 7) (hown : s.vm.findClass RL = some m.cls) (hts : ∀ w ∈ wsL_law, w.before #[Value.ref b] s = true) (hX : va_X b L xs s s.heap) (hbl : b < s.heap.size) (hK : KL D cA cL s) (hZ : ZX s) {a a2 : Nat → Nat} {ob : Nat} (j : Nat) (hj : 5 * j + 5 ≤ L) (KK : ∀ (N1 : Nat) (F1 : Nat → Nat → Int32) (g1 : Nat → Int32) (th1 : Int32) (fo1 : Nat → Int64) (H1 : Heap) (locs1 : List Loc) (ls1 : Array Slot), wf F1 N1 → hol2 F1 N1 → va_P D vwCl (wA a a2 cA F1 g1 F1 th1 ob cL fo1) H1 → va_D (fun q : Nat => s.heap.size ≤ q) (wA a a2 cA F1 g1 F1 th1 ob cL fo1) → va_S (fun q : Nat => s.heap.size ≤ q) s.heap H1 locs1 → lv_has ls1 7 [(0, .ref b), (1, .ref (a 16)), (2, .ref (a2 16)), (3, .ref ob), (4, .int (nI (5 * j)))] → W p l e room_1 s m #[Value.ref b] below meth c H1 locs1 (28 + (j + 1)) (1132 + 6 * (j + 1)) Q (F0 m 1396 ls1 [])) {N : Nat} {F : Nat → Nat → Int32} {g : Nat → Int32} {th : Int32} {fo : Nat → Int64} {H : Heap} {locs : List Loc} {ls : Array Slot} (hW : wf F N) (hH : hol2 F N) (hP : va_P D vwCl (wA a a2 cA F g F th ob cL fo) H) (hD : va_D (fun q : Nat => s.heap.size ≤ q) (wA a a2 cA F g F th ob cL fo)) (hS : va_S (fun q : Nat => s.heap.size ≤ q) s.heap H locs) (hl : lv_has ls 7 [(0, .ref b), (1, .ref (a 16)), (2, .ref (a2 16)), (3, .ref ob), (4, .int (nI (5 * j)))]) : W p l e room_1 s m #[Value.ref b] below meth c H locs (28 + j) (1132 + 6 * j) Q (F0 m 1136 ls []) := by
  have hA : ∀ q : Nat, s.heap.size ≤ q → (fun q : Nat => s.heap.size ≤ q) q := fun _ h => h
  have hbA : ¬ (fun q : Nat => s.heap.size ≤ q) b := Nat.not_le.mpr hbl
  have hKA : KA D cA s := hK.sub [0] rfl
  refine lv_aload_n hx hb dL_law_1136 rfl (lv_at hl 1 rfl) ?_
  refine lv_aload_n hx hb dL_law_1137 rfl (lv_at hl 0 rfl) ?_
  refine lv_iload hx hb dL_law_1138 (lv_at hl 4 rfl) ?_
  refine lv_iconst (v := 1) hx hb dL_law_1140 (by decide) ?_
  refine lv_iadd hx hb dL_law_1141 ?_
  refine ri_sld (jj := 5 * j + 1) hx hb hX hbl hbA hS (nI_add (5 * j) 1) (by omega) hL dL_law_1142 ?_
  refine lv_aload_n hx hb dL_law_1143 rfl (lv_at hl 0 rfl) ?_
  refine lv_iload hx hb dL_law_1144 (lv_at hl 4 rfl) ?_
  refine lv_iconst (v := 2) hx hb dL_law_1146 (by decide) ?_
  refine lv_iadd hx hb dL_law_1147 ?_
  refine ri_sld (jj := 5 * j + 2) hx hb hX hbl hbA hS (nI_add (5 * j) 2) (by omega) hL dL_law_1148 ?_
  refine lv_aload_n hx hb dL_law_1149 rfl (lv_at hl 3 rfl) ?_
  refine Lw.callS (rest := []) (wr := (wM a2 cA F th)) [0, 1, 2, 3, 4, 5, 6, 7, 8, 9, 10, 11, 12, 13, 27] [14, 15, 16, 17, 18, 19, 20, 21, 22, 23, 24, 25, 26] ⟨hx, hb, hml, hown, hts⟩ (c_L_owing l hl9 D cA cL a F g ob fo N hW (xs (5 * j + 1)) (xs (5 * j + 2))) (vx_cwSW 4 hts gL_law_L_owing rfl rfl rfl (by decide +kernel) ⟨Nat.le_of_ble_eq_true rfl, Nat.le_of_ble_eq_true rfl⟩) hK hP hD hS hA (hZ.later hS) rfl rfl (by decide) (by decide) (by decide) rfl rfl hl.1 (Nat.le_of_ble_eq_true rfl) dL_law_1150 ⟨(by show 28 + j + 1 ≤ 1055; omega), (by show 1132 + 6 * j + 6 ≤ 9342; omega)⟩ (fun r9 u9 H locs hu9 hP hD hS => ?_)
  obtain ⟨hk9, h09, hn9⟩ := hu9
  have hP : va_P D vwCl (wA a a2 cA u9.1 u9.2.1 F th ob cL u9.2.2) H := hP.sub [13, 14, 15, 16, 17, 18, 19, 20, 21, 22, 23, 24, 25, 26, 0, 1, 2, 3, 4, 5, 6, 7, 8, 9, 10, 11, 12, 27] rfl
  have hD : va_D (fun q : Nat => s.heap.size ≤ q) (wA a a2 cA u9.1 u9.2.1 F th ob cL u9.2.2) := hD.sub [13, 14, 15, 16, 17, 18, 19, 20, 21, 22, 23, 24, 25, 26, 0, 1, 2, 3, 4, 5, 6, 7, 8, 9, 10, 11, 12, 27] (by decide) rfl
  refine lv_istore (lv' := [(5, .int r9), (0, .ref b), (1, .ref (a 16)), (2, .ref (a2 16)), (3, .ref ob), (4, .int (nI (5 * j)))]) hx hb dL_law_1153 hl (by decide) rfl (fun ls hl => ?_)
  refine lv_aload_n hx hb dL_law_1155 rfl (lv_at hl 3 rfl) ?_
  refine lv_aload_n hx hb dL_law_1156 rfl (lv_at hl 1 rfl) ?_
  refine lv_iload hx hb dL_law_1157 (lv_at hl 5 rfl) ?_
  refine lv_iconst (v := 1) hx hb dL_law_1159 (by decide) ?_
  refine lv_iadd hx hb dL_law_1160 ?_
  refine ri_sld (jj := 5 * j + 1) hx hb hX hbl hbA hS (nI_add (5 * j) 1) (by omega) hL dL_law_1161 ?_
  refine lv_aload_n hx hb dL_law_1162 rfl (lv_at hl 1 rfl) ?_
  refine lv_iload hx hb dL_law_1163 (lv_at hl 5 rfl) ?_
  refine lv_iconst (v := 2) hx hb dL_law_1165 (by decide) ?_
  refine lv_iadd hx hb dL_law_1166 ?_
  refine ri_sld (jj := 5 * j + 2) hx hb hX hbl hbA hS (nI_add (5 * j) 2) (by omega) hL dL_law_1167 ?_
  refine Wi.callV (rest := []) (q0 := 14) (ci := 1) (wr := (wX a cA u9.1 u9.2.1 ++ wO ob cL u9.2.2)) [14, 15, 16, 17, 18, 19, 20, 21, 22, 23, 24, 25, 26] [0, 1, 2, 3, 4, 5, 6, 7, 8, 9, 10, 11, 12, 13, 27] ⟨hx, hb, hml, hown, hts⟩ (c_X1_owing l D cA a2 F th N hW (xs (5 * j + 1)) (xs (5 * j + 2))) (cwV 2 hts gL_law_X1_owing rfl rfl rfl (by decide +kernel) ⟨Nat.le_of_ble_eq_true rfl, Nat.le_of_ble_eq_true rfl⟩) hKA hP hD hS hA rfl rfl (by decide) (by decide) (by decide) rfl rfl rfl rfl rfl hl.1 (Nat.le_of_ble_eq_true rfl) dL_law_1168 ⟨(by show 28 + j + 1 ≤ 1055; omega), (by show 1132 + 6 * j + 6 ≤ 9342; omega)⟩ (fun r8 u8 H locs hu8 hP hD hS => ?_)
  obtain ⟨hk8, h08, hn8⟩ := hu8
  have hP : va_P D vwCl (wA a a2 cA u9.1 u9.2.1 u8.1 u8.2 ob cL u9.2.2) H := hP.sub [0, 1, 2, 3, 4, 5, 6, 7, 8, 9, 10, 11, 12, 13, 15, 16, 17, 18, 19, 20, 21, 22, 23, 24, 25, 26, 27, 14] rfl
  have hD : va_D (fun q : Nat => s.heap.size ≤ q) (wA a a2 cA u9.1 u9.2.1 u8.1 u8.2 ob cL u9.2.2) := hD.sub [0, 1, 2, 3, 4, 5, 6, 7, 8, 9, 10, 11, 12, 13, 15, 16, 17, 18, 19, 20, 21, 22, 23, 24, 25, 26, 27, 14] (by decide) rfl
  have hFF : u8.1 = u9.1 := F_same (fun h => (h09 h).1) hn9 (fun h => (h08 h).2) hn8
  rw [hFF] at hP hD
  obtain ⟨N1, hW1, hH1⟩ : INV u9.1 := inv_of hW hH (fun h => (h09 h).1) hn9 (fun _ => ⟨N, hW, hH⟩)
  refine lv_istore (lv' := [(6, .int r8), (5, .int r9), (0, .ref b), (1, .ref (a 16)), (2, .ref (a2 16)), (3, .ref ob), (4, .int (nI (5 * j)))]) hx hb dL_law_1171 hl (by decide) rfl (fun ls hl => ?_)
  refine lv_aload_n hx hb dL_law_1173 rfl (lv_at hl 4 rfl) ?_
  refine Rd.callV (rest := []) (q0 := 0) (ci := 1) ⟨hx, hb, hml, hown, hts⟩ (c_X1_thrown l D cA a2 u9.1 u8.2) (cwV 0 hts gL_law_X1_thrown rfl rfl rfl (by decide +kernel) ⟨Nat.le_of_ble_eq_true rfl, Nat.le_of_ble_eq_true rfl⟩) hKA (hP.sub [14, 15, 16, 17, 18, 19, 20, 21, 22, 23, 24, 25, 26] rfl : va_P D vwCl (wM a2 cA u9.1 u8.2) H) rfl rfl rfl rfl rfl hl.1 (Nat.le_of_ble_eq_true rfl) dL_law_1174 ⟨(by show 28 + j + 1 ≤ 1055; omega), (by show 1132 + 6 * j + 6 ≤ 9342; omega)⟩ ?_
  refine lv_iload hx hb dL_law_1177 (lv_at hl 1 rfl) ?_
  refine lv_icmp_eq (tgt := 1184) hx hb dL_law_1179 (by decide) (fun c_1179 => ?_) (fun c_1179 => (c_1179 (hk8.trans hk9.symm) : False).elim)
  refine lv_iload hx hb dL_law_1184 (lv_at hl 1 rfl) ?_
  refine lv_if_ne (tgt := 1201) hx hb dL_law_1186 (by decide) (fun c_1186 => ?_) (fun c_1186 => ?_)
  · skip
    refine lv_goto (tgt := 1396) hx hb dL_law_1201 (by decide) ?_
    refine W.widen (k := 28 + (j + 1)) (n := 1132 + 6 * (j + 1)) (by omega) (by omega) ?_
    exact KK N1 _ _ _ _ _ _ ls hW1 hH1 hP hD hS (lv_sub hl [2, 3, 4, 5, 6] rfl)
  · skip
    have h0 : kWW (xs (5 * j + 1)) (xs (5 * j + 2)) = 0 := hk9.symm.trans c_1186
    have hfo : u9.2.2 0 = (ps (tPw F N (xs (5 * j + 1)) (xs (5 * j + 2))) N - F 12 ((xs (5 * j + 1)).toNatClampNeg * 20 + (xs (5 * j + 2)).toNatClampNeg) : Int32).toInt64 := (h09 h0).2
    have hr8 : r8 = ps (tPw F N (xs (5 * j + 1)) (xs (5 * j + 2))) N - F 12 ((xs (5 * j + 1)).toNatClampNeg * 20 + (xs (5 * j + 2)).toNatClampNeg) := (h08 h0).1
    refine lv_aload_n hx hb dL_law_1189 rfl (lv_at hl 5 rfl) ?_
    refine lv_iconst (v := 0) hx hb dL_law_1190 (by decide) ?_
    refine va_lald hx hb hK hP 27 1 rfl rfl (vp_in_nI (n := 0) (N := 1) (by decide) (by decide)) dL_law_1191 ?_
    refine lv_iload hx hb dL_law_1192 (lv_at hl 0 rfl) ?_
    refine lv_i2l (v := (r8 : Int32).toInt64) hx hb dL_law_1194 rfl ?_
    refine W.lcmp hx hb dL_law_1195 ?_
    refine lv_if_eq (tgt := 1201) hx hb dL_law_1196 (by decide) (fun c_1196 => ?_) (fun c_1196 => (c_1196 ((lg_cmp_eq _ _).mpr (by rw [hr8]; exact hfo)) : False).elim)
    refine lv_goto (tgt := 1396) hx hb dL_law_1201 (by decide) ?_
    refine W.widen (k := 28 + (j + 1)) (n := 1132 + 6 * (j + 1)) (by omega) (by omega) ?_
    exact KK N1 _ _ _ _ _ _ ls hW1 hH1 hP hD hS (lv_sub hl [2, 3, 4, 5, 6] rfl)
set_option maxHeartbeats 4000000 in
set_option maxRecDepth 100000 in
theorem law_toBill {p : Program} {l : Launch} (hl9 : l.stackTraces = false) {e : Env} {s : State} {m : MethodId} {below : List Frame} {meth : Method} {c : Code} {Q : State → Prop} {D : va_G} {cA cL : ClassId} {b L : Nat} {xs : Nat → Int32} (hL : L ≤ 2560) (hx : p.tables.exec = Jvm.exec) (hb : c.code = code) (hml : c.maxLocals = 7) (hown : s.vm.findClass RL = some m.cls) (hts : ∀ w ∈ wsL_law, w.before #[Value.ref b] s = true) (hX : va_X b L xs s s.heap) (hbl : b < s.heap.size) (hK : KL D cA cL s) (hZ : ZX s) {a a2 : Nat → Nat} {ob : Nat} (j : Nat) (hj : 5 * j + 5 ≤ L) (KK : ∀ (N1 : Nat) (F1 : Nat → Nat → Int32) (g1 : Nat → Int32) (th1 : Int32) (fo1 : Nat → Int64) (H1 : Heap) (locs1 : List Loc) (ls1 : Array Slot), wf F1 N1 → hol2 F1 N1 → va_P D vwCl (wA a a2 cA F1 g1 F1 th1 ob cL fo1) H1 → va_D (fun q : Nat => s.heap.size ≤ q) (wA a a2 cA F1 g1 F1 th1 ob cL fo1) → va_S (fun q : Nat => s.heap.size ≤ q) s.heap H1 locs1 → lv_has ls1 7 [(0, .ref b), (1, .ref (a 16)), (2, .ref (a2 16)), (3, .ref ob), (4, .int (nI (5 * j)))] → W p l e room_1 s m #[Value.ref b] below meth c H1 locs1 (28 + (j + 1)) (1132 + 6 * (j + 1)) Q (F0 m 1396 ls1 [])) {N : Nat} {F : Nat → Nat → Int32} {g : Nat → Int32} {th : Int32} {fo : Nat → Int64} {H : Heap} {locs : List Loc} {ls : Array Slot} (hW : wf F N) (hH : hol2 F N) (hP : va_P D vwCl (wA a a2 cA F g F th ob cL fo) H) (hD : va_D (fun q : Nat => s.heap.size ≤ q) (wA a a2 cA F g F th ob cL fo)) (hS : va_S (fun q : Nat => s.heap.size ≤ q) s.heap H locs) (hl : lv_has ls 7 [(0, .ref b), (1, .ref (a 16)), (2, .ref (a2 16)), (3, .ref ob), (4, .int (nI (5 * j)))]) : W p l e room_1 s m #[Value.ref b] below meth c H locs (28 + j) (1132 + 6 * j) Q (F0 m 1204 ls []) := by
  have hA : ∀ q : Nat, s.heap.size ≤ q → (fun q : Nat => s.heap.size ≤ q) q := fun _ h => h
  have hbA : ¬ (fun q : Nat => s.heap.size ≤ q) b := Nat.not_le.mpr hbl
  have hKA : KA D cA s := hK.sub [0] rfl
  refine lv_aload_n hx hb dL_law_1204 rfl (lv_at hl 1 rfl) ?_
  refine lv_aload_n hx hb dL_law_1205 rfl (lv_at hl 0 rfl) ?_
  refine lv_iload hx hb dL_law_1206 (lv_at hl 4 rfl) ?_
  refine lv_iconst (v := 1) hx hb dL_law_1208 (by decide) ?_
  refine lv_iadd hx hb dL_law_1209 ?_
  refine ri_sld (jj := 5 * j + 1) hx hb hX hbl hbA hS (nI_add (5 * j) 1) (by omega) hL dL_law_1210 ?_
  refine lv_aload_n hx hb dL_law_1211 rfl (lv_at hl 0 rfl) ?_
  refine lv_iload hx hb dL_law_1212 (lv_at hl 4 rfl) ?_
  refine lv_iconst (v := 2) hx hb dL_law_1214 (by decide) ?_
  refine lv_iadd hx hb dL_law_1215 ?_
  refine ri_sld (jj := 5 * j + 2) hx hb hX hbl hbA hS (nI_add (5 * j) 2) (by omega) hL dL_law_1216 ?_
  refine lv_aload_n hx hb dL_law_1217 rfl (lv_at hl 3 rfl) ?_
  refine Lw.callS (rest := []) (wr := (wM a2 cA F th)) [0, 1, 2, 3, 4, 5, 6, 7, 8, 9, 10, 11, 12, 13, 27] [14, 15, 16, 17, 18, 19, 20, 21, 22, 23, 24, 25, 26] ⟨hx, hb, hml, hown, hts⟩ (c_L_toBill l hl9 D cA cL a F g ob fo N hW (xs (5 * j + 1)) (xs (5 * j + 2))) (vx_cwSW 4 hts gL_law_L_toBill rfl rfl rfl (by decide +kernel) ⟨Nat.le_of_ble_eq_true rfl, Nat.le_of_ble_eq_true rfl⟩) hK hP hD hS hA (hZ.later hS) rfl rfl (by decide) (by decide) (by decide) rfl rfl hl.1 (Nat.le_of_ble_eq_true rfl) dL_law_1218 ⟨(by show 28 + j + 1 ≤ 1055; omega), (by show 1132 + 6 * j + 6 ≤ 9342; omega)⟩ (fun r9 u9 H locs hu9 hP hD hS => ?_)
  obtain ⟨hk9, h09, hn9⟩ := hu9
  have hP : va_P D vwCl (wA a a2 cA u9.1 u9.2.1 F th ob cL u9.2.2) H := hP.sub [13, 14, 15, 16, 17, 18, 19, 20, 21, 22, 23, 24, 25, 26, 0, 1, 2, 3, 4, 5, 6, 7, 8, 9, 10, 11, 12, 27] rfl
  have hD : va_D (fun q : Nat => s.heap.size ≤ q) (wA a a2 cA u9.1 u9.2.1 F th ob cL u9.2.2) := hD.sub [13, 14, 15, 16, 17, 18, 19, 20, 21, 22, 23, 24, 25, 26, 0, 1, 2, 3, 4, 5, 6, 7, 8, 9, 10, 11, 12, 27] (by decide) rfl
  refine lv_istore (lv' := [(5, .int r9), (0, .ref b), (1, .ref (a 16)), (2, .ref (a2 16)), (3, .ref ob), (4, .int (nI (5 * j)))]) hx hb dL_law_1221 hl (by decide) rfl (fun ls hl => ?_)
  refine lv_aload_n hx hb dL_law_1223 rfl (lv_at hl 3 rfl) ?_
  refine lv_aload_n hx hb dL_law_1224 rfl (lv_at hl 1 rfl) ?_
  refine lv_iload hx hb dL_law_1225 (lv_at hl 5 rfl) ?_
  refine lv_iconst (v := 1) hx hb dL_law_1227 (by decide) ?_
  refine lv_iadd hx hb dL_law_1228 ?_
  refine ri_sld (jj := 5 * j + 1) hx hb hX hbl hbA hS (nI_add (5 * j) 1) (by omega) hL dL_law_1229 ?_
  refine lv_aload_n hx hb dL_law_1230 rfl (lv_at hl 1 rfl) ?_
  refine lv_iload hx hb dL_law_1231 (lv_at hl 5 rfl) ?_
  refine lv_iconst (v := 2) hx hb dL_law_1233 (by decide) ?_
  refine lv_iadd hx hb dL_law_1234 ?_
  refine ri_sld (jj := 5 * j + 2) hx hb hX hbl hbA hS (nI_add (5 * j) 2) (by omega) hL dL_law_1235 ?_
  refine Wi.callV (rest := []) (q0 := 14) (ci := 1) (wr := (wX a cA u9.1 u9.2.1 ++ wO ob cL u9.2.2)) [14, 15, 16, 17, 18, 19, 20, 21, 22, 23, 24, 25, 26] [0, 1, 2, 3, 4, 5, 6, 7, 8, 9, 10, 11, 12, 13, 27] ⟨hx, hb, hml, hown, hts⟩ (c_X1_toBill l D cA a2 F th N hW (xs (5 * j + 1)) (xs (5 * j + 2))) (cwV 2 hts gL_law_X1_toBill rfl rfl rfl (by decide +kernel) ⟨Nat.le_of_ble_eq_true rfl, Nat.le_of_ble_eq_true rfl⟩) hKA hP hD hS hA rfl rfl (by decide) (by decide) (by decide) rfl rfl rfl rfl rfl hl.1 (Nat.le_of_ble_eq_true rfl) dL_law_1236 ⟨(by show 28 + j + 1 ≤ 1055; omega), (by show 1132 + 6 * j + 6 ≤ 9342; omega)⟩ (fun r8 u8 H locs hu8 hP hD hS => ?_)
  obtain ⟨hk8, h08, hn8⟩ := hu8
  have hP : va_P D vwCl (wA a a2 cA u9.1 u9.2.1 u8.1 u8.2 ob cL u9.2.2) H := hP.sub [0, 1, 2, 3, 4, 5, 6, 7, 8, 9, 10, 11, 12, 13, 15, 16, 17, 18, 19, 20, 21, 22, 23, 24, 25, 26, 27, 14] rfl
  have hD : va_D (fun q : Nat => s.heap.size ≤ q) (wA a a2 cA u9.1 u9.2.1 u8.1 u8.2 ob cL u9.2.2) := hD.sub [0, 1, 2, 3, 4, 5, 6, 7, 8, 9, 10, 11, 12, 13, 15, 16, 17, 18, 19, 20, 21, 22, 23, 24, 25, 26, 27, 14] (by decide) rfl
  have hFF : u8.1 = u9.1 := F_same (fun h => (h09 h).1) hn9 (fun h => (h08 h).2) hn8
  rw [hFF] at hP hD
  obtain ⟨N1, hW1, hH1⟩ : INV u9.1 := inv_of hW hH (fun h => (h09 h).1) hn9 (fun _ => ⟨N, hW, hH⟩)
  refine lv_istore (lv' := [(6, .int r8), (5, .int r9), (0, .ref b), (1, .ref (a 16)), (2, .ref (a2 16)), (3, .ref ob), (4, .int (nI (5 * j)))]) hx hb dL_law_1239 hl (by decide) rfl (fun ls hl => ?_)
  refine lv_aload_n hx hb dL_law_1241 rfl (lv_at hl 4 rfl) ?_
  refine Rd.callV (rest := []) (q0 := 0) (ci := 1) ⟨hx, hb, hml, hown, hts⟩ (c_X1_thrown l D cA a2 u9.1 u8.2) (cwV 0 hts gL_law_X1_thrown rfl rfl rfl (by decide +kernel) ⟨Nat.le_of_ble_eq_true rfl, Nat.le_of_ble_eq_true rfl⟩) hKA (hP.sub [14, 15, 16, 17, 18, 19, 20, 21, 22, 23, 24, 25, 26] rfl : va_P D vwCl (wM a2 cA u9.1 u8.2) H) rfl rfl rfl rfl rfl hl.1 (Nat.le_of_ble_eq_true rfl) dL_law_1242 ⟨(by show 28 + j + 1 ≤ 1055; omega), (by show 1132 + 6 * j + 6 ≤ 9342; omega)⟩ ?_
  refine lv_iload hx hb dL_law_1245 (lv_at hl 1 rfl) ?_
  refine lv_icmp_eq (tgt := 1252) hx hb dL_law_1247 (by decide) (fun c_1247 => ?_) (fun c_1247 => (c_1247 (hk8.trans hk9.symm) : False).elim)
  refine lv_iload hx hb dL_law_1252 (lv_at hl 1 rfl) ?_
  refine lv_if_ne (tgt := 1269) hx hb dL_law_1254 (by decide) (fun c_1254 => ?_) (fun c_1254 => ?_)
  · skip
    refine lv_goto (tgt := 1396) hx hb dL_law_1269 (by decide) ?_
    refine W.widen (k := 28 + (j + 1)) (n := 1132 + 6 * (j + 1)) (by omega) (by omega) ?_
    exact KK N1 _ _ _ _ _ _ ls hW1 hH1 hP hD hS (lv_sub hl [2, 3, 4, 5, 6] rfl)
  · skip
    have h0 : kSW (xs (5 * j + 1)) (xs (5 * j + 2)) = 0 := hk9.symm.trans c_1254
    have hfo : u9.2.2 0 = (ps (tCt F N (xs (5 * j + 1)) (xs (5 * j + 2))) N - F 13 ((xs (5 * j + 1)).toNatClampNeg * 20 + (xs (5 * j + 2)).toNatClampNeg) : Int32).toInt64 := (h09 h0).2
    have hr8 : r8 = ps (tCt F N (xs (5 * j + 1)) (xs (5 * j + 2))) N - F 13 ((xs (5 * j + 1)).toNatClampNeg * 20 + (xs (5 * j + 2)).toNatClampNeg) := (h08 h0).1
    refine lv_aload_n hx hb dL_law_1257 rfl (lv_at hl 5 rfl) ?_
    refine lv_iconst (v := 0) hx hb dL_law_1258 (by decide) ?_
    refine va_lald hx hb hK hP 27 1 rfl rfl (vp_in_nI (n := 0) (N := 1) (by decide) (by decide)) dL_law_1259 ?_
    refine lv_iload hx hb dL_law_1260 (lv_at hl 0 rfl) ?_
    refine lv_i2l (v := (r8 : Int32).toInt64) hx hb dL_law_1262 rfl ?_
    refine W.lcmp hx hb dL_law_1263 ?_
    refine lv_if_eq (tgt := 1269) hx hb dL_law_1264 (by decide) (fun c_1264 => ?_) (fun c_1264 => (c_1264 ((lg_cmp_eq _ _).mpr (by rw [hr8]; exact hfo)) : False).elim)
    refine lv_goto (tgt := 1396) hx hb dL_law_1269 (by decide) ?_
    refine W.widen (k := 28 + (j + 1)) (n := 1132 + 6 * (j + 1)) (by omega) (by omega) ?_
    exact KK N1 _ _ _ _ _ _ ls hW1 hH1 hP hD hS (lv_sub hl [2, 3, 4, 5, 6] rfl)
set_option maxHeartbeats 4000000 in
set_option maxRecDepth 100000 in
theorem law_takeHoliday {p : Program} {l : Launch} (hl9 : l.stackTraces = false) {e : Env} {s : State} {m : MethodId} {below : List Frame} {meth : Method} {c : Code} {Q : State → Prop} {D : va_G} {cA cL : ClassId} {b L : Nat} {xs : Nat → Int32} (hL : L ≤ 2560) (hx : p.tables.exec = Jvm.exec) (hb : c.code = code) (hml : c.maxLocals = 7) (hown : s.vm.findClass RL = some m.cls) (hts : ∀ w ∈ wsL_law, w.before #[Value.ref b] s = true) (hX : va_X b L xs s s.heap) (hbl : b < s.heap.size) (hK : KL D cA cL s) (hZ : ZX s) {a a2 : Nat → Nat} {ob : Nat} (j : Nat) (hj : 5 * j + 5 ≤ L) (KK : ∀ (N1 : Nat) (F1 : Nat → Nat → Int32) (g1 : Nat → Int32) (th1 : Int32) (fo1 : Nat → Int64) (H1 : Heap) (locs1 : List Loc) (ls1 : Array Slot), wf F1 N1 → hol2 F1 N1 → va_P D vwCl (wA a a2 cA F1 g1 F1 th1 ob cL fo1) H1 → va_D (fun q : Nat => s.heap.size ≤ q) (wA a a2 cA F1 g1 F1 th1 ob cL fo1) → va_S (fun q : Nat => s.heap.size ≤ q) s.heap H1 locs1 → lv_has ls1 7 [(0, .ref b), (1, .ref (a 16)), (2, .ref (a2 16)), (3, .ref ob), (4, .int (nI (5 * j)))] → W p l e room_1 s m #[Value.ref b] below meth c H1 locs1 (28 + (j + 1)) (1132 + 6 * (j + 1)) Q (F0 m 1396 ls1 [])) {N : Nat} {F : Nat → Nat → Int32} {g : Nat → Int32} {th : Int32} {fo : Nat → Int64} {H : Heap} {locs : List Loc} {ls : Array Slot} (hW : wf F N) (hH : hol2 F N) (hP : va_P D vwCl (wA a a2 cA F g F th ob cL fo) H) (hD : va_D (fun q : Nat => s.heap.size ≤ q) (wA a a2 cA F g F th ob cL fo)) (hS : va_S (fun q : Nat => s.heap.size ≤ q) s.heap H locs) (hl : lv_has ls 7 [(0, .ref b), (1, .ref (a 16)), (2, .ref (a2 16)), (3, .ref ob), (4, .int (nI (5 * j)))]) : W p l e room_1 s m #[Value.ref b] below meth c H locs (28 + j) (1132 + 6 * j) Q (F0 m 1272 ls []) := by
  have hA : ∀ q : Nat, s.heap.size ≤ q → (fun q : Nat => s.heap.size ≤ q) q := fun _ h => h
  have hbA : ¬ (fun q : Nat => s.heap.size ≤ q) b := Nat.not_le.mpr hbl
  have hKA : KA D cA s := hK.sub [0] rfl
  refine lv_aload_n hx hb dL_law_1272 rfl (lv_at hl 1 rfl) ?_
  refine lv_aload_n hx hb dL_law_1273 rfl (lv_at hl 0 rfl) ?_
  refine lv_iload hx hb dL_law_1274 (lv_at hl 4 rfl) ?_
  refine lv_iconst (v := 1) hx hb dL_law_1276 (by decide) ?_
  refine lv_iadd hx hb dL_law_1277 ?_
  refine ri_sld (jj := 5 * j + 1) hx hb hX hbl hbA hS (nI_add (5 * j) 1) (by omega) hL dL_law_1278 ?_
  refine lv_aload_n hx hb dL_law_1279 rfl (lv_at hl 0 rfl) ?_
  refine lv_iload hx hb dL_law_1280 (lv_at hl 4 rfl) ?_
  refine lv_iconst (v := 2) hx hb dL_law_1282 (by decide) ?_
  refine lv_iadd hx hb dL_law_1283 ?_
  refine ri_sld (jj := 5 * j + 2) hx hb hX hbl hbA hS (nI_add (5 * j) 2) (by omega) hL dL_law_1284 ?_
  refine lv_aload_n hx hb dL_law_1285 rfl (lv_at hl 3 rfl) ?_
  refine Lw.callS (rest := []) (wr := (wM a2 cA F th)) [0, 1, 2, 3, 4, 5, 6, 7, 8, 9, 10, 11, 12, 13, 27] [14, 15, 16, 17, 18, 19, 20, 21, 22, 23, 24, 25, 26] ⟨hx, hb, hml, hown, hts⟩ (c_L_takeHoliday l hl9 D cA cL a F g ob fo N hW (xs (5 * j + 1)) (xs (5 * j + 2))) (vx_cwSW 4 hts gL_law_L_takeHoliday rfl rfl rfl (by decide +kernel) ⟨Nat.le_of_ble_eq_true rfl, Nat.le_of_ble_eq_true rfl⟩) hK hP hD hS hA (hZ.later hS) rfl rfl (by decide) (by decide) (by decide) rfl rfl hl.1 (Nat.le_of_ble_eq_true rfl) dL_law_1286 ⟨(by show 28 + j + 1 ≤ 1055; omega), (by show 1132 + 6 * j + 6 ≤ 9342; omega)⟩ (fun r9 u9 H locs hu9 hP hD hS => ?_)
  obtain ⟨hk9, h09, hn9⟩ := hu9
  have hP : va_P D vwCl (wA a a2 cA u9.1 u9.2.1 F th ob cL u9.2.2) H := hP.sub [13, 14, 15, 16, 17, 18, 19, 20, 21, 22, 23, 24, 25, 26, 0, 1, 2, 3, 4, 5, 6, 7, 8, 9, 10, 11, 12, 27] rfl
  have hD : va_D (fun q : Nat => s.heap.size ≤ q) (wA a a2 cA u9.1 u9.2.1 F th ob cL u9.2.2) := hD.sub [13, 14, 15, 16, 17, 18, 19, 20, 21, 22, 23, 24, 25, 26, 0, 1, 2, 3, 4, 5, 6, 7, 8, 9, 10, 11, 12, 27] (by decide) rfl
  refine lv_istore (lv' := [(5, .int r9), (0, .ref b), (1, .ref (a 16)), (2, .ref (a2 16)), (3, .ref ob), (4, .int (nI (5 * j)))]) hx hb dL_law_1289 hl (by decide) rfl (fun ls hl => ?_)
  refine lv_aload_n hx hb dL_law_1291 rfl (lv_at hl 3 rfl) ?_
  refine lv_aload_n hx hb dL_law_1292 rfl (lv_at hl 1 rfl) ?_
  refine lv_iload hx hb dL_law_1293 (lv_at hl 5 rfl) ?_
  refine lv_iconst (v := 1) hx hb dL_law_1295 (by decide) ?_
  refine lv_iadd hx hb dL_law_1296 ?_
  refine ri_sld (jj := 5 * j + 1) hx hb hX hbl hbA hS (nI_add (5 * j) 1) (by omega) hL dL_law_1297 ?_
  refine lv_aload_n hx hb dL_law_1298 rfl (lv_at hl 1 rfl) ?_
  refine lv_iload hx hb dL_law_1299 (lv_at hl 5 rfl) ?_
  refine lv_iconst (v := 2) hx hb dL_law_1301 (by decide) ?_
  refine lv_iadd hx hb dL_law_1302 ?_
  refine ri_sld (jj := 5 * j + 2) hx hb hX hbl hbA hS (nI_add (5 * j) 2) (by omega) hL dL_law_1303 ?_
  refine Wi.callV (rest := []) (q0 := 14) (ci := 1) (wr := (wX a cA u9.1 u9.2.1 ++ wO ob cL u9.2.2)) [14, 15, 16, 17, 18, 19, 20, 21, 22, 23, 24, 25, 26] [0, 1, 2, 3, 4, 5, 6, 7, 8, 9, 10, 11, 12, 13, 27] ⟨hx, hb, hml, hown, hts⟩ (c_X1_takeHoliday l D cA a2 F th N hW (xs (5 * j + 1)) (xs (5 * j + 2))) (cwV 2 hts gL_law_X1_takeHoliday rfl rfl rfl (by decide +kernel) ⟨Nat.le_of_ble_eq_true rfl, Nat.le_of_ble_eq_true rfl⟩) hKA hP hD hS hA rfl rfl (by decide) (by decide) (by decide) rfl rfl rfl rfl rfl hl.1 (Nat.le_of_ble_eq_true rfl) dL_law_1304 ⟨(by show 28 + j + 1 ≤ 1055; omega), (by show 1132 + 6 * j + 6 ≤ 9342; omega)⟩ (fun r8 u8 H locs hu8 hP hD hS => ?_)
  obtain ⟨hk8, h08, hn8⟩ := hu8
  have hP : va_P D vwCl (wA a a2 cA u9.1 u9.2.1 u8.1 u8.2 ob cL u9.2.2) H := hP.sub [0, 1, 2, 3, 4, 5, 6, 7, 8, 9, 10, 11, 12, 13, 15, 16, 17, 18, 19, 20, 21, 22, 23, 24, 25, 26, 27, 14] rfl
  have hD : va_D (fun q : Nat => s.heap.size ≤ q) (wA a a2 cA u9.1 u9.2.1 u8.1 u8.2 ob cL u9.2.2) := hD.sub [0, 1, 2, 3, 4, 5, 6, 7, 8, 9, 10, 11, 12, 13, 15, 16, 17, 18, 19, 20, 21, 22, 23, 24, 25, 26, 27, 14] (by decide) rfl
  have hFF : u8.1 = u9.1 := F_same (fun h => (h09 h).1) hn9 (fun h => (h08 h).2) hn8
  rw [hFF] at hP hD
  obtain ⟨N1, hW1, hH1⟩ : INV u9.1 := inv_of hW hH (fun h => (h09 h).1) hn9 (fun h => by obtain ⟨q1, q2, q3⟩ := kTake_0 F N (xs (5 * j + 1)) (xs (5 * j + 2)) h; exact inv_take hW hH q1 q2 q3)
  refine lv_istore (lv' := [(6, .int r8), (5, .int r9), (0, .ref b), (1, .ref (a 16)), (2, .ref (a2 16)), (3, .ref ob), (4, .int (nI (5 * j)))]) hx hb dL_law_1307 hl (by decide) rfl (fun ls hl => ?_)
  refine lv_aload_n hx hb dL_law_1309 rfl (lv_at hl 4 rfl) ?_
  refine Rd.callV (rest := []) (q0 := 0) (ci := 1) ⟨hx, hb, hml, hown, hts⟩ (c_X1_thrown l D cA a2 u9.1 u8.2) (cwV 0 hts gL_law_X1_thrown rfl rfl rfl (by decide +kernel) ⟨Nat.le_of_ble_eq_true rfl, Nat.le_of_ble_eq_true rfl⟩) hKA (hP.sub [14, 15, 16, 17, 18, 19, 20, 21, 22, 23, 24, 25, 26] rfl : va_P D vwCl (wM a2 cA u9.1 u8.2) H) rfl rfl rfl rfl rfl hl.1 (Nat.le_of_ble_eq_true rfl) dL_law_1310 ⟨(by show 28 + j + 1 ≤ 1055; omega), (by show 1132 + 6 * j + 6 ≤ 9342; omega)⟩ ?_
  refine lv_iload hx hb dL_law_1313 (lv_at hl 1 rfl) ?_
  refine lv_icmp_eq (tgt := 1320) hx hb dL_law_1315 (by decide) (fun c_1315 => ?_) (fun c_1315 => (c_1315 (hk8.trans hk9.symm) : False).elim)
  refine lv_iload hx hb dL_law_1320 (lv_at hl 1 rfl) ?_
  refine lv_if_ne (tgt := 1337) hx hb dL_law_1322 (by decide) (fun c_1322 => ?_) (fun c_1322 => ?_)
  · skip
    refine lv_goto (tgt := 1396) hx hb dL_law_1337 (by decide) ?_
    refine W.widen (k := 28 + (j + 1)) (n := 1132 + 6 * (j + 1)) (by omega) (by omega) ?_
    exact KK N1 _ _ _ _ _ _ ls hW1 hH1 hP hD hS (lv_sub hl [2, 3, 4, 5, 6] rfl)
  · skip
    have h0 : kTake F N (xs (5 * j + 1)) (xs (5 * j + 2)) = 0 := hk9.symm.trans c_1322
    have hfo : u9.2.2 0 = (7 * ps (tHr F (xs (5 * j + 1))) N - F 14 (xs (5 * j + 1)).toNatClampNeg - (xs (5 * j + 2)) : Int32).toInt64 := (h09 h0).2
    have hr8 : r8 = 7 * ps (tHr F (xs (5 * j + 1))) N - F 14 (xs (5 * j + 1)).toNatClampNeg - (xs (5 * j + 2)) := (h08 h0).1
    refine lv_aload_n hx hb dL_law_1325 rfl (lv_at hl 5 rfl) ?_
    refine lv_iconst (v := 0) hx hb dL_law_1326 (by decide) ?_
    refine va_lald hx hb hK hP 27 1 rfl rfl (vp_in_nI (n := 0) (N := 1) (by decide) (by decide)) dL_law_1327 ?_
    refine lv_iload hx hb dL_law_1328 (lv_at hl 0 rfl) ?_
    refine lv_i2l (v := (r8 : Int32).toInt64) hx hb dL_law_1330 rfl ?_
    refine W.lcmp hx hb dL_law_1331 ?_
    refine lv_if_eq (tgt := 1337) hx hb dL_law_1332 (by decide) (fun c_1332 => ?_) (fun c_1332 => (c_1332 ((lg_cmp_eq _ _).mpr (by rw [hr8]; exact hfo)) : False).elim)
    refine lv_goto (tgt := 1396) hx hb dL_law_1337 (by decide) ?_
    refine W.widen (k := 28 + (j + 1)) (n := 1132 + 6 * (j + 1)) (by omega) (by omega) ?_
    exact KK N1 _ _ _ _ _ _ ls hW1 hH1 hP hD hS (lv_sub hl [2, 3, 4, 5, 6] rfl)
set_option maxHeartbeats 4000000 in
set_option maxRecDepth 100000 in
theorem law_holiday {p : Program} {l : Launch} (hl9 : l.stackTraces = false) {e : Env} {s : State} {m : MethodId} {below : List Frame} {meth : Method} {c : Code} {Q : State → Prop} {D : va_G} {cA cL : ClassId} {b L : Nat} {xs : Nat → Int32} (hL : L ≤ 2560) (hx : p.tables.exec = Jvm.exec) (hb : c.code = code) (hml : c.maxLocals = 7) (hown : s.vm.findClass RL = some m.cls) (hts : ∀ w ∈ wsL_law, w.before #[Value.ref b] s = true) (hX : va_X b L xs s s.heap) (hbl : b < s.heap.size) (hK : KL D cA cL s) (hZ : ZX s) {a a2 : Nat → Nat} {ob : Nat} (j : Nat) (hj : 5 * j + 5 ≤ L) (KK : ∀ (N1 : Nat) (F1 : Nat → Nat → Int32) (g1 : Nat → Int32) (th1 : Int32) (fo1 : Nat → Int64) (H1 : Heap) (locs1 : List Loc) (ls1 : Array Slot), wf F1 N1 → hol2 F1 N1 → va_P D vwCl (wA a a2 cA F1 g1 F1 th1 ob cL fo1) H1 → va_D (fun q : Nat => s.heap.size ≤ q) (wA a a2 cA F1 g1 F1 th1 ob cL fo1) → va_S (fun q : Nat => s.heap.size ≤ q) s.heap H1 locs1 → lv_has ls1 7 [(0, .ref b), (1, .ref (a 16)), (2, .ref (a2 16)), (3, .ref ob), (4, .int (nI (5 * j)))] → W p l e room_1 s m #[Value.ref b] below meth c H1 locs1 (28 + (j + 1)) (1132 + 6 * (j + 1)) Q (F0 m 1396 ls1 [])) {N : Nat} {F : Nat → Nat → Int32} {g : Nat → Int32} {th : Int32} {fo : Nat → Int64} {H : Heap} {locs : List Loc} {ls : Array Slot} (hW : wf F N) (hH : hol2 F N) (hP : va_P D vwCl (wA a a2 cA F g F th ob cL fo) H) (hD : va_D (fun q : Nat => s.heap.size ≤ q) (wA a a2 cA F g F th ob cL fo)) (hS : va_S (fun q : Nat => s.heap.size ≤ q) s.heap H locs) (hl : lv_has ls 7 [(0, .ref b), (1, .ref (a 16)), (2, .ref (a2 16)), (3, .ref ob), (4, .int (nI (5 * j)))]) : W p l e room_1 s m #[Value.ref b] below meth c H locs (28 + j) (1132 + 6 * j) Q (F0 m 1340 ls []) := by
  have hA : ∀ q : Nat, s.heap.size ≤ q → (fun q : Nat => s.heap.size ≤ q) q := fun _ h => h
  have hbA : ¬ (fun q : Nat => s.heap.size ≤ q) b := Nat.not_le.mpr hbl
  have hKA : KA D cA s := hK.sub [0] rfl
  refine lv_aload_n hx hb dL_law_1340 rfl (lv_at hl 1 rfl) ?_
  refine lv_aload_n hx hb dL_law_1341 rfl (lv_at hl 0 rfl) ?_
  refine lv_iload hx hb dL_law_1342 (lv_at hl 4 rfl) ?_
  refine lv_iconst (v := 1) hx hb dL_law_1344 (by decide) ?_
  refine lv_iadd hx hb dL_law_1345 ?_
  refine ri_sld (jj := 5 * j + 1) hx hb hX hbl hbA hS (nI_add (5 * j) 1) (by omega) hL dL_law_1346 ?_
  refine lv_aload_n hx hb dL_law_1347 rfl (lv_at hl 3 rfl) ?_
  refine Lw.callS (rest := []) (wr := (wM a2 cA F th)) [0, 1, 2, 3, 4, 5, 6, 7, 8, 9, 10, 11, 12, 13, 27] [14, 15, 16, 17, 18, 19, 20, 21, 22, 23, 24, 25, 26] ⟨hx, hb, hml, hown, hts⟩ (c_L_holiday l hl9 D cA cL a F g ob fo N hW (xs (5 * j + 1))) (vx_cwSW 3 hts gL_law_L_holiday rfl rfl rfl (by decide +kernel) ⟨Nat.le_of_ble_eq_true rfl, Nat.le_of_ble_eq_true rfl⟩) hK hP hD hS hA (hZ.later hS) rfl rfl (by decide) (by decide) (by decide) rfl rfl hl.1 (Nat.le_of_ble_eq_true rfl) dL_law_1348 ⟨(by show 28 + j + 1 ≤ 1055; omega), (by show 1132 + 6 * j + 6 ≤ 9342; omega)⟩ (fun r9 u9 H locs hu9 hP hD hS => ?_)
  obtain ⟨hk9, h09, hn9⟩ := hu9
  have hP : va_P D vwCl (wA a a2 cA u9.1 u9.2.1 F th ob cL u9.2.2) H := hP.sub [13, 14, 15, 16, 17, 18, 19, 20, 21, 22, 23, 24, 25, 26, 0, 1, 2, 3, 4, 5, 6, 7, 8, 9, 10, 11, 12, 27] rfl
  have hD : va_D (fun q : Nat => s.heap.size ≤ q) (wA a a2 cA u9.1 u9.2.1 F th ob cL u9.2.2) := hD.sub [13, 14, 15, 16, 17, 18, 19, 20, 21, 22, 23, 24, 25, 26, 0, 1, 2, 3, 4, 5, 6, 7, 8, 9, 10, 11, 12, 27] (by decide) rfl
  refine lv_istore (lv' := [(5, .int r9), (0, .ref b), (1, .ref (a 16)), (2, .ref (a2 16)), (3, .ref ob), (4, .int (nI (5 * j)))]) hx hb dL_law_1351 hl (by decide) rfl (fun ls hl => ?_)
  refine lv_aload_n hx hb dL_law_1353 rfl (lv_at hl 3 rfl) ?_
  refine lv_aload_n hx hb dL_law_1354 rfl (lv_at hl 1 rfl) ?_
  refine lv_iload hx hb dL_law_1355 (lv_at hl 5 rfl) ?_
  refine lv_iconst (v := 1) hx hb dL_law_1357 (by decide) ?_
  refine lv_iadd hx hb dL_law_1358 ?_
  refine ri_sld (jj := 5 * j + 1) hx hb hX hbl hbA hS (nI_add (5 * j) 1) (by omega) hL dL_law_1359 ?_
  refine Wi.callV (rest := []) (q0 := 14) (ci := 1) (wr := (wX a cA u9.1 u9.2.1 ++ wO ob cL u9.2.2)) [14, 15, 16, 17, 18, 19, 20, 21, 22, 23, 24, 25, 26] [0, 1, 2, 3, 4, 5, 6, 7, 8, 9, 10, 11, 12, 13, 27] ⟨hx, hb, hml, hown, hts⟩ (c_X1_holiday l D cA a2 F th N hW (xs (5 * j + 1))) (cwV 1 hts gL_law_X1_holiday rfl rfl rfl (by decide +kernel) ⟨Nat.le_of_ble_eq_true rfl, Nat.le_of_ble_eq_true rfl⟩) hKA hP hD hS hA rfl rfl (by decide) (by decide) (by decide) rfl rfl rfl rfl rfl hl.1 (Nat.le_of_ble_eq_true rfl) dL_law_1360 ⟨(by show 28 + j + 1 ≤ 1055; omega), (by show 1132 + 6 * j + 6 ≤ 9342; omega)⟩ (fun r8 u8 H locs hu8 hP hD hS => ?_)
  obtain ⟨hk8, h08, hn8⟩ := hu8
  have hP : va_P D vwCl (wA a a2 cA u9.1 u9.2.1 u8.1 u8.2 ob cL u9.2.2) H := hP.sub [0, 1, 2, 3, 4, 5, 6, 7, 8, 9, 10, 11, 12, 13, 15, 16, 17, 18, 19, 20, 21, 22, 23, 24, 25, 26, 27, 14] rfl
  have hD : va_D (fun q : Nat => s.heap.size ≤ q) (wA a a2 cA u9.1 u9.2.1 u8.1 u8.2 ob cL u9.2.2) := hD.sub [0, 1, 2, 3, 4, 5, 6, 7, 8, 9, 10, 11, 12, 13, 15, 16, 17, 18, 19, 20, 21, 22, 23, 24, 25, 26, 27, 14] (by decide) rfl
  have hFF : u8.1 = u9.1 := F_same (fun h => (h09 h).1) hn9 (fun h => (h08 h).2) hn8
  rw [hFF] at hP hD
  obtain ⟨N1, hW1, hH1⟩ : INV u9.1 := inv_of hW hH (fun h => (h09 h).1) hn9 (fun _ => ⟨N, hW, hH⟩)
  refine lv_istore (lv' := [(6, .int r8), (5, .int r9), (0, .ref b), (1, .ref (a 16)), (2, .ref (a2 16)), (3, .ref ob), (4, .int (nI (5 * j)))]) hx hb dL_law_1363 hl (by decide) rfl (fun ls hl => ?_)
  refine lv_aload_n hx hb dL_law_1365 rfl (lv_at hl 4 rfl) ?_
  refine Rd.callV (rest := []) (q0 := 0) (ci := 1) ⟨hx, hb, hml, hown, hts⟩ (c_X1_thrown l D cA a2 u9.1 u8.2) (cwV 0 hts gL_law_X1_thrown rfl rfl rfl (by decide +kernel) ⟨Nat.le_of_ble_eq_true rfl, Nat.le_of_ble_eq_true rfl⟩) hKA (hP.sub [14, 15, 16, 17, 18, 19, 20, 21, 22, 23, 24, 25, 26] rfl : va_P D vwCl (wM a2 cA u9.1 u8.2) H) rfl rfl rfl rfl rfl hl.1 (Nat.le_of_ble_eq_true rfl) dL_law_1366 ⟨(by show 28 + j + 1 ≤ 1055; omega), (by show 1132 + 6 * j + 6 ≤ 9342; omega)⟩ ?_
  refine lv_iload hx hb dL_law_1369 (lv_at hl 1 rfl) ?_
  refine lv_icmp_eq (tgt := 1376) hx hb dL_law_1371 (by decide) (fun c_1371 => ?_) (fun c_1371 => (c_1371 (hk8.trans hk9.symm) : False).elim)
  refine lv_iload hx hb dL_law_1376 (lv_at hl 1 rfl) ?_
  refine lv_if_ne (tgt := 1393) hx hb dL_law_1378 (by decide) (fun c_1378 => ?_) (fun c_1378 => ?_)
  · skip
    refine lv_goto (tgt := 1396) hx hb dL_law_1393 (by decide) ?_
    refine W.widen (k := 28 + (j + 1)) (n := 1132 + 6 * (j + 1)) (by omega) (by omega) ?_
    exact KK N1 _ _ _ _ _ _ ls hW1 hH1 hP hD hS (lv_sub hl [2, 3, 4, 5, 6] rfl)
  · skip
    have h0 : kW (xs (5 * j + 1)) = 0 := hk9.symm.trans c_1378
    have hfo : u9.2.2 0 = (7 * ps (tHr F (xs (5 * j + 1))) N - F 14 (xs (5 * j + 1)).toNatClampNeg : Int32).toInt64 := (h09 h0).2
    have hr8 : r8 = 7 * ps (tHr F (xs (5 * j + 1))) N - F 14 (xs (5 * j + 1)).toNatClampNeg := (h08 h0).1
    refine lv_aload_n hx hb dL_law_1381 rfl (lv_at hl 5 rfl) ?_
    refine lv_iconst (v := 0) hx hb dL_law_1382 (by decide) ?_
    refine va_lald hx hb hK hP 27 1 rfl rfl (vp_in_nI (n := 0) (N := 1) (by decide) (by decide)) dL_law_1383 ?_
    refine lv_iload hx hb dL_law_1384 (lv_at hl 0 rfl) ?_
    refine lv_i2l (v := (r8 : Int32).toInt64) hx hb dL_law_1386 rfl ?_
    refine W.lcmp hx hb dL_law_1387 ?_
    refine lv_if_eq (tgt := 1393) hx hb dL_law_1388 (by decide) (fun c_1388 => ?_) (fun c_1388 => (c_1388 ((lg_cmp_eq _ _).mpr (by rw [hr8]; exact hfo)) : False).elim)
    refine lv_goto (tgt := 1396) hx hb dL_law_1393 (by decide) ?_
    refine W.widen (k := 28 + (j + 1)) (n := 1132 + 6 * (j + 1)) (by omega) (by omega) ?_
    exact KK N1 _ _ _ _ _ _ ls hW1 hH1 hP hD hS (lv_sub hl [2, 3, 4, 5, 6] rfl)

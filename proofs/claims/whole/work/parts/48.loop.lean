/-! the law's loop, and its start -/
theorem le_five {L i : Nat} (hL : L ≤ 2560) (hi : i ≤ 2560) (h : ¬ nI L - 5 < nI i) : i + 5 ≤ L := by
  rw [Int32.lt_iff_toInt_lt, show (5 : Int32) = nI 5 from rfl, pk_sub_toInt (by omega) (by decide), nI_toInt (by omega)] at h
  omega
set_option maxHeartbeats 4000000 in
theorem law_loop {p : Program} {l : Launch} (hl9 : l.stackTraces = false) {e : Env} {s : State} {m : MethodId} {below : List Frame} {meth : Method} {c : Code} {D : va_G} {cA cL : ClassId} {b L : Nat} {xs : Nat → Int32} (hL : L ≤ 2560) (hx : p.tables.exec = Jvm.exec) (hb : c.code = code) (hr : meth.sig.returnType = ret) (hml : c.maxLocals = 7) (hown : s.vm.findClass RL = some m.cls) (hts : ∀ w ∈ wsL_law, w.before #[Value.ref b] s = true) (hX : va_X b L xs s s.heap) (hbl : b < s.heap.size) (hlocks : meth.locks = false) (hK : KL D cA cL s) (hZ : ZX s) {a a2 : Nat → Nat} {ob : Nat} :
    ∀ (n j : Nat), j + n = 513 → 5 * j ≤ L → ∀ (N : Nat) (F : Nat → Nat → Int32) (g : Nat → Int32) (th : Int32) (fo : Nat → Int64) (H : Heap) (locs : List Loc) (ls : Array Slot), wf F N → hol2 F N → va_P D vwCl (wA a a2 cA F g F th ob cL fo) H → va_D (fun q : Nat => s.heap.size ≤ q) (wA a a2 cA F g F th ob cL fo) → va_S (fun q : Nat => s.heap.size ≤ q) s.heap H locs → lv_has ls 7 [(0, .ref b), (1, .ref (a 16)), (2, .ref (a2 16)), (3, .ref ob), (4, .int (nI (5 * j)))] → W p l e room_1 s m #[Value.ref b] below meth c H locs (28 + j) (1132 + 6 * j) (lw_Z below #[Value.ref b] s) (F0 m 23 ls []) := by
  have hbA : ¬ (fun q : Nat => s.heap.size ≤ q) b := Nat.not_le.mpr hbl
  intro n
  induction n with
  | zero =>
    intro j h1 h2
    exact absurd h2 (by omega)
  | succ n ih =>
    intro j hjn h5 N F g th fo H locs ls hW hH hP hD hS hl
    refine lv_iload hx hb dL_law_23 (lv_at hl 4 rfl) ?_
    refine lv_aload_n hx hb dL_law_25 rfl (lv_at hl 0 rfl) ?_
    refine va_slen hx hb hX hbl hbA hS dL_law_26 ?_
    refine lv_iconst (v := 5) hx hb dL_law_27 (by decide) ?_
    refine lv_isub hx hb dL_law_28 ?_
    refine lv_icmp_gt (tgt := 1402) hx hb dL_law_29 (by decide) (fun c_29 => ?_) (fun c_29 => ?_)
    · refine lv_iconst (v := 1) hx hb dL_law_1402 (by decide) ?_
      refine va_forget (fun q hq => hS.2.2 q hq) ?_
      refine W.widen (k := 1055) (n := 9342) (by omega) (by omega) ?_
      exact lw_ret hx hb hr hlocks dL_law_1403
    · have hj : 5 * j + 5 ≤ L := le_five hL (by omega) c_29
      have KK : ∀ (N1 : Nat) (F1 : Nat → Nat → Int32) (g1 : Nat → Int32) (th1 : Int32) (fo1 : Nat → Int64) (H1 : Heap) (locs1 : List Loc) (ls1 : Array Slot), wf F1 N1 → hol2 F1 N1 → va_P D vwCl (wA a a2 cA F1 g1 F1 th1 ob cL fo1) H1 → va_D (fun q : Nat => s.heap.size ≤ q) (wA a a2 cA F1 g1 F1 th1 ob cL fo1) → va_S (fun q : Nat => s.heap.size ≤ q) s.heap H1 locs1 → lv_has ls1 7 [(0, .ref b), (1, .ref (a 16)), (2, .ref (a2 16)), (3, .ref ob), (4, .int (nI (5 * j)))] → W p l e room_1 s m #[Value.ref b] below meth c H1 locs1 (28 + (j + 1)) (1132 + 6 * (j + 1)) (lw_Z below #[Value.ref b] s) (F0 m 1396 ls1 []) := by
        intro N1 F1 g1 th1 fo1 H1 locs1 ls1 hW1 hH1 hP1 hD1 hS1 hl1
        refine lv_iinc (v := nI (5 * (j + 1))) (lv' := [(4, .int (nI (5 * (j + 1)))), (0, .ref b), (1, .ref (a 16)), (2, .ref (a2 16)), (3, .ref ob)]) hx hb dL_law_1396 hl1 (k := 4) rfl ((nI_add (5 * j) 5).trans (congrArg nI (by omega))) (by decide) rfl (fun ls2 hl2 => ?_)
        refine lv_goto (tgt := 23) hx hb dL_law_1399 (by decide) ?_
        exact ih (j + 1) (by omega) (by omega) N1 F1 g1 th1 fo1 H1 locs1 ls2 hW1 hH1 hP1 hD1 hS1 (lv_sub hl2 [1, 2, 3, 4, 0] rfl)
      refine lv_aload_n hx hb dL_law_32 rfl (lv_at hl 0 rfl) ?_
      refine lv_iload hx hb dL_law_33 (lv_at hl 4 rfl) ?_
      refine ri_sld (jj := 5 * j) hx hb hX hbl hbA hS rfl (by omega) hL dL_law_35 ?_
      refine lv_bipush (v := 31) hx hb dL_law_36 (by decide) ?_
      refine lv_iand hx hb dL_law_38 ?_
      obtain ⟨k, hk, ek⟩ := pk_andE (xs (5 * j)) (m := 31) 5 (by decide)
      rw [ek]
      rcases Nat.lt_or_ge k 20 with h20 | h20
      · rcases (show k = 0 ∨ k = 1 ∨ k = 2 ∨ k = 3 ∨ k = 4 ∨ k = 5 ∨ k = 6 ∨ k = 7 ∨ k = 8 ∨ k = 9 ∨ k = 10 ∨ k = 11 ∨ k = 12 ∨ k = 13 ∨ k = 14 ∨ k = 15 ∨ k = 16 ∨ k = 17 ∨ k = 18 ∨ k = 19 by omega) with rfl | rfl | rfl | rfl | rfl | rfl | rfl | rfl | rfl | rfl | rfl | rfl | rfl | rfl | rfl | rfl | rfl | rfl | rfl | rfl
        · refine lv_tableIn (off := 93) (tgt := 132) hx hb dL_law_39 (by decide) (by decide) (by decide) (by decide) ?_
          exact law_setRates hl9 hL hx hb hml hown hts hX hbl hK hZ j hj KK hW hH hP hD hS hl
        · refine lv_tableIn (off := 153) (tgt := 192) hx hb dL_law_39 (by decide) (by decide) (by decide) (by decide) ?_
          exact law_setMargins hl9 hL hx hb hml hown hts hX hbl hK hZ j hj KK hW hH hP hD hS hl
        · refine lv_tableIn (off := 225) (tgt := 264) hx hb dL_law_39 (by decide) (by decide) (by decide) (by decide) ?_
          exact law_setEqual hl9 hL hx hb hml hown hts hX hbl hK hZ j hj KK hW hH hP hD hS hl
        · refine lv_tableIn (off := 273) (tgt := 312) hx hb dL_law_39 (by decide) (by decide) (by decide) (by decide) ?_
          exact law_shift hl9 hL hx hb hml hown hts hX hbl hK hZ j hj KK hW hH hP hD hS hl
        · refine lv_tableIn (off := 365) (tgt := 404) hx hb dL_law_39 (by decide) (by decide) (by decide) (by decide) ?_
          exact law_correct hl9 hL hx hb hml hown hts hX hbl hK hZ j hj KK hW hH hP hD hS hl
        · refine lv_tableIn (off := 433) (tgt := 472) hx hb dL_law_39 (by decide) (by decide) (by decide) (by decide) ?_
          exact law_shifts hl9 hL hx hb hml hown hts hX hbl hK hZ j hj KK hW hH hP hD hS hl
        · refine lv_tableIn (off := 446) (tgt := 485) hx hb dL_law_39 (by decide) (by decide) (by decide) (by decide) ?_
          exact law_hours hl9 hL hx hb hml hown hts hX hbl hK hZ j hj KK hW hH hP hD hS hl
        · refine lv_tableIn (off := 514) (tgt := 553) hx hb dL_law_39 (by decide) (by decide) (by decide) (by decide) ?_
          exact law_overtime hl9 hL hx hb hml hown hts hX hbl hK hZ j hj KK hW hH hP hD hS hl
        · refine lv_tableIn (off := 570) (tgt := 609) hx hb dL_law_39 (by decide) (by decide) (by decide) (by decide) ?_
          exact law_hasEqual hl9 hL hx hb hml hown hts hX hbl hK hZ j hj KK hW hH hP hD hS hl
        · refine lv_tableIn (off := 657) (tgt := 696) hx hb dL_law_39 (by decide) (by decide) (by decide) (by decide) ?_
          exact law_payOf hl9 hL hx hb hml hown hts hX hbl hK hZ j hj KK hW hH hP hD hS hl
        · refine lv_tableIn (off := 713) (tgt := 752) hx hb dL_law_39 (by decide) (by decide) (by decide) (by decide) ?_
          exact law_chargeOf hl9 hL hx hb hml hown hts hX hbl hK hZ j hj KK hW hH hP hD hS hl
        · refine lv_tableIn (off := 769) (tgt := 808) hx hb dL_law_39 (by decide) (by decide) (by decide) (by decide) ?_
          exact law_pay hl9 hL hx hb hml hown hts hX hbl hK hZ j hj KK hW hH hP hD hS hl
        · refine lv_tableIn (off := 837) (tgt := 876) hx hb dL_law_39 (by decide) (by decide) (by decide) (by decide) ?_
          exact law_payByHours hl9 hL hx hb hml hown hts hX hbl hK hZ j hj KK hW hH hP hD hS hl
        · refine lv_tableIn (off := 905) (tgt := 944) hx hb dL_law_39 (by decide) (by decide) (by decide) (by decide) ?_
          exact law_run hl9 hL hx hb hml hown hts hX hbl hK hZ j hj KK hW hH hP hD hS hl
        · refine lv_tableIn (off := 961) (tgt := 1000) hx hb dL_law_39 (by decide) (by decide) (by decide) (by decide) ?_
          exact law_paid hl9 hL hx hb hml hown hts hX hbl hK hZ j hj KK hW hH hP hD hS hl
        · refine lv_tableIn (off := 1029) (tgt := 1068) hx hb dL_law_39 (by decide) (by decide) (by decide) (by decide) ?_
          exact law_billed hl9 hL hx hb hml hown hts hX hbl hK hZ j hj KK hW hH hP hD hS hl
        · refine lv_tableIn (off := 1097) (tgt := 1136) hx hb dL_law_39 (by decide) (by decide) (by decide) (by decide) ?_
          exact law_owing hl9 hL hx hb hml hown hts hX hbl hK hZ j hj KK hW hH hP hD hS hl
        · refine lv_tableIn (off := 1165) (tgt := 1204) hx hb dL_law_39 (by decide) (by decide) (by decide) (by decide) ?_
          exact law_toBill hl9 hL hx hb hml hown hts hX hbl hK hZ j hj KK hW hH hP hD hS hl
        · refine lv_tableIn (off := 1233) (tgt := 1272) hx hb dL_law_39 (by decide) (by decide) (by decide) (by decide) ?_
          exact law_takeHoliday hl9 hL hx hb hml hown hts hX hbl hK hZ j hj KK hW hH hP hD hS hl
        · refine lv_tableIn (off := 1301) (tgt := 1340) hx hb dL_law_39 (by decide) (by decide) (by decide) (by decide) ?_
          exact law_holiday hl9 hL hx hb hml hown hts hX hbl hK hZ j hj KK hW hH hP hD hS hl
      · refine lv_tableOut (tgt := 1396) hx hb dL_law_39 (Or.inr (by rw [nI_toInt (by omega)]; omega)) (by decide) ?_
        refine W.widen (k := 28 + (j + 1)) (n := 1132 + 6 * (j + 1)) (by omega) (by omega) ?_
        exact KK N F g th fo H locs ls hW hH hP hD hS hl

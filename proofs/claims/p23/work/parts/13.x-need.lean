/-! the class: the three methods that throw; by program (wip/whole/gen) -/
abbrev rmX0_needOneOf : Room := { frames := 1, cells := 0, slots := 0, locals := 20 }
abbrev rbX0_needOneOf : Room := { frames := 6, cells := 1, slots := 6, locals := 90 }
abbrev rmX0_needRange : Room := { frames := 1, cells := 0, slots := 0, locals := 20 }
abbrev rbX0_needRange : Room := { frames := 6, cells := 1, slots := 6, locals := 90 }
abbrev rmX0_needState : Room := { frames := 1, cells := 0, slots := 0, locals := 20 }
abbrev rbX0_needState : Room := { frames := 6, cells := 1, slots := 6, locals := 90 }
set_option maxHeartbeats 4000000 in
set_option maxRecDepth 100000 in
theorem c_X0_needOneOf (l : Launch) (D : va_G) (cA : ClassId) (x y : Int32) (h0 : ¬ x < 0) (h1 : x < y) : Ru l D cA [] yX0_needOneOf wsX0_needOneOf rmX0_needOneOf [.int x, .int y] := by
  refine Ru.of (cc := cX0_needOneOf) (maxL := 2) (by decide) rfl (Nat.le_of_ble_eq_true rfl) ?_
  intro p e s m args below meth c ls Q hx hb hts hown hml hK hP hl hend
  have hown : s.vm.findClass RX0 = some m.cls := hown
  have hl : lv_has ls 2 [(0, .int x), (1, .int y)] := hl
  refine lv_iload_n hx hb dX0_needOneOf_0 rfl (lv_at hl 0 rfl) ?_
  refine lv_if_lt (tgt := 9) hx hb dX0_needOneOf_1 (by decide) (fun c_1 => (h0 c_1 : False).elim) (fun c_1 => ?_)
  refine lv_iload_n hx hb dX0_needOneOf_4 rfl (lv_at hl 0 rfl) ?_
  refine lv_iload_n hx hb dX0_needOneOf_5 rfl (lv_at hl 1 rfl) ?_
  refine lv_icmp_lt (tgt := 19) hx hb dX0_needOneOf_6 (by decide) (fun c_6 => ?_) (fun c_6 => (c_6 h1 : False).elim)
  exact hend 19 ls dX0_needOneOf_19

set_option maxHeartbeats 4000000 in
set_option maxRecDepth 100000 in
theorem c_X0_needRange (l : Launch) (D : va_G) (cA : ClassId) (x y z : Int32) (h0 : ¬ x < y) (h1 : x ≤ z) : Ru l D cA [] yX0_needRange wsX0_needRange rmX0_needRange [.int x, .int y, .int z] := by
  refine Ru.of (cc := cX0_needRange) (maxL := 3) (by decide) rfl (Nat.le_of_ble_eq_true rfl) ?_
  intro p e s m args below meth c ls Q hx hb hts hown hml hK hP hl hend
  have hown : s.vm.findClass RX0 = some m.cls := hown
  have hl : lv_has ls 3 [(0, .int x), (1, .int y), (2, .int z)] := hl
  refine lv_iload_n hx hb dX0_needRange_0 rfl (lv_at hl 0 rfl) ?_
  refine lv_iload_n hx hb dX0_needRange_1 rfl (lv_at hl 1 rfl) ?_
  refine lv_icmp_lt (tgt := 10) hx hb dX0_needRange_2 (by decide) (fun c_2 => (h0 c_2 : False).elim) (fun c_2 => ?_)
  refine lv_iload_n hx hb dX0_needRange_5 rfl (lv_at hl 0 rfl) ?_
  refine lv_iload_n hx hb dX0_needRange_6 rfl (lv_at hl 2 rfl) ?_
  refine lv_icmp_le (tgt := 20) hx hb dX0_needRange_7 (by decide) (fun c_7 => ?_) (fun c_7 => (c_7 h1 : False).elim)
  exact hend 20 ls dX0_needRange_20

set_option maxHeartbeats 4000000 in
set_option maxRecDepth 100000 in
theorem c_X0_needState (l : Launch) (D : va_G) (cA : ClassId) (x : Int32) (h0 : ¬ x = 0) : Ru l D cA [] yX0_needState wsX0_needState rmX0_needState [.int x] := by
  refine Ru.of (cc := cX0_needState) (maxL := 1) (by decide) rfl (Nat.le_of_ble_eq_true rfl) ?_
  intro p e s m args below meth c ls Q hx hb hts hown hml hK hP hl hend
  have hown : s.vm.findClass RX0 = some m.cls := hown
  have hl : lv_has ls 1 [(0, .int x)] := hl
  refine lv_iload_n hx hb dX0_needState_0 rfl (lv_at hl 0 rfl) ?_
  refine lv_if_ne (tgt := 14) hx hb dX0_needState_1 (by decide) (fun c_1 => ?_) (fun c_1 => (h0 c_1 : False).elim)
  exact hend 14 ls dX0_needState_14

set_option maxHeartbeats 4000000 in
set_option maxRecDepth 100000 in
theorem b_X0_needOneOf (l : Launch) (D : va_G) (cA : ClassId) (hl9 : l.stackTraces = false) (x y : Int32) (h : x < 0 ∨ ¬ x < y) : Bx l D cA [] yX0_needOneOf wsX0_needOneOf rbX0_needOneOf [.int x, .int y] eI := by
  refine Bx.of (cc := cX0_needOneOf) (maxL := 2) (ret := none) (by decide) rfl (Nat.le_of_ble_eq_true rfl) ?_
  intro p e s m args below meth c ls hx hb hts hown hml hK hP hl htab hlocks hZ
  have hown : s.vm.findClass RX0 = some m.cls := hown
  have hl : lv_has ls 2 [(0, .int x), (1, .int y)] := hl
  obtain ⟨a9, hstr⟩ := hZ.2.2.1
  refine lv_iload_n hx hb dX0_needOneOf_0 rfl (lv_at hl 0 rfl) ?_
  refine lv_if_lt (tgt := 9) hx hb dX0_needOneOf_1 (by decide) (fun c_1 => ?_) (fun c_1 => ?_)
  · skip
    exact vx_throwS1 (own := RX0) (cls := "java/lang/IndexOutOfBoundsException") (text := "there is no such worker, site, shift or week") (names := ["java/lang/RuntimeException", "java/lang/Exception"]) (ik := 147) (is := 149) (ic := 151) (mc := 1) (ms := 6) (sa := a9) (A := fun q => s.heap.size ≤ q) hx hb hl9 hown (by decide +kernel) (by decide +kernel) (hts (.classLink RX0 147 "java/lang/IndexOutOfBoundsException") (by decide +kernel)) (hts (.initialized "java/lang/IndexOutOfBoundsException") (by decide +kernel)) hstr (vx_hat (B := [.castable "java/lang/IndexOutOfBoundsException" "java/lang/IndexOutOfBoundsException", .declares ⟨"java/lang/RuntimeException", "<init>", "(Ljava/lang/String;)V"⟩, .declares ⟨"java/lang/Exception", "<init>", "(Ljava/lang/String;)V"⟩, .declares ⟨"java/lang/Throwable", "<init>", "(Ljava/lang/String;)V"⟩]) (fun w hw => hts w (List.mem_cons_of_mem _ (List.mem_append_right _ hw))) (by decide +kernel) (vx_c (va_Nw.use rfl hZ.2.2.2.2.2.1) (vx_c (va_Nw.use rfl hZ.2.2.2.2.2.2.2.2.1) (vx_c (va_Nw.use rfl hZ.2.2.2.2.2.2.2.2.2.1) (vx_c (va_Nw.use rfl hZ.2.2.2.2.2.2.2.2.2.2) vx_n))))) (by decide +kernel) hZ.1 hZ.2.1 va_S.rf (hl.1.trans hml.symm) dX0_needOneOf_9 dX0_needOneOf_12 dX0_needOneOf_13 dX0_needOneOf_15 dX0_needOneOf_18 (fun x h => (htab x h).elim) (Nat.le_of_ble_eq_true rfl) (Nat.le_of_ble_eq_true rfl) (Nat.le_of_ble_eq_true rfl) (Nat.le_of_ble_eq_true rfl) hlocks (fun t hvm hz hk => ⟨rfl, hz, hk⟩) (fun _ h => nomatch h) (Nat.le_of_ble_eq_true rfl) (Nat.le_of_ble_eq_true rfl)
  · skip
    refine lv_iload_n hx hb dX0_needOneOf_4 rfl (lv_at hl 0 rfl) ?_
    refine lv_iload_n hx hb dX0_needOneOf_5 rfl (lv_at hl 1 rfl) ?_
    refine lv_icmp_lt (tgt := 19) hx hb dX0_needOneOf_6 (by decide) (fun c_6 => (h.elim c_1 (fun h => h c_6) : False).elim) (fun c_6 => ?_)
    exact vx_throwS1 (own := RX0) (cls := "java/lang/IndexOutOfBoundsException") (text := "there is no such worker, site, shift or week") (names := ["java/lang/RuntimeException", "java/lang/Exception"]) (ik := 147) (is := 149) (ic := 151) (mc := 1) (ms := 6) (sa := a9) (A := fun q => s.heap.size ≤ q) hx hb hl9 hown (by decide +kernel) (by decide +kernel) (hts (.classLink RX0 147 "java/lang/IndexOutOfBoundsException") (by decide +kernel)) (hts (.initialized "java/lang/IndexOutOfBoundsException") (by decide +kernel)) hstr (vx_hat (B := [.castable "java/lang/IndexOutOfBoundsException" "java/lang/IndexOutOfBoundsException", .declares ⟨"java/lang/RuntimeException", "<init>", "(Ljava/lang/String;)V"⟩, .declares ⟨"java/lang/Exception", "<init>", "(Ljava/lang/String;)V"⟩, .declares ⟨"java/lang/Throwable", "<init>", "(Ljava/lang/String;)V"⟩]) (fun w hw => hts w (List.mem_cons_of_mem _ (List.mem_append_right _ hw))) (by decide +kernel) (vx_c (va_Nw.use rfl hZ.2.2.2.2.2.1) (vx_c (va_Nw.use rfl hZ.2.2.2.2.2.2.2.2.1) (vx_c (va_Nw.use rfl hZ.2.2.2.2.2.2.2.2.2.1) (vx_c (va_Nw.use rfl hZ.2.2.2.2.2.2.2.2.2.2) vx_n))))) (by decide +kernel) hZ.1 hZ.2.1 va_S.rf (hl.1.trans hml.symm) dX0_needOneOf_9 dX0_needOneOf_12 dX0_needOneOf_13 dX0_needOneOf_15 dX0_needOneOf_18 (fun x h => (htab x h).elim) (Nat.le_of_ble_eq_true rfl) (Nat.le_of_ble_eq_true rfl) (Nat.le_of_ble_eq_true rfl) (Nat.le_of_ble_eq_true rfl) hlocks (fun t hvm hz hk => ⟨rfl, hz, hk⟩) (fun _ h => nomatch h) (Nat.le_of_ble_eq_true rfl) (Nat.le_of_ble_eq_true rfl)

set_option maxHeartbeats 4000000 in
set_option maxRecDepth 100000 in
theorem b_X0_needRange (l : Launch) (D : va_G) (cA : ClassId) (hl9 : l.stackTraces = false) (x y z : Int32) (h : x < y ∨ ¬ x ≤ z) : Bx l D cA [] yX0_needRange wsX0_needRange rbX0_needRange [.int x, .int y, .int z] eA := by
  refine Bx.of (cc := cX0_needRange) (maxL := 3) (ret := none) (by decide) rfl (Nat.le_of_ble_eq_true rfl) ?_
  intro p e s m args below meth c ls hx hb hts hown hml hK hP hl htab hlocks hZ
  have hown : s.vm.findClass RX0 = some m.cls := hown
  have hl : lv_has ls 3 [(0, .int x), (1, .int y), (2, .int z)] := hl
  obtain ⟨a9, hstr⟩ := hZ.2.2.2.1
  refine lv_iload_n hx hb dX0_needRange_0 rfl (lv_at hl 0 rfl) ?_
  refine lv_iload_n hx hb dX0_needRange_1 rfl (lv_at hl 1 rfl) ?_
  refine lv_icmp_lt (tgt := 10) hx hb dX0_needRange_2 (by decide) (fun c_2 => ?_) (fun c_2 => ?_)
  · skip
    exact vx_throwS1 (own := RX0) (cls := "java/lang/IllegalArgumentException") (text := "an argument is out of range") (names := ["java/lang/RuntimeException", "java/lang/Exception"]) (ik := 154) (is := 156) (ic := 158) (mc := 1) (ms := 6) (sa := a9) (A := fun q => s.heap.size ≤ q) hx hb hl9 hown (by decide +kernel) (by decide +kernel) (hts (.classLink RX0 154 "java/lang/IllegalArgumentException") (by decide +kernel)) (hts (.initialized "java/lang/IllegalArgumentException") (by decide +kernel)) hstr (vx_hat (B := [.castable "java/lang/IllegalArgumentException" "java/lang/IllegalArgumentException", .declares ⟨"java/lang/RuntimeException", "<init>", "(Ljava/lang/String;)V"⟩, .declares ⟨"java/lang/Exception", "<init>", "(Ljava/lang/String;)V"⟩, .declares ⟨"java/lang/Throwable", "<init>", "(Ljava/lang/String;)V"⟩]) (fun w hw => hts w (List.mem_cons_of_mem _ (List.mem_append_right _ hw))) (by decide +kernel) (vx_c (va_Nw.use rfl hZ.2.2.2.2.2.2.1) (vx_c (va_Nw.use rfl hZ.2.2.2.2.2.2.2.2.1) (vx_c (va_Nw.use rfl hZ.2.2.2.2.2.2.2.2.2.1) (vx_c (va_Nw.use rfl hZ.2.2.2.2.2.2.2.2.2.2) vx_n))))) (by decide +kernel) hZ.1 hZ.2.1 va_S.rf (hl.1.trans hml.symm) dX0_needRange_10 dX0_needRange_13 dX0_needRange_14 dX0_needRange_16 dX0_needRange_19 (fun x h => (htab x h).elim) (Nat.le_of_ble_eq_true rfl) (Nat.le_of_ble_eq_true rfl) (Nat.le_of_ble_eq_true rfl) (Nat.le_of_ble_eq_true rfl) hlocks (fun t hvm hz hk => ⟨rfl, hz, hk⟩) (fun _ h => nomatch h) (Nat.le_of_ble_eq_true rfl) (Nat.le_of_ble_eq_true rfl)
  · skip
    refine lv_iload_n hx hb dX0_needRange_5 rfl (lv_at hl 0 rfl) ?_
    refine lv_iload_n hx hb dX0_needRange_6 rfl (lv_at hl 2 rfl) ?_
    refine lv_icmp_le (tgt := 20) hx hb dX0_needRange_7 (by decide) (fun c_7 => (h.elim c_2 (fun h => h c_7) : False).elim) (fun c_7 => ?_)
    exact vx_throwS1 (own := RX0) (cls := "java/lang/IllegalArgumentException") (text := "an argument is out of range") (names := ["java/lang/RuntimeException", "java/lang/Exception"]) (ik := 154) (is := 156) (ic := 158) (mc := 1) (ms := 6) (sa := a9) (A := fun q => s.heap.size ≤ q) hx hb hl9 hown (by decide +kernel) (by decide +kernel) (hts (.classLink RX0 154 "java/lang/IllegalArgumentException") (by decide +kernel)) (hts (.initialized "java/lang/IllegalArgumentException") (by decide +kernel)) hstr (vx_hat (B := [.castable "java/lang/IllegalArgumentException" "java/lang/IllegalArgumentException", .declares ⟨"java/lang/RuntimeException", "<init>", "(Ljava/lang/String;)V"⟩, .declares ⟨"java/lang/Exception", "<init>", "(Ljava/lang/String;)V"⟩, .declares ⟨"java/lang/Throwable", "<init>", "(Ljava/lang/String;)V"⟩]) (fun w hw => hts w (List.mem_cons_of_mem _ (List.mem_append_right _ hw))) (by decide +kernel) (vx_c (va_Nw.use rfl hZ.2.2.2.2.2.2.1) (vx_c (va_Nw.use rfl hZ.2.2.2.2.2.2.2.2.1) (vx_c (va_Nw.use rfl hZ.2.2.2.2.2.2.2.2.2.1) (vx_c (va_Nw.use rfl hZ.2.2.2.2.2.2.2.2.2.2) vx_n))))) (by decide +kernel) hZ.1 hZ.2.1 va_S.rf (hl.1.trans hml.symm) dX0_needRange_10 dX0_needRange_13 dX0_needRange_14 dX0_needRange_16 dX0_needRange_19 (fun x h => (htab x h).elim) (Nat.le_of_ble_eq_true rfl) (Nat.le_of_ble_eq_true rfl) (Nat.le_of_ble_eq_true rfl) (Nat.le_of_ble_eq_true rfl) hlocks (fun t hvm hz hk => ⟨rfl, hz, hk⟩) (fun _ h => nomatch h) (Nat.le_of_ble_eq_true rfl) (Nat.le_of_ble_eq_true rfl)

set_option maxHeartbeats 4000000 in
set_option maxRecDepth 100000 in
theorem b_X0_needState (l : Launch) (D : va_G) (cA : ClassId) (hl9 : l.stackTraces = false) (x : Int32) (h : x = 0) : Bx l D cA [] yX0_needState wsX0_needState rbX0_needState [.int x] eS := by
  refine Bx.of (cc := cX0_needState) (maxL := 1) (ret := none) (by decide) rfl (Nat.le_of_ble_eq_true rfl) ?_
  intro p e s m args below meth c ls hx hb hts hown hml hK hP hl htab hlocks hZ
  have hown : s.vm.findClass RX0 = some m.cls := hown
  have hl : lv_has ls 1 [(0, .int x)] := hl
  obtain ⟨a9, hstr⟩ := hZ.2.2.2.2.1
  refine lv_iload_n hx hb dX0_needState_0 rfl (lv_at hl 0 rfl) ?_
  refine lv_if_ne (tgt := 14) hx hb dX0_needState_1 (by decide) (fun c_1 => (c_1 h : False).elim) (fun c_1 => ?_)
  exact vx_throwS1 (own := RX0) (cls := "java/lang/IllegalStateException") (text := "the shifts and holidays so far do not allow this") (names := ["java/lang/RuntimeException", "java/lang/Exception"]) (ik := 159) (is := 161) (ic := 163) (mc := 1) (ms := 6) (sa := a9) (A := fun q => s.heap.size ≤ q) hx hb hl9 hown (by decide +kernel) (by decide +kernel) (hts (.classLink RX0 159 "java/lang/IllegalStateException") (by decide +kernel)) (hts (.initialized "java/lang/IllegalStateException") (by decide +kernel)) hstr (vx_hat (B := [.castable "java/lang/IllegalStateException" "java/lang/IllegalStateException", .declares ⟨"java/lang/RuntimeException", "<init>", "(Ljava/lang/String;)V"⟩, .declares ⟨"java/lang/Exception", "<init>", "(Ljava/lang/String;)V"⟩, .declares ⟨"java/lang/Throwable", "<init>", "(Ljava/lang/String;)V"⟩]) (fun w hw => hts w (List.mem_cons_of_mem _ (List.mem_append_right _ hw))) (by decide +kernel) (vx_c (va_Nw.use rfl hZ.2.2.2.2.2.2.2.1) (vx_c (va_Nw.use rfl hZ.2.2.2.2.2.2.2.2.1) (vx_c (va_Nw.use rfl hZ.2.2.2.2.2.2.2.2.2.1) (vx_c (va_Nw.use rfl hZ.2.2.2.2.2.2.2.2.2.2) vx_n))))) (by decide +kernel) hZ.1 hZ.2.1 va_S.rf (hl.1.trans hml.symm) dX0_needState_4 dX0_needState_7 dX0_needState_8 dX0_needState_10 dX0_needState_13 (fun x h => (htab x h).elim) (Nat.le_of_ble_eq_true rfl) (Nat.le_of_ble_eq_true rfl) (Nat.le_of_ble_eq_true rfl) (Nat.le_of_ble_eq_true rfl) hlocks (fun t hvm hz hk => ⟨rfl, hz, hk⟩) (fun _ h => nomatch h) (Nat.le_of_ble_eq_true rfl) (Nat.le_of_ble_eq_true rfl)


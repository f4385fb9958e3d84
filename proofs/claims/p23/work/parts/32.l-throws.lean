/-! the law's own methods that call the class: the roads that throw, and setRates' own; by program (wip/p23/gen) -/

abbrev rmL_setRates : Room := { frames := 8, cells := 1, slots := 6, locals := 135 }

abbrev rmL_setMargins : Room := { frames := 8, cells := 1, slots := 6, locals := 136 }

abbrev rmL_setEqual : Room := { frames := 8, cells := 1, slots := 6, locals := 134 }

abbrev rmL_act : Room := { frames := 8, cells := 1, slots := 6, locals := 171 }

abbrev rmL_of : Room := { frames := 8, cells := 1, slots := 6, locals := 168 }

set_option maxHeartbeats 4000000 in
set_option maxRecDepth 100000 in
theorem c_L_setRates (l : Launch) (D : va_G) (cA : ClassId) (a : Nat → Nat) (F : Nat → Nat → Int32) (g : Nat → Int32) (N : Nat) (hW : wf F N) (z0 z1 z2 : Int32) (h1 : cI z0 4) (h2 : cR z1 1 10000) (h3 : cR z2 z1 10000) : Lq l D cA (S := Unit) (wX a cA F g) (fun _ => wX a cA (fUp (fUp F 0 z0.toNatClampNeg z1) 1 z0.toNatClampNeg z2) g) yL_setRates wsL_setRates rmL_setRates [.ref (a 16), .int z0, .int z1, .int z2] (fun r _ => r = 0) 0 1 6 := by
  refine Lq.ofH (cc := cL_setRates) (maxL := 5) (by decide) rfl (Nat.le_of_ble_eq_true rfl) ?_
  intro p e s m args below meth c ls A Q hx hb hts hown hml hK hP hD hA hS hl htab hZ hend
  have hown : s.vm.findClass RL = some m.cls := hown
  have hl : lv_has ls 5 [(0, .ref (a 16)), (1, .int z0), (2, .int z1), (3, .int z2)] := hl
  refine lv_aload_n hx hb dL_setRates_0 rfl (lv_at hl 0 rfl) ?_
  refine lv_iload_n hx hb dL_setRates_1 rfl (lv_at hl 1 rfl) ?_
  refine lv_iload_n hx hb dL_setRates_2 rfl (lv_at hl 2 rfl) ?_
  refine lv_iload_n hx hb dL_setRates_3 rfl (lv_at hl 3 rfl) ?_
  refine Wv.callV (rest := []) (q0 := 0) (ci := 0) (wr := []) [0, 1, 2, 3, 4, 5, 6, 7, 8, 9, 10, 11, 12, 13] [] ⟨hx, hb, hml, hown, hts⟩ (c_X0_setRates l D cA a F g N hW z0 z1 z2 h1 h2 h3) (cwV 3 hts gL_setRates_X0_setRates rfl rfl rfl (by decide +kernel) ⟨Nat.le_of_ble_eq_true rfl, Nat.le_of_ble_eq_true rfl⟩) hK hP hD hS hA rfl rfl (by decide) (by decide) (by decide) rfl rfl rfl rfl rfl hl.1 (Nat.le_of_ble_eq_true rfl) dL_setRates_4 ⟨Nat.zero_le _, Nat.zero_le _⟩ (fun u9 H locs hu9 hP hD hS => ?_)
  refine lv_iconst (v := 0) hx hb dL_setRates_7 (by decide) ?_
  refine W.widen (k := 1) (n := 6) (Nat.zero_le _) (Nat.zero_le _) ?_
  exact hend 8 ls _ () _ _ dL_setRates_8 hP hD hS hS.1 rfl

set_option maxHeartbeats 4000000 in
set_option maxRecDepth 100000 in
theorem b_L_setRates_1 (l : Launch) (hl9 : l.stackTraces = false) (D : va_G) (cA : ClassId) (a : Nat → Nat) (F : Nat → Nat → Int32) (g : Nat → Int32) (N : Nat) (hW : wf F N) (z0 z1 z2 : Int32) (hk : kRates z0 z1 z2 = 1) : Lq l D cA (S := Unit) (wX a cA F g) (fun _ => (wX a cA F g)) yL_setRates wsL_setRates rmL_setRates [.ref (a 16), .int z0, .int z1, .int z2] (fun r _ => r = (-1100000001)) 1 1 6 := by
  refine Lq.ofH (cc := cL_setRates) (maxL := 5) (by decide) rfl (Nat.le_of_ble_eq_true rfl) ?_
  intro p e s m args below meth c ls A Q hx hb hts hown hml hK hP hD hA hS hl htab hZ hend
  have hown : s.vm.findClass RL = some m.cls := hown
  have hl : lv_has ls 5 [(0, .ref (a 16)), (1, .int z0), (2, .int z1), (3, .int z2)] := hl
  have hb9 : Bx l D cA (wX a cA F g) yX0_setRates wsX0_setRates rbX0_setRates [.ref (a 16), .int z0, .int z1, .int z2] eI := by have h9 := b_X0_setRates l D cA hl9 a F g N hW z0 z1 z2 (by rw [hk]; decide); rw [hk] at h9; exact h9
  refine lv_aload_n hx hb dL_setRates_0 rfl (lv_at hl 0 rfl) ?_
  refine lv_iload_n hx hb dL_setRates_1 rfl (lv_at hl 1 rfl) ?_
  refine lv_iload_n hx hb dL_setRates_2 rfl (lv_at hl 2 rfl) ?_
  refine lv_iload_n hx hb dL_setRates_3 rfl (lv_at hl 3 rfl) ?_
  refine Bx.catch (E := eI) (name := "java/lang/IndexOutOfBoundsException") (own := RL) (w := (wX a cA F g)) (vx_runV (rest := []) ⟨hx, hb, hml, hown, hts⟩ (hb9 s.heap.size) (cwV 3 hts gL_setRates_X0_setRates rfl rfl rfl (by decide +kernel) ⟨Nat.le_of_ble_eq_true rfl, Nat.le_of_ble_eq_true rfl⟩) ⟨(PreBx (As := [.ref (a 16), .int z0, .int z1, .int z2]) rfl hK hP hZ.2.2.1).1, va_recv hK hP (ci := 0) (q0 := 0) rfl rfl, (PreBx (As := [.ref (a 16), .int z0, .int z1, .int z2]) rfl hK hP hZ.2.2.1).2⟩ rfl rfl hl.1 rfl (lv_room (Nat.le_of_ble_eq_true rfl)) dL_setRates_4 ⟨Nat.le_of_ble_eq_true rfl, Nat.le_of_ble_eq_true rfl⟩) (fun _ _ _ h => h) hown [] ⟨0, 8, 9, 15⟩ [⟨0, 8, 14, 18⟩] (htab.trans rfl) (fun z hz => nomatch hz) (by decide) (by decide) (hts (.classLink RL 15 "java/lang/IndexOutOfBoundsException") (by decide +kernel)) (va_Nw.use rfl hZ.2.2.1.2.2.2.2.2.1) hP hA (fun q9 H locs hP hS hG => ?_)
  refine lv_astore (lv' := [(4, .ref q9), (0, .ref (a 16)), (1, .int z0), (2, .int z1), (3, .int z2)]) hx hb dL_setRates_9 hl (by decide) rfl (fun ls hl => ?_)
  refine lv_ldc (own := RL) (index := 17) (v := -1100000001) hx hb hown (hts (.constant RL 17 (-1100000001)) (by decide +kernel)) dL_setRates_11 ?_
  exact hend 13 ls _ () _ _ dL_setRates_13 hP hD hS hG rfl

set_option maxHeartbeats 4000000 in
set_option maxRecDepth 100000 in
theorem b_L_setRates_2 (l : Launch) (hl9 : l.stackTraces = false) (D : va_G) (cA : ClassId) (a : Nat → Nat) (F : Nat → Nat → Int32) (g : Nat → Int32) (N : Nat) (hW : wf F N) (z0 z1 z2 : Int32) (hk : kRates z0 z1 z2 = 2) : Lq l D cA (S := Unit) (wX a cA F g) (fun _ => (wX a cA F g)) yL_setRates wsL_setRates rmL_setRates [.ref (a 16), .int z0, .int z1, .int z2] (fun r _ => r = (-1100000002)) 1 1 6 := by
  refine Lq.ofH (cc := cL_setRates) (maxL := 5) (by decide) rfl (Nat.le_of_ble_eq_true rfl) ?_
  intro p e s m args below meth c ls A Q hx hb hts hown hml hK hP hD hA hS hl htab hZ hend
  have hown : s.vm.findClass RL = some m.cls := hown
  have hl : lv_has ls 5 [(0, .ref (a 16)), (1, .int z0), (2, .int z1), (3, .int z2)] := hl
  have hb9 : Bx l D cA (wX a cA F g) yX0_setRates wsX0_setRates rbX0_setRates [.ref (a 16), .int z0, .int z1, .int z2] eA := by have h9 := b_X0_setRates l D cA hl9 a F g N hW z0 z1 z2 (by rw [hk]; decide); rw [hk] at h9; exact h9
  refine lv_aload_n hx hb dL_setRates_0 rfl (lv_at hl 0 rfl) ?_
  refine lv_iload_n hx hb dL_setRates_1 rfl (lv_at hl 1 rfl) ?_
  refine lv_iload_n hx hb dL_setRates_2 rfl (lv_at hl 2 rfl) ?_
  refine lv_iload_n hx hb dL_setRates_3 rfl (lv_at hl 3 rfl) ?_
  refine Bx.catch (E := eA) (name := "java/lang/IllegalArgumentException") (own := RL) (w := (wX a cA F g)) (vx_runV (rest := []) ⟨hx, hb, hml, hown, hts⟩ (hb9 s.heap.size) (cwV 3 hts gL_setRates_X0_setRates rfl rfl rfl (by decide +kernel) ⟨Nat.le_of_ble_eq_true rfl, Nat.le_of_ble_eq_true rfl⟩) ⟨(PreBx (As := [.ref (a 16), .int z0, .int z1, .int z2]) rfl hK hP hZ.2.2.1).1, va_recv hK hP (ci := 0) (q0 := 0) rfl rfl, (PreBx (As := [.ref (a 16), .int z0, .int z1, .int z2]) rfl hK hP hZ.2.2.1).2⟩ rfl rfl hl.1 rfl (lv_room (Nat.le_of_ble_eq_true rfl)) dL_setRates_4 ⟨Nat.le_of_ble_eq_true rfl, Nat.le_of_ble_eq_true rfl⟩) (fun _ _ _ h => h) hown [⟨0, 8, 9, 15⟩] ⟨0, 8, 14, 18⟩ [] (htab.trans rfl) (fun z hz => by rcases List.mem_singleton.mp hz with rfl; exact Or.inr ⟨by decide, "java/lang/IndexOutOfBoundsException", hts (.classLink RL 15 "java/lang/IndexOutOfBoundsException") (by decide +kernel), hZ.2.2.2.1⟩) (by decide) (by decide) (hts (.classLink RL 18 "java/lang/IllegalArgumentException") (by decide +kernel)) (va_Nw.use rfl hZ.2.2.1.2.2.2.2.2.2.1) hP hA (fun q9 H locs hP hS hG => ?_)
  refine lv_astore (lv' := [(4, .ref q9), (0, .ref (a 16)), (1, .int z0), (2, .int z1), (3, .int z2)]) hx hb dL_setRates_14 hl (by decide) rfl (fun ls hl => ?_)
  refine lv_ldc (own := RL) (index := 20) (v := -1100000002) hx hb hown (hts (.constant RL 20 (-1100000002)) (by decide +kernel)) dL_setRates_16 ?_
  exact hend 18 ls _ () _ _ dL_setRates_18 hP hD hS hG rfl

set_option maxHeartbeats 4000000 in
set_option maxRecDepth 100000 in
theorem b_L_setMargins_1 (l : Launch) (hl9 : l.stackTraces = false) (D : va_G) (cA : ClassId) (a : Nat → Nat) (F : Nat → Nat → Int32) (g : Nat → Int32) (N : Nat) (hW : wf F N) (z0 z1 z2 z3 : Int32) (hk : kMargins z0 z1 z2 z3 = 1) : Lq l D cA (S := Unit) (wX a cA F g) (fun _ => (wX a cA F g)) yL_setMargins wsL_setMargins rmL_setMargins [.ref (a 16), .int z0, .int z1, .int z2, .int z3] (fun r _ => r = (-1100000001)) 1 1 6 := by
  refine Lq.ofH (cc := cL_setMargins) (maxL := 6) (by decide) rfl (Nat.le_of_ble_eq_true rfl) ?_
  intro p e s m args below meth c ls A Q hx hb hts hown hml hK hP hD hA hS hl htab hZ hend
  have hown : s.vm.findClass RL = some m.cls := hown
  have hl : lv_has ls 6 [(0, .ref (a 16)), (1, .int z0), (2, .int z1), (3, .int z2), (4, .int z3)] := hl
  have hb9 : Bx l D cA (wX a cA F g) yX0_setMargins wsX0_setMargins rbX0_setMargins [.ref (a 16), .int z0, .int z1, .int z2, .int z3] eI := by have h9 := b_X0_setMargins l D cA hl9 a F g N hW z0 z1 z2 z3 (by rw [hk]; decide); rw [hk] at h9; exact h9
  refine lv_aload_n hx hb dL_setMargins_0 rfl (lv_at hl 0 rfl) ?_
  refine lv_iload_n hx hb dL_setMargins_1 rfl (lv_at hl 1 rfl) ?_
  refine lv_iload_n hx hb dL_setMargins_2 rfl (lv_at hl 2 rfl) ?_
  refine lv_iload_n hx hb dL_setMargins_3 rfl (lv_at hl 3 rfl) ?_
  refine lv_iload hx hb dL_setMargins_4 (lv_at hl 4 rfl) ?_
  refine Bx.catch (E := eI) (name := "java/lang/IndexOutOfBoundsException") (own := RL) (w := (wX a cA F g)) (vx_runV (rest := []) ⟨hx, hb, hml, hown, hts⟩ (hb9 s.heap.size) (cwV 4 hts gL_setMargins_X0_setMargins rfl rfl rfl (by decide +kernel) ⟨Nat.le_of_ble_eq_true rfl, Nat.le_of_ble_eq_true rfl⟩) ⟨(PreBx (As := [.ref (a 16), .int z0, .int z1, .int z2, .int z3]) rfl hK hP hZ.2.2.1).1, va_recv hK hP (ci := 0) (q0 := 0) rfl rfl, (PreBx (As := [.ref (a 16), .int z0, .int z1, .int z2, .int z3]) rfl hK hP hZ.2.2.1).2⟩ rfl rfl hl.1 rfl (lv_room (Nat.le_of_ble_eq_true rfl)) dL_setMargins_6 ⟨Nat.le_of_ble_eq_true rfl, Nat.le_of_ble_eq_true rfl⟩) (fun _ _ _ h => h) hown [] ⟨0, 10, 11, 15⟩ [⟨0, 10, 16, 18⟩] (htab.trans rfl) (fun z hz => nomatch hz) (by decide) (by decide) (hts (.classLink RL 15 "java/lang/IndexOutOfBoundsException") (by decide +kernel)) (va_Nw.use rfl hZ.2.2.1.2.2.2.2.2.1) hP hA (fun q9 H locs hP hS hG => ?_)
  refine lv_astore (lv' := [(5, .ref q9), (0, .ref (a 16)), (1, .int z0), (2, .int z1), (3, .int z2), (4, .int z3)]) hx hb dL_setMargins_11 hl (by decide) rfl (fun ls hl => ?_)
  refine lv_ldc (own := RL) (index := 17) (v := -1100000001) hx hb hown (hts (.constant RL 17 (-1100000001)) (by decide +kernel)) dL_setMargins_13 ?_
  exact hend 15 ls _ () _ _ dL_setMargins_15 hP hD hS hG rfl

set_option maxHeartbeats 4000000 in
set_option maxRecDepth 100000 in
theorem b_L_setMargins_2 (l : Launch) (hl9 : l.stackTraces = false) (D : va_G) (cA : ClassId) (a : Nat → Nat) (F : Nat → Nat → Int32) (g : Nat → Int32) (N : Nat) (hW : wf F N) (z0 z1 z2 z3 : Int32) (hk : kMargins z0 z1 z2 z3 = 2) : Lq l D cA (S := Unit) (wX a cA F g) (fun _ => (wX a cA F g)) yL_setMargins wsL_setMargins rmL_setMargins [.ref (a 16), .int z0, .int z1, .int z2, .int z3] (fun r _ => r = (-1100000002)) 1 1 6 := by
  refine Lq.ofH (cc := cL_setMargins) (maxL := 6) (by decide) rfl (Nat.le_of_ble_eq_true rfl) ?_
  intro p e s m args below meth c ls A Q hx hb hts hown hml hK hP hD hA hS hl htab hZ hend
  have hown : s.vm.findClass RL = some m.cls := hown
  have hl : lv_has ls 6 [(0, .ref (a 16)), (1, .int z0), (2, .int z1), (3, .int z2), (4, .int z3)] := hl
  have hb9 : Bx l D cA (wX a cA F g) yX0_setMargins wsX0_setMargins rbX0_setMargins [.ref (a 16), .int z0, .int z1, .int z2, .int z3] eA := by have h9 := b_X0_setMargins l D cA hl9 a F g N hW z0 z1 z2 z3 (by rw [hk]; decide); rw [hk] at h9; exact h9
  refine lv_aload_n hx hb dL_setMargins_0 rfl (lv_at hl 0 rfl) ?_
  refine lv_iload_n hx hb dL_setMargins_1 rfl (lv_at hl 1 rfl) ?_
  refine lv_iload_n hx hb dL_setMargins_2 rfl (lv_at hl 2 rfl) ?_
  refine lv_iload_n hx hb dL_setMargins_3 rfl (lv_at hl 3 rfl) ?_
  refine lv_iload hx hb dL_setMargins_4 (lv_at hl 4 rfl) ?_
  refine Bx.catch (E := eA) (name := "java/lang/IllegalArgumentException") (own := RL) (w := (wX a cA F g)) (vx_runV (rest := []) ⟨hx, hb, hml, hown, hts⟩ (hb9 s.heap.size) (cwV 4 hts gL_setMargins_X0_setMargins rfl rfl rfl (by decide +kernel) ⟨Nat.le_of_ble_eq_true rfl, Nat.le_of_ble_eq_true rfl⟩) ⟨(PreBx (As := [.ref (a 16), .int z0, .int z1, .int z2, .int z3]) rfl hK hP hZ.2.2.1).1, va_recv hK hP (ci := 0) (q0 := 0) rfl rfl, (PreBx (As := [.ref (a 16), .int z0, .int z1, .int z2, .int z3]) rfl hK hP hZ.2.2.1).2⟩ rfl rfl hl.1 rfl (lv_room (Nat.le_of_ble_eq_true rfl)) dL_setMargins_6 ⟨Nat.le_of_ble_eq_true rfl, Nat.le_of_ble_eq_true rfl⟩) (fun _ _ _ h => h) hown [⟨0, 10, 11, 15⟩] ⟨0, 10, 16, 18⟩ [] (htab.trans rfl) (fun z hz => by rcases List.mem_singleton.mp hz with rfl; exact Or.inr ⟨by decide, "java/lang/IndexOutOfBoundsException", hts (.classLink RL 15 "java/lang/IndexOutOfBoundsException") (by decide +kernel), hZ.2.2.2.1⟩) (by decide) (by decide) (hts (.classLink RL 18 "java/lang/IllegalArgumentException") (by decide +kernel)) (va_Nw.use rfl hZ.2.2.1.2.2.2.2.2.2.1) hP hA (fun q9 H locs hP hS hG => ?_)
  refine lv_astore (lv' := [(5, .ref q9), (0, .ref (a 16)), (1, .int z0), (2, .int z1), (3, .int z2), (4, .int z3)]) hx hb dL_setMargins_16 hl (by decide) rfl (fun ls hl => ?_)
  refine lv_ldc (own := RL) (index := 20) (v := -1100000002) hx hb hown (hts (.constant RL 20 (-1100000002)) (by decide +kernel)) dL_setMargins_18 ?_
  exact hend 20 ls _ () _ _ dL_setMargins_20 hP hD hS hG rfl

set_option maxHeartbeats 4000000 in
set_option maxRecDepth 100000 in
theorem b_L_setEqual_1 (l : Launch) (hl9 : l.stackTraces = false) (D : va_G) (cA : ClassId) (a : Nat → Nat) (F : Nat → Nat → Int32) (g : Nat → Int32) (N : Nat) (hW : wf F N) (z0 z1 : Int32) (hk : kEqual z0 z1 = 1) : Lq l D cA (S := Unit) (wX a cA F g) (fun _ => (wX a cA F g)) yL_setEqual wsL_setEqual rmL_setEqual [.ref (a 16), .int z0, .int z1] (fun r _ => r = (-1100000002)) 1 1 6 := by
  refine Lq.ofH (cc := cL_setEqual) (maxL := 4) (by decide) rfl (Nat.le_of_ble_eq_true rfl) ?_
  intro p e s m args below meth c ls A Q hx hb hts hown hml hK hP hD hA hS hl htab hZ hend
  have hown : s.vm.findClass RL = some m.cls := hown
  have hl : lv_has ls 4 [(0, .ref (a 16)), (1, .int z0), (2, .int z1)] := hl
  have hb9 : Bx l D cA (wX a cA F g) yX0_setEqual wsX0_setEqual rbX0_setEqual [.ref (a 16), .int z0, .int z1] eA := by have h9 := b_X0_setEqual l D cA hl9 a F g N hW z0 z1 (by rw [hk]; decide); rw [hk] at h9; exact h9
  refine lv_aload_n hx hb dL_setEqual_0 rfl (lv_at hl 0 rfl) ?_
  refine lv_iload_n hx hb dL_setEqual_1 rfl (lv_at hl 1 rfl) ?_
  refine lv_iload_n hx hb dL_setEqual_2 rfl (lv_at hl 2 rfl) ?_
  refine Bx.catch (E := eA) (name := "java/lang/IllegalArgumentException") (own := RL) (w := (wX a cA F g)) (vx_runV (rest := []) ⟨hx, hb, hml, hown, hts⟩ (hb9 s.heap.size) (cwV 2 hts gL_setEqual_X0_setEqual rfl rfl rfl (by decide +kernel) ⟨Nat.le_of_ble_eq_true rfl, Nat.le_of_ble_eq_true rfl⟩) ⟨(PreBx (As := [.ref (a 16), .int z0, .int z1]) rfl hK hP hZ.2.2.1).1, va_recv hK hP (ci := 0) (q0 := 0) rfl rfl, (PreBx (As := [.ref (a 16), .int z0, .int z1]) rfl hK hP hZ.2.2.1).2⟩ rfl rfl hl.1 rfl (lv_room (Nat.le_of_ble_eq_true rfl)) dL_setEqual_3 ⟨Nat.le_of_ble_eq_true rfl, Nat.le_of_ble_eq_true rfl⟩) (fun _ _ _ h => h) hown [] ⟨0, 7, 8, 18⟩ [] (htab.trans rfl) (fun z hz => nomatch hz) (by decide) (by decide) (hts (.classLink RL 18 "java/lang/IllegalArgumentException") (by decide +kernel)) (va_Nw.use rfl hZ.2.2.1.2.2.2.2.2.2.1) hP hA (fun q9 H locs hP hS hG => ?_)
  refine lv_astore_n (lv' := [(3, .ref q9), (0, .ref (a 16)), (1, .int z0), (2, .int z1)]) hx hb dL_setEqual_8 rfl hl (by decide) rfl (fun ls hl => ?_)
  refine lv_ldc (own := RL) (index := 20) (v := -1100000002) hx hb hown (hts (.constant RL 20 (-1100000002)) (by decide +kernel)) dL_setEqual_9 ?_
  exact hend 11 ls _ () _ _ dL_setEqual_11 hP hD hS hG rfl

set_option maxHeartbeats 4000000 in
set_option maxRecDepth 100000 in
theorem b_L_act0_1 (l : Launch) (hl9 : l.stackTraces = false) (D : va_G) (cA : ClassId) (a : Nat → Nat) (F : Nat → Nat → Int32) (g : Nat → Int32) (N : Nat) (hW : wf F N) (z0 z1 z2 z3 : Int32) (hk : kShift F N z0 z1 z2 z3 = 1) : Lq l D cA (S := Unit) (wX a cA F g) (fun _ => (wX a cA F g)) yL_act wsL_act rmL_act [.ref (a 16), .int 0, .int z0, .int z1, .int z2, .int z3] (fun r _ => r = (-1100000001)) 1 1 6 := by
  refine Lq.ofH (cc := cL_act) (maxL := 7) (by decide) rfl (Nat.le_of_ble_eq_true rfl) ?_
  intro p e s m args below meth c ls A Q hx hb hts hown hml hK hP hD hA hS hl htab hZ hend
  have hown : s.vm.findClass RL = some m.cls := hown
  have hl : lv_has ls 7 [(0, .ref (a 16)), (1, .int 0), (2, .int z0), (3, .int z1), (4, .int z2), (5, .int z3)] := hl
  have hb9 : Bx l D cA (wX a cA F g) yX0_shift wsX0_shift rbX0_shift [.ref (a 16), .int z0, .int z1, .int z2, .int z3] eI := by have h9 := b_X0_shift l D cA hl9 a F g N hW z0 z1 z2 z3 (by rw [hk]; decide); rw [hk] at h9; exact h9
  refine lv_iload_n hx hb dL_act_0 rfl (lv_at hl 1 rfl) ?_
  refine lv_if_ne (tgt := 17) hx hb dL_act_1 (by decide) (fun c_1 => (absurd (by decide) c_1 : False).elim) (fun c_1 => ?_)
  refine lv_aload_n hx hb dL_act_4 rfl (lv_at hl 0 rfl) ?_
  refine lv_iload_n hx hb dL_act_5 rfl (lv_at hl 2 rfl) ?_
  refine lv_iload_n hx hb dL_act_6 rfl (lv_at hl 3 rfl) ?_
  refine lv_iload hx hb dL_act_7 (lv_at hl 4 rfl) ?_
  refine lv_iload hx hb dL_act_9 (lv_at hl 5 rfl) ?_
  refine Bx.catch (E := eI) (name := "java/lang/IndexOutOfBoundsException") (own := RL) (w := (wX a cA F g)) (vx_runV (rest := []) ⟨hx, hb, hml, hown, hts⟩ (hb9 s.heap.size) (cwV 4 hts gL_act_X0_shift rfl rfl rfl (by decide +kernel) ⟨Nat.le_of_ble_eq_true rfl, Nat.le_of_ble_eq_true rfl⟩) ⟨(PreBx (As := [.ref (a 16), .int z0, .int z1, .int z2, .int z3]) rfl hK hP hZ.2.2.1).1, va_recv hK hP (ci := 0) (q0 := 0) rfl rfl, (PreBx (As := [.ref (a 16), .int z0, .int z1, .int z2, .int z3]) rfl hK hP hZ.2.2.1).2⟩ rfl rfl hl.1 rfl (lv_room (Nat.le_of_ble_eq_true rfl)) dL_act_11 ⟨Nat.le_of_ble_eq_true rfl, Nat.le_of_ble_eq_true rfl⟩) (fun _ _ _ h => h) hown [] ⟨0, 50, 51, 15⟩ [⟨0, 50, 56, 18⟩, ⟨0, 50, 61, 44⟩] (htab.trans rfl) (fun z hz => nomatch hz) (by decide) (by decide) (hts (.classLink RL 15 "java/lang/IndexOutOfBoundsException") (by decide +kernel)) (va_Nw.use rfl hZ.2.2.1.2.2.2.2.2.1) hP hA (fun q9 H locs hP hS hG => ?_)
  refine lv_astore (lv' := [(6, .ref q9), (0, .ref (a 16)), (1, .int 0), (2, .int z0), (3, .int z1), (4, .int z2), (5, .int z3)]) hx hb dL_act_51 hl (by decide) rfl (fun ls hl => ?_)
  refine lv_ldc (own := RL) (index := 17) (v := -1100000001) hx hb hown (hts (.constant RL 17 (-1100000001)) (by decide +kernel)) dL_act_53 ?_
  exact hend 55 ls _ () _ _ dL_act_55 hP hD hS hG rfl

set_option maxHeartbeats 4000000 in
set_option maxRecDepth 100000 in
theorem b_L_act0_2 (l : Launch) (hl9 : l.stackTraces = false) (D : va_G) (cA : ClassId) (a : Nat → Nat) (F : Nat → Nat → Int32) (g : Nat → Int32) (N : Nat) (hW : wf F N) (z0 z1 z2 z3 : Int32) (hk : kShift F N z0 z1 z2 z3 = 2) : Lq l D cA (S := Unit) (wX a cA F g) (fun _ => (wX a cA F g)) yL_act wsL_act rmL_act [.ref (a 16), .int 0, .int z0, .int z1, .int z2, .int z3] (fun r _ => r = (-1100000002)) 1 1 6 := by
  refine Lq.ofH (cc := cL_act) (maxL := 7) (by decide) rfl (Nat.le_of_ble_eq_true rfl) ?_
  intro p e s m args below meth c ls A Q hx hb hts hown hml hK hP hD hA hS hl htab hZ hend
  have hown : s.vm.findClass RL = some m.cls := hown
  have hl : lv_has ls 7 [(0, .ref (a 16)), (1, .int 0), (2, .int z0), (3, .int z1), (4, .int z2), (5, .int z3)] := hl
  have hb9 : Bx l D cA (wX a cA F g) yX0_shift wsX0_shift rbX0_shift [.ref (a 16), .int z0, .int z1, .int z2, .int z3] eA := by have h9 := b_X0_shift l D cA hl9 a F g N hW z0 z1 z2 z3 (by rw [hk]; decide); rw [hk] at h9; exact h9
  refine lv_iload_n hx hb dL_act_0 rfl (lv_at hl 1 rfl) ?_
  refine lv_if_ne (tgt := 17) hx hb dL_act_1 (by decide) (fun c_1 => (absurd (by decide) c_1 : False).elim) (fun c_1 => ?_)
  refine lv_aload_n hx hb dL_act_4 rfl (lv_at hl 0 rfl) ?_
  refine lv_iload_n hx hb dL_act_5 rfl (lv_at hl 2 rfl) ?_
  refine lv_iload_n hx hb dL_act_6 rfl (lv_at hl 3 rfl) ?_
  refine lv_iload hx hb dL_act_7 (lv_at hl 4 rfl) ?_
  refine lv_iload hx hb dL_act_9 (lv_at hl 5 rfl) ?_
  refine Bx.catch (E := eA) (name := "java/lang/IllegalArgumentException") (own := RL) (w := (wX a cA F g)) (vx_runV (rest := []) ⟨hx, hb, hml, hown, hts⟩ (hb9 s.heap.size) (cwV 4 hts gL_act_X0_shift rfl rfl rfl (by decide +kernel) ⟨Nat.le_of_ble_eq_true rfl, Nat.le_of_ble_eq_true rfl⟩) ⟨(PreBx (As := [.ref (a 16), .int z0, .int z1, .int z2, .int z3]) rfl hK hP hZ.2.2.1).1, va_recv hK hP (ci := 0) (q0 := 0) rfl rfl, (PreBx (As := [.ref (a 16), .int z0, .int z1, .int z2, .int z3]) rfl hK hP hZ.2.2.1).2⟩ rfl rfl hl.1 rfl (lv_room (Nat.le_of_ble_eq_true rfl)) dL_act_11 ⟨Nat.le_of_ble_eq_true rfl, Nat.le_of_ble_eq_true rfl⟩) (fun _ _ _ h => h) hown [⟨0, 50, 51, 15⟩] ⟨0, 50, 56, 18⟩ [⟨0, 50, 61, 44⟩] (htab.trans rfl) (fun z hz => by rcases List.mem_singleton.mp hz with rfl; exact Or.inr ⟨by decide, "java/lang/IndexOutOfBoundsException", hts (.classLink RL 15 "java/lang/IndexOutOfBoundsException") (by decide +kernel), hZ.2.2.2.1⟩) (by decide) (by decide) (hts (.classLink RL 18 "java/lang/IllegalArgumentException") (by decide +kernel)) (va_Nw.use rfl hZ.2.2.1.2.2.2.2.2.2.1) hP hA (fun q9 H locs hP hS hG => ?_)
  refine lv_astore (lv' := [(6, .ref q9), (0, .ref (a 16)), (1, .int 0), (2, .int z0), (3, .int z1), (4, .int z2), (5, .int z3)]) hx hb dL_act_56 hl (by decide) rfl (fun ls hl => ?_)
  refine lv_ldc (own := RL) (index := 20) (v := -1100000002) hx hb hown (hts (.constant RL 20 (-1100000002)) (by decide +kernel)) dL_act_58 ?_
  exact hend 60 ls _ () _ _ dL_act_60 hP hD hS hG rfl

set_option maxHeartbeats 4000000 in
set_option maxRecDepth 100000 in
theorem b_L_act1_1 (l : Launch) (hl9 : l.stackTraces = false) (D : va_G) (cA : ClassId) (a : Nat → Nat) (F : Nat → Nat → Int32) (g : Nat → Int32) (N : Nat) (hW : wf F N) (z0 z1 z2 z3 : Int32) (hk : kCorrect F N z0 z1 = 1) : Lq l D cA (S := Unit) (wX a cA F g) (fun _ => (wX a cA F g)) yL_act wsL_act rmL_act [.ref (a 16), .int 1, .int z0, .int z1, .int z2, .int z3] (fun r _ => r = (-1100000001)) 1 1 6 := by
  refine Lq.ofH (cc := cL_act) (maxL := 7) (by decide) rfl (Nat.le_of_ble_eq_true rfl) ?_
  intro p e s m args below meth c ls A Q hx hb hts hown hml hK hP hD hA hS hl htab hZ hend
  have hown : s.vm.findClass RL = some m.cls := hown
  have hl : lv_has ls 7 [(0, .ref (a 16)), (1, .int 1), (2, .int z0), (3, .int z1), (4, .int z2), (5, .int z3)] := hl
  have hb9 : Bx l D cA (wX a cA F g) yX0_correct wsX0_correct rbX0_correct [.ref (a 16), .int z0, .int z1] eI := by have h9 := b_X0_correct l D cA hl9 a F g N hW z0 z1 (by rw [hk]; decide); rw [hk] at h9; exact h9
  refine lv_iload_n hx hb dL_act_0 rfl (lv_at hl 1 rfl) ?_
  refine lv_if_ne (tgt := 17) hx hb dL_act_1 (by decide) (fun c_1 => ?_) (fun c_1 => (absurd c_1 (by decide) : False).elim)
  refine lv_iload_n hx hb dL_act_17 rfl (lv_at hl 1 rfl) ?_
  refine lv_iconst (v := 1) hx hb dL_act_18 (by decide) ?_
  refine lv_icmp_ne (tgt := 31) hx hb dL_act_19 (by decide) (fun c_19 => (absurd (by decide) c_19 : False).elim) (fun c_19 => ?_)
  refine lv_aload_n hx hb dL_act_22 rfl (lv_at hl 0 rfl) ?_
  refine lv_iload_n hx hb dL_act_23 rfl (lv_at hl 2 rfl) ?_
  refine lv_iload_n hx hb dL_act_24 rfl (lv_at hl 3 rfl) ?_
  refine Bx.catch (E := eI) (name := "java/lang/IndexOutOfBoundsException") (own := RL) (w := (wX a cA F g)) (vx_runV (rest := []) ⟨hx, hb, hml, hown, hts⟩ (hb9 s.heap.size) (cwV 2 hts gL_act_X0_correct rfl rfl rfl (by decide +kernel) ⟨Nat.le_of_ble_eq_true rfl, Nat.le_of_ble_eq_true rfl⟩) ⟨(PreBx (As := [.ref (a 16), .int z0, .int z1]) rfl hK hP hZ.2.2.1).1, va_recv hK hP (ci := 0) (q0 := 0) rfl rfl, (PreBx (As := [.ref (a 16), .int z0, .int z1]) rfl hK hP hZ.2.2.1).2⟩ rfl rfl hl.1 rfl (lv_room (Nat.le_of_ble_eq_true rfl)) dL_act_25 ⟨Nat.le_of_ble_eq_true rfl, Nat.le_of_ble_eq_true rfl⟩) (fun _ _ _ h => h) hown [] ⟨0, 50, 51, 15⟩ [⟨0, 50, 56, 18⟩, ⟨0, 50, 61, 44⟩] (htab.trans rfl) (fun z hz => nomatch hz) (by decide) (by decide) (hts (.classLink RL 15 "java/lang/IndexOutOfBoundsException") (by decide +kernel)) (va_Nw.use rfl hZ.2.2.1.2.2.2.2.2.1) hP hA (fun q9 H locs hP hS hG => ?_)
  refine lv_astore (lv' := [(6, .ref q9), (0, .ref (a 16)), (1, .int 1), (2, .int z0), (3, .int z1), (4, .int z2), (5, .int z3)]) hx hb dL_act_51 hl (by decide) rfl (fun ls hl => ?_)
  refine lv_ldc (own := RL) (index := 17) (v := -1100000001) hx hb hown (hts (.constant RL 17 (-1100000001)) (by decide +kernel)) dL_act_53 ?_
  exact hend 55 ls _ () _ _ dL_act_55 hP hD hS hG rfl

set_option maxHeartbeats 4000000 in
set_option maxRecDepth 100000 in
theorem b_L_act2_1 (l : Launch) (hl9 : l.stackTraces = false) (D : va_G) (cA : ClassId) (a : Nat → Nat) (F : Nat → Nat → Int32) (g : Nat → Int32) (N : Nat) (hW : wf F N) (z0 z1 z2 z3 : Int32) (hk : kWk z0 = 1) : Lq l D cA (S := Unit) (wX a cA F g) (fun _ => (wX a cA F g)) yL_act wsL_act rmL_act [.ref (a 16), .int 2, .int z0, .int z1, .int z2, .int z3] (fun r _ => r = (-1100000001)) 1 1 6 := by
  refine Lq.ofH (cc := cL_act) (maxL := 7) (by decide) rfl (Nat.le_of_ble_eq_true rfl) ?_
  intro p e s m args below meth c ls A Q hx hb hts hown hml hK hP hD hA hS hl htab hZ hend
  have hown : s.vm.findClass RL = some m.cls := hown
  have hl : lv_has ls 7 [(0, .ref (a 16)), (1, .int 2), (2, .int z0), (3, .int z1), (4, .int z2), (5, .int z3)] := hl
  have hb9 : Bx l D cA (wX a cA F g) yX0_run wsX0_run rbX0_run [.ref (a 16), .int z0] eI := by have h9 := b_X0_run l D cA hl9 a F g N hW z0 (by rw [hk]; decide); rw [hk] at h9; exact h9
  refine lv_iload_n hx hb dL_act_0 rfl (lv_at hl 1 rfl) ?_
  refine lv_if_ne (tgt := 17) hx hb dL_act_1 (by decide) (fun c_1 => ?_) (fun c_1 => (absurd c_1 (by decide) : False).elim)
  refine lv_iload_n hx hb dL_act_17 rfl (lv_at hl 1 rfl) ?_
  refine lv_iconst (v := 1) hx hb dL_act_18 (by decide) ?_
  refine lv_icmp_ne (tgt := 31) hx hb dL_act_19 (by decide) (fun c_19 => ?_) (fun c_19 => (absurd c_19 (by decide) : False).elim)
  refine lv_iload_n hx hb dL_act_31 rfl (lv_at hl 1 rfl) ?_
  refine lv_iconst (v := 2) hx hb dL_act_32 (by decide) ?_
  refine lv_icmp_ne (tgt := 44) hx hb dL_act_33 (by decide) (fun c_33 => (absurd (by decide) c_33 : False).elim) (fun c_33 => ?_)
  refine lv_aload_n hx hb dL_act_36 rfl (lv_at hl 0 rfl) ?_
  refine lv_iload_n hx hb dL_act_37 rfl (lv_at hl 2 rfl) ?_
  refine Bx.catch (E := eI) (name := "java/lang/IndexOutOfBoundsException") (own := RL) (w := (wX a cA F g)) (vx_runV (rest := []) ⟨hx, hb, hml, hown, hts⟩ (hb9 s.heap.size) (cwV 1 hts gL_act_X0_run rfl rfl rfl (by decide +kernel) ⟨Nat.le_of_ble_eq_true rfl, Nat.le_of_ble_eq_true rfl⟩) ⟨(PreBx (As := [.ref (a 16), .int z0]) rfl hK hP hZ.2.2.1).1, va_recv hK hP (ci := 0) (q0 := 0) rfl rfl, (PreBx (As := [.ref (a 16), .int z0]) rfl hK hP hZ.2.2.1).2⟩ rfl rfl hl.1 rfl (lv_room (Nat.le_of_ble_eq_true rfl)) dL_act_38 ⟨Nat.le_of_ble_eq_true rfl, Nat.le_of_ble_eq_true rfl⟩) (fun _ _ _ h => h) hown [] ⟨0, 50, 51, 15⟩ [⟨0, 50, 56, 18⟩, ⟨0, 50, 61, 44⟩] (htab.trans rfl) (fun z hz => nomatch hz) (by decide) (by decide) (hts (.classLink RL 15 "java/lang/IndexOutOfBoundsException") (by decide +kernel)) (va_Nw.use rfl hZ.2.2.1.2.2.2.2.2.1) hP hA (fun q9 H locs hP hS hG => ?_)
  refine lv_astore (lv' := [(6, .ref q9), (0, .ref (a 16)), (1, .int 2), (2, .int z0), (3, .int z1), (4, .int z2), (5, .int z3)]) hx hb dL_act_51 hl (by decide) rfl (fun ls hl => ?_)
  refine lv_ldc (own := RL) (index := 17) (v := -1100000001) hx hb hown (hts (.constant RL 17 (-1100000001)) (by decide +kernel)) dL_act_53 ?_
  exact hend 55 ls _ () _ _ dL_act_55 hP hD hS hG rfl

set_option maxHeartbeats 4000000 in
set_option maxRecDepth 100000 in
theorem b_L_act3_1 (l : Launch) (hl9 : l.stackTraces = false) (D : va_G) (cA : ClassId) (a : Nat → Nat) (F : Nat → Nat → Int32) (g : Nat → Int32) (N : Nat) (hW : wf F N) (z0 z1 z2 z3 : Int32) (hk : kTake F N z0 z1 = 1) : Lq l D cA (S := Unit) (wX a cA F g) (fun _ => (wX a cA F g)) yL_act wsL_act rmL_act [.ref (a 16), .int 3, .int z0, .int z1, .int z2, .int z3] (fun r _ => r = (-1100000001)) 1 1 6 := by
  refine Lq.ofH (cc := cL_act) (maxL := 7) (by decide) rfl (Nat.le_of_ble_eq_true rfl) ?_
  intro p e s m args below meth c ls A Q hx hb hts hown hml hK hP hD hA hS hl htab hZ hend
  have hown : s.vm.findClass RL = some m.cls := hown
  have hl : lv_has ls 7 [(0, .ref (a 16)), (1, .int 3), (2, .int z0), (3, .int z1), (4, .int z2), (5, .int z3)] := hl
  have hb9 : Bx l D cA (wX a cA F g) yX0_takeHoliday wsX0_takeHoliday rbX0_takeHoliday [.ref (a 16), .int z0, .int z1] eI := by have h9 := b_X0_takeHoliday l D cA hl9 a F g N hW z0 z1 (by rw [hk]; decide); rw [hk] at h9; exact h9
  refine lv_iload_n hx hb dL_act_0 rfl (lv_at hl 1 rfl) ?_
  refine lv_if_ne (tgt := 17) hx hb dL_act_1 (by decide) (fun c_1 => ?_) (fun c_1 => (absurd c_1 (by decide) : False).elim)
  refine lv_iload_n hx hb dL_act_17 rfl (lv_at hl 1 rfl) ?_
  refine lv_iconst (v := 1) hx hb dL_act_18 (by decide) ?_
  refine lv_icmp_ne (tgt := 31) hx hb dL_act_19 (by decide) (fun c_19 => ?_) (fun c_19 => (absurd c_19 (by decide) : False).elim)
  refine lv_iload_n hx hb dL_act_31 rfl (lv_at hl 1 rfl) ?_
  refine lv_iconst (v := 2) hx hb dL_act_32 (by decide) ?_
  refine lv_icmp_ne (tgt := 44) hx hb dL_act_33 (by decide) (fun c_33 => ?_) (fun c_33 => (absurd c_33 (by decide) : False).elim)
  refine lv_aload_n hx hb dL_act_44 rfl (lv_at hl 0 rfl) ?_
  refine lv_iload_n hx hb dL_act_45 rfl (lv_at hl 2 rfl) ?_
  refine lv_iload_n hx hb dL_act_46 rfl (lv_at hl 3 rfl) ?_
  refine Bx.catch (E := eI) (name := "java/lang/IndexOutOfBoundsException") (own := RL) (w := (wX a cA F g)) (vx_runV (rest := []) ⟨hx, hb, hml, hown, hts⟩ (hb9 s.heap.size) (cwV 2 hts gL_act_X0_takeHoliday rfl rfl rfl (by decide +kernel) ⟨Nat.le_of_ble_eq_true rfl, Nat.le_of_ble_eq_true rfl⟩) ⟨(PreBx (As := [.ref (a 16), .int z0, .int z1]) rfl hK hP hZ.2.2.1).1, va_recv hK hP (ci := 0) (q0 := 0) rfl rfl, (PreBx (As := [.ref (a 16), .int z0, .int z1]) rfl hK hP hZ.2.2.1).2⟩ rfl rfl hl.1 rfl (lv_room (Nat.le_of_ble_eq_true rfl)) dL_act_47 ⟨Nat.le_of_ble_eq_true rfl, Nat.le_of_ble_eq_true rfl⟩) (fun _ _ _ h => h) hown [] ⟨0, 50, 51, 15⟩ [⟨0, 50, 56, 18⟩, ⟨0, 50, 61, 44⟩] (htab.trans rfl) (fun z hz => nomatch hz) (by decide) (by decide) (hts (.classLink RL 15 "java/lang/IndexOutOfBoundsException") (by decide +kernel)) (va_Nw.use rfl hZ.2.2.1.2.2.2.2.2.1) hP hA (fun q9 H locs hP hS hG => ?_)
  refine lv_astore (lv' := [(6, .ref q9), (0, .ref (a 16)), (1, .int 3), (2, .int z0), (3, .int z1), (4, .int z2), (5, .int z3)]) hx hb dL_act_51 hl (by decide) rfl (fun ls hl => ?_)
  refine lv_ldc (own := RL) (index := 17) (v := -1100000001) hx hb hown (hts (.constant RL 17 (-1100000001)) (by decide +kernel)) dL_act_53 ?_
  exact hend 55 ls _ () _ _ dL_act_55 hP hD hS hG rfl

set_option maxHeartbeats 4000000 in
set_option maxRecDepth 100000 in
theorem b_L_act3_2 (l : Launch) (hl9 : l.stackTraces = false) (D : va_G) (cA : ClassId) (a : Nat → Nat) (F : Nat → Nat → Int32) (g : Nat → Int32) (N : Nat) (hW : wf F N) (z0 z1 z2 z3 : Int32) (hk : kTake F N z0 z1 = 2) : Lq l D cA (S := Unit) (wX a cA F g) (fun _ => (wX a cA F g)) yL_act wsL_act rmL_act [.ref (a 16), .int 3, .int z0, .int z1, .int z2, .int z3] (fun r _ => r = (-1100000002)) 1 1 6 := by
  refine Lq.ofH (cc := cL_act) (maxL := 7) (by decide) rfl (Nat.le_of_ble_eq_true rfl) ?_
  intro p e s m args below meth c ls A Q hx hb hts hown hml hK hP hD hA hS hl htab hZ hend
  have hown : s.vm.findClass RL = some m.cls := hown
  have hl : lv_has ls 7 [(0, .ref (a 16)), (1, .int 3), (2, .int z0), (3, .int z1), (4, .int z2), (5, .int z3)] := hl
  have hb9 : Bx l D cA (wX a cA F g) yX0_takeHoliday wsX0_takeHoliday rbX0_takeHoliday [.ref (a 16), .int z0, .int z1] eA := by have h9 := b_X0_takeHoliday l D cA hl9 a F g N hW z0 z1 (by rw [hk]; decide); rw [hk] at h9; exact h9
  refine lv_iload_n hx hb dL_act_0 rfl (lv_at hl 1 rfl) ?_
  refine lv_if_ne (tgt := 17) hx hb dL_act_1 (by decide) (fun c_1 => ?_) (fun c_1 => (absurd c_1 (by decide) : False).elim)
  refine lv_iload_n hx hb dL_act_17 rfl (lv_at hl 1 rfl) ?_
  refine lv_iconst (v := 1) hx hb dL_act_18 (by decide) ?_
  refine lv_icmp_ne (tgt := 31) hx hb dL_act_19 (by decide) (fun c_19 => ?_) (fun c_19 => (absurd c_19 (by decide) : False).elim)
  refine lv_iload_n hx hb dL_act_31 rfl (lv_at hl 1 rfl) ?_
  refine lv_iconst (v := 2) hx hb dL_act_32 (by decide) ?_
  refine lv_icmp_ne (tgt := 44) hx hb dL_act_33 (by decide) (fun c_33 => ?_) (fun c_33 => (absurd c_33 (by decide) : False).elim)
  refine lv_aload_n hx hb dL_act_44 rfl (lv_at hl 0 rfl) ?_
  refine lv_iload_n hx hb dL_act_45 rfl (lv_at hl 2 rfl) ?_
  refine lv_iload_n hx hb dL_act_46 rfl (lv_at hl 3 rfl) ?_
  refine Bx.catch (E := eA) (name := "java/lang/IllegalArgumentException") (own := RL) (w := (wX a cA F g)) (vx_runV (rest := []) ⟨hx, hb, hml, hown, hts⟩ (hb9 s.heap.size) (cwV 2 hts gL_act_X0_takeHoliday rfl rfl rfl (by decide +kernel) ⟨Nat.le_of_ble_eq_true rfl, Nat.le_of_ble_eq_true rfl⟩) ⟨(PreBx (As := [.ref (a 16), .int z0, .int z1]) rfl hK hP hZ.2.2.1).1, va_recv hK hP (ci := 0) (q0 := 0) rfl rfl, (PreBx (As := [.ref (a 16), .int z0, .int z1]) rfl hK hP hZ.2.2.1).2⟩ rfl rfl hl.1 rfl (lv_room (Nat.le_of_ble_eq_true rfl)) dL_act_47 ⟨Nat.le_of_ble_eq_true rfl, Nat.le_of_ble_eq_true rfl⟩) (fun _ _ _ h => h) hown [⟨0, 50, 51, 15⟩] ⟨0, 50, 56, 18⟩ [⟨0, 50, 61, 44⟩] (htab.trans rfl) (fun z hz => by rcases List.mem_singleton.mp hz with rfl; exact Or.inr ⟨by decide, "java/lang/IndexOutOfBoundsException", hts (.classLink RL 15 "java/lang/IndexOutOfBoundsException") (by decide +kernel), hZ.2.2.2.1⟩) (by decide) (by decide) (hts (.classLink RL 18 "java/lang/IllegalArgumentException") (by decide +kernel)) (va_Nw.use rfl hZ.2.2.1.2.2.2.2.2.2.1) hP hA (fun q9 H locs hP hS hG => ?_)
  refine lv_astore (lv' := [(6, .ref q9), (0, .ref (a 16)), (1, .int 3), (2, .int z0), (3, .int z1), (4, .int z2), (5, .int z3)]) hx hb dL_act_56 hl (by decide) rfl (fun ls hl => ?_)
  refine lv_ldc (own := RL) (index := 20) (v := -1100000002) hx hb hown (hts (.constant RL 20 (-1100000002)) (by decide +kernel)) dL_act_58 ?_
  exact hend 60 ls _ () _ _ dL_act_60 hP hD hS hG rfl

set_option maxHeartbeats 4000000 in
set_option maxRecDepth 100000 in
theorem b_L_act3_3 (l : Launch) (hl9 : l.stackTraces = false) (D : va_G) (cA : ClassId) (a : Nat → Nat) (F : Nat → Nat → Int32) (g : Nat → Int32) (N : Nat) (hW : wf F N) (z0 z1 z2 z3 : Int32) (hk : kTake F N z0 z1 = 3) : Lq l D cA (S := Unit) (wX a cA F g) (fun _ => (wX a cA F g)) yL_act wsL_act rmL_act [.ref (a 16), .int 3, .int z0, .int z1, .int z2, .int z3] (fun r _ => r = (-1100000003)) 1 1 6 := by
  refine Lq.ofH (cc := cL_act) (maxL := 7) (by decide) rfl (Nat.le_of_ble_eq_true rfl) ?_
  intro p e s m args below meth c ls A Q hx hb hts hown hml hK hP hD hA hS hl htab hZ hend
  have hown : s.vm.findClass RL = some m.cls := hown
  have hl : lv_has ls 7 [(0, .ref (a 16)), (1, .int 3), (2, .int z0), (3, .int z1), (4, .int z2), (5, .int z3)] := hl
  have hb9 : Bx l D cA (wX a cA F g) yX0_takeHoliday wsX0_takeHoliday rbX0_takeHoliday [.ref (a 16), .int z0, .int z1] eS := by have h9 := b_X0_takeHoliday l D cA hl9 a F g N hW z0 z1 (by rw [hk]; decide); rw [hk] at h9; exact h9
  refine lv_iload_n hx hb dL_act_0 rfl (lv_at hl 1 rfl) ?_
  refine lv_if_ne (tgt := 17) hx hb dL_act_1 (by decide) (fun c_1 => ?_) (fun c_1 => (absurd c_1 (by decide) : False).elim)
  refine lv_iload_n hx hb dL_act_17 rfl (lv_at hl 1 rfl) ?_
  refine lv_iconst (v := 1) hx hb dL_act_18 (by decide) ?_
  refine lv_icmp_ne (tgt := 31) hx hb dL_act_19 (by decide) (fun c_19 => ?_) (fun c_19 => (absurd c_19 (by decide) : False).elim)
  refine lv_iload_n hx hb dL_act_31 rfl (lv_at hl 1 rfl) ?_
  refine lv_iconst (v := 2) hx hb dL_act_32 (by decide) ?_
  refine lv_icmp_ne (tgt := 44) hx hb dL_act_33 (by decide) (fun c_33 => ?_) (fun c_33 => (absurd c_33 (by decide) : False).elim)
  refine lv_aload_n hx hb dL_act_44 rfl (lv_at hl 0 rfl) ?_
  refine lv_iload_n hx hb dL_act_45 rfl (lv_at hl 2 rfl) ?_
  refine lv_iload_n hx hb dL_act_46 rfl (lv_at hl 3 rfl) ?_
  refine Bx.catch (E := eS) (name := "java/lang/IllegalStateException") (own := RL) (w := (wX a cA F g)) (vx_runV (rest := []) ⟨hx, hb, hml, hown, hts⟩ (hb9 s.heap.size) (cwV 2 hts gL_act_X0_takeHoliday rfl rfl rfl (by decide +kernel) ⟨Nat.le_of_ble_eq_true rfl, Nat.le_of_ble_eq_true rfl⟩) ⟨(PreBx (As := [.ref (a 16), .int z0, .int z1]) rfl hK hP hZ.2.2.1).1, va_recv hK hP (ci := 0) (q0 := 0) rfl rfl, (PreBx (As := [.ref (a 16), .int z0, .int z1]) rfl hK hP hZ.2.2.1).2⟩ rfl rfl hl.1 rfl (lv_room (Nat.le_of_ble_eq_true rfl)) dL_act_47 ⟨Nat.le_of_ble_eq_true rfl, Nat.le_of_ble_eq_true rfl⟩) (fun _ _ _ h => h) hown [⟨0, 50, 51, 15⟩, ⟨0, 50, 56, 18⟩] ⟨0, 50, 61, 44⟩ [] (htab.trans rfl) (fun z hz => (List.mem_cons.mp hz).elim (fun h9 => by subst h9; exact Or.inr ⟨by decide, "java/lang/IndexOutOfBoundsException", hts (.classLink RL 15 "java/lang/IndexOutOfBoundsException") (by decide +kernel), hZ.2.2.2.2.1⟩) (fun h9 => by rcases List.mem_singleton.mp h9 with rfl; exact Or.inr ⟨by decide, "java/lang/IllegalArgumentException", hts (.classLink RL 18 "java/lang/IllegalArgumentException") (by decide +kernel), hZ.2.2.2.2.2⟩)) (by decide) (by decide) (hts (.classLink RL 44 "java/lang/IllegalStateException") (by decide +kernel)) (va_Nw.use rfl hZ.2.2.1.2.2.2.2.2.2.2.1) hP hA (fun q9 H locs hP hS hG => ?_)
  refine lv_astore (lv' := [(6, .ref q9), (0, .ref (a 16)), (1, .int 3), (2, .int z0), (3, .int z1), (4, .int z2), (5, .int z3)]) hx hb dL_act_61 hl (by decide) rfl (fun ls hl => ?_)
  refine lv_ldc (own := RL) (index := 46) (v := -1100000003) hx hb hown (hts (.constant RL 46 (-1100000003)) (by decide +kernel)) dL_act_63 ?_
  exact hend 65 ls _ () _ _ dL_act_65 hP hD hS hG rfl

set_option maxHeartbeats 4000000 in
set_option maxRecDepth 100000 in
theorem b_L_of0 (l : Launch) (hl9 : l.stackTraces = false) (D : va_G) (cA : ClassId) (a : Nat → Nat) (F : Nat → Nat → Int32) (g : Nat → Int32) (N : Nat) (hW : wf F N) (z0 z1 z2 : Int32) (hk : kWW z0 z1 = 1) : Lq l D cA (S := Unit) (wX a cA F g) (fun _ => (wX a cA F g)) yL_of wsL_of rmL_of [.ref (a 16), .int 0, .int z0, .int z1, .int z2] (fun r _ => r = (-1100000001)) 1 1 6 := by
  refine Lq.ofH (cc := cL_of) (maxL := 6) (by decide) rfl (Nat.le_of_ble_eq_true rfl) ?_
  intro p e s m args below meth c ls A Q hx hb hts hown hml hK hP hD hA hS hl htab hZ hend
  have hown : s.vm.findClass RL = some m.cls := hown
  have hl : lv_has ls 6 [(0, .ref (a 16)), (1, .int 0), (2, .int z0), (3, .int z1), (4, .int z2)] := hl
  have hb9 : Bx l D cA (wX a cA F g) yX0_hours wsX0_hours rbX0_hours [.ref (a 16), .int z0, .int z1] eI := by have h9 := b_X0_hours l D cA hl9 a F g N hW z0 z1 (by rw [hk]; decide); rw [hk] at h9; exact h9
  refine lv_iload_n hx hb dL_of_0 rfl (lv_at hl 1 rfl) ?_
  refine lv_if_ne (tgt := 13) hx hb dL_of_1 (by decide) (fun c_1 => (absurd (by decide) c_1 : False).elim) (fun c_1 => ?_)
  refine lv_aload_n hx hb dL_of_4 rfl (lv_at hl 0 rfl) ?_
  refine lv_iload_n hx hb dL_of_5 rfl (lv_at hl 2 rfl) ?_
  refine lv_iload_n hx hb dL_of_6 rfl (lv_at hl 3 rfl) ?_
  refine Bx.catch (E := eI) (name := "java/lang/IndexOutOfBoundsException") (own := RL) (w := (wX a cA F g)) (vx_runV (rest := []) ⟨hx, hb, hml, hown, hts⟩ (hb9 s.heap.size) (cwV 2 hts gL_of_X0_hours rfl rfl rfl (by decide +kernel) ⟨Nat.le_of_ble_eq_true rfl, Nat.le_of_ble_eq_true rfl⟩) ⟨(PreBx (As := [.ref (a 16), .int z0, .int z1]) rfl hK hP hZ.2.2.1).1, va_recv hK hP (ci := 0) (q0 := 0) rfl rfl, (PreBx (As := [.ref (a 16), .int z0, .int z1]) rfl hK hP hZ.2.2.1).2⟩ rfl rfl hl.1 rfl (lv_room (Nat.le_of_ble_eq_true rfl)) dL_of_7 ⟨Nat.le_of_ble_eq_true rfl, Nat.le_of_ble_eq_true rfl⟩) (fun _ _ _ h => h) hown [] ⟨0, 170, 171, 15⟩ [] (htab.trans rfl) (fun z hz => nomatch hz) (by decide) (by decide) (hts (.classLink RL 15 "java/lang/IndexOutOfBoundsException") (by decide +kernel)) (va_Nw.use rfl hZ.2.2.1.2.2.2.2.2.1) hP hA (fun q9 H locs hP hS hG => ?_)
  refine lv_astore (lv' := [(5, .ref q9), (0, .ref (a 16)), (1, .int 0), (2, .int z0), (3, .int z1), (4, .int z2)]) hx hb dL_of_171 hl (by decide) rfl (fun ls hl => ?_)
  refine lv_ldc (own := RL) (index := 17) (v := -1100000001) hx hb hown (hts (.constant RL 17 (-1100000001)) (by decide +kernel)) dL_of_173 ?_
  exact hend 175 ls _ () _ _ dL_of_175 hP hD hS hG rfl

set_option maxHeartbeats 4000000 in
set_option maxRecDepth 100000 in
theorem b_L_of1 (l : Launch) (hl9 : l.stackTraces = false) (D : va_G) (cA : ClassId) (a : Nat → Nat) (F : Nat → Nat → Int32) (g : Nat → Int32) (N : Nat) (hW : wf F N) (z0 z1 z2 : Int32) (hk : kSh F z0 = 1) : Lq l D cA (S := Unit) (wX a cA F g) (fun _ => (wX a cA F g)) yL_of wsL_of rmL_of [.ref (a 16), .int 1, .int z0, .int z1, .int z2] (fun r _ => r = (-1100000001)) 1 1 6 := by
  refine Lq.ofH (cc := cL_of) (maxL := 6) (by decide) rfl (Nat.le_of_ble_eq_true rfl) ?_
  intro p e s m args below meth c ls A Q hx hb hts hown hml hK hP hD hA hS hl htab hZ hend
  have hown : s.vm.findClass RL = some m.cls := hown
  have hl : lv_has ls 6 [(0, .ref (a 16)), (1, .int 1), (2, .int z0), (3, .int z1), (4, .int z2)] := hl
  have hb9 : Bx l D cA (wX a cA F g) yX0_overtime wsX0_overtime rbX0_overtime [.ref (a 16), .int z0] eI := by have h9 := b_X0_overtime l D cA hl9 a F g N hW z0 (by rw [hk]; decide); rw [hk] at h9; exact h9
  refine lv_iload_n hx hb dL_of_0 rfl (lv_at hl 1 rfl) ?_
  refine lv_if_ne (tgt := 13) hx hb dL_of_1 (by decide) (fun c_1 => ?_) (fun c_1 => (absurd c_1 (by decide) : False).elim)
  refine lv_iload_n hx hb dL_of_13 rfl (lv_at hl 1 rfl) ?_
  refine lv_iconst (v := 1) hx hb dL_of_14 (by decide) ?_
  refine lv_icmp_ne (tgt := 26) hx hb dL_of_15 (by decide) (fun c_15 => (absurd (by decide) c_15 : False).elim) (fun c_15 => ?_)
  refine lv_aload_n hx hb dL_of_18 rfl (lv_at hl 0 rfl) ?_
  refine lv_iload_n hx hb dL_of_19 rfl (lv_at hl 2 rfl) ?_
  refine Bx.catch (E := eI) (name := "java/lang/IndexOutOfBoundsException") (own := RL) (w := (wX a cA F g)) (vx_runV (rest := []) ⟨hx, hb, hml, hown, hts⟩ (hb9 s.heap.size) (cwV 1 hts gL_of_X0_overtime rfl rfl rfl (by decide +kernel) ⟨Nat.le_of_ble_eq_true rfl, Nat.le_of_ble_eq_true rfl⟩) ⟨(PreBx (As := [.ref (a 16), .int z0]) rfl hK hP hZ.2.2.1).1, va_recv hK hP (ci := 0) (q0 := 0) rfl rfl, (PreBx (As := [.ref (a 16), .int z0]) rfl hK hP hZ.2.2.1).2⟩ rfl rfl hl.1 rfl (lv_room (Nat.le_of_ble_eq_true rfl)) dL_of_20 ⟨Nat.le_of_ble_eq_true rfl, Nat.le_of_ble_eq_true rfl⟩) (fun _ _ _ h => h) hown [] ⟨0, 170, 171, 15⟩ [] (htab.trans rfl) (fun z hz => nomatch hz) (by decide) (by decide) (hts (.classLink RL 15 "java/lang/IndexOutOfBoundsException") (by decide +kernel)) (va_Nw.use rfl hZ.2.2.1.2.2.2.2.2.1) hP hA (fun q9 H locs hP hS hG => ?_)
  refine lv_astore (lv' := [(5, .ref q9), (0, .ref (a 16)), (1, .int 1), (2, .int z0), (3, .int z1), (4, .int z2)]) hx hb dL_of_171 hl (by decide) rfl (fun ls hl => ?_)
  refine lv_ldc (own := RL) (index := 17) (v := -1100000001) hx hb hown (hts (.constant RL 17 (-1100000001)) (by decide +kernel)) dL_of_173 ?_
  exact hend 175 ls _ () _ _ dL_of_175 hP hD hS hG rfl

set_option maxHeartbeats 4000000 in
set_option maxRecDepth 100000 in
theorem b_L_of2 (l : Launch) (hl9 : l.stackTraces = false) (D : va_G) (cA : ClassId) (a : Nat → Nat) (F : Nat → Nat → Int32) (g : Nat → Int32) (N : Nat) (hW : wf F N) (z0 z1 z2 : Int32) (hk : kWSW z0 z1 z2 = 1) : Lq l D cA (S := Unit) (wX a cA F g) (fun _ => (wX a cA F g)) yL_of wsL_of rmL_of [.ref (a 16), .int 2, .int z0, .int z1, .int z2] (fun r _ => r = (-1100000001)) 1 1 6 := by
  refine Lq.ofH (cc := cL_of) (maxL := 6) (by decide) rfl (Nat.le_of_ble_eq_true rfl) ?_
  intro p e s m args below meth c ls A Q hx hb hts hown hml hK hP hD hA hS hl htab hZ hend
  have hown : s.vm.findClass RL = some m.cls := hown
  have hl : lv_has ls 6 [(0, .ref (a 16)), (1, .int 2), (2, .int z0), (3, .int z1), (4, .int z2)] := hl
  have hb9 : Bx l D cA (wX a cA F g) yX0_hasEqual wsX0_hasEqual rbX0_hasEqual [.ref (a 16), .int z0, .int z1, .int z2] eI := by have h9 := b_X0_hasEqual l D cA hl9 a F g N hW z0 z1 z2 (by rw [hk]; decide); rw [hk] at h9; exact h9
  refine lv_iload_n hx hb dL_of_0 rfl (lv_at hl 1 rfl) ?_
  refine lv_if_ne (tgt := 13) hx hb dL_of_1 (by decide) (fun c_1 => ?_) (fun c_1 => (absurd c_1 (by decide) : False).elim)
  refine lv_iload_n hx hb dL_of_13 rfl (lv_at hl 1 rfl) ?_
  refine lv_iconst (v := 1) hx hb dL_of_14 (by decide) ?_
  refine lv_icmp_ne (tgt := 26) hx hb dL_of_15 (by decide) (fun c_15 => ?_) (fun c_15 => (absurd c_15 (by decide) : False).elim)
  refine lv_iload_n hx hb dL_of_26 rfl (lv_at hl 1 rfl) ?_
  refine lv_iconst (v := 2) hx hb dL_of_27 (by decide) ?_
  refine lv_icmp_ne (tgt := 50) hx hb dL_of_28 (by decide) (fun c_28 => (absurd (by decide) c_28 : False).elim) (fun c_28 => ?_)
  refine lv_aload_n hx hb dL_of_31 rfl (lv_at hl 0 rfl) ?_
  refine lv_iload_n hx hb dL_of_32 rfl (lv_at hl 2 rfl) ?_
  refine lv_iload_n hx hb dL_of_33 rfl (lv_at hl 3 rfl) ?_
  refine lv_iload hx hb dL_of_34 (lv_at hl 4 rfl) ?_
  refine Bx.catch (E := eI) (name := "java/lang/IndexOutOfBoundsException") (own := RL) (w := (wX a cA F g)) (vx_runV (rest := []) ⟨hx, hb, hml, hown, hts⟩ (hb9 s.heap.size) (cwV 3 hts gL_of_X0_hasEqual rfl rfl rfl (by decide +kernel) ⟨Nat.le_of_ble_eq_true rfl, Nat.le_of_ble_eq_true rfl⟩) ⟨(PreBx (As := [.ref (a 16), .int z0, .int z1, .int z2]) rfl hK hP hZ.2.2.1).1, va_recv hK hP (ci := 0) (q0 := 0) rfl rfl, (PreBx (As := [.ref (a 16), .int z0, .int z1, .int z2]) rfl hK hP hZ.2.2.1).2⟩ rfl rfl hl.1 rfl (lv_room (Nat.le_of_ble_eq_true rfl)) dL_of_36 ⟨Nat.le_of_ble_eq_true rfl, Nat.le_of_ble_eq_true rfl⟩) (fun _ _ _ h => h) hown [] ⟨0, 170, 171, 15⟩ [] (htab.trans rfl) (fun z hz => nomatch hz) (by decide) (by decide) (hts (.classLink RL 15 "java/lang/IndexOutOfBoundsException") (by decide +kernel)) (va_Nw.use rfl hZ.2.2.1.2.2.2.2.2.1) hP hA (fun q9 H locs hP hS hG => ?_)
  refine lv_astore (lv' := [(5, .ref q9), (0, .ref (a 16)), (1, .int 2), (2, .int z0), (3, .int z1), (4, .int z2)]) hx hb dL_of_171 hl (by decide) rfl (fun ls hl => ?_)
  refine lv_ldc (own := RL) (index := 17) (v := -1100000001) hx hb hown (hts (.constant RL 17 (-1100000001)) (by decide +kernel)) dL_of_173 ?_
  exact hend 175 ls _ () _ _ dL_of_175 hP hD hS hG rfl

set_option maxHeartbeats 4000000 in
set_option maxRecDepth 100000 in
theorem b_L_of3 (l : Launch) (hl9 : l.stackTraces = false) (D : va_G) (cA : ClassId) (a : Nat → Nat) (F : Nat → Nat → Int32) (g : Nat → Int32) (N : Nat) (hW : wf F N) (z0 z1 z2 : Int32) (hk : kSh F z0 = 1) : Lq l D cA (S := Unit) (wX a cA F g) (fun _ => (wX a cA F g)) yL_of wsL_of rmL_of [.ref (a 16), .int 3, .int z0, .int z1, .int z2] (fun r _ => r = (-1100000001)) 1 1 6 := by
  refine Lq.ofH (cc := cL_of) (maxL := 6) (by decide) rfl (Nat.le_of_ble_eq_true rfl) ?_
  intro p e s m args below meth c ls A Q hx hb hts hown hml hK hP hD hA hS hl htab hZ hend
  have hown : s.vm.findClass RL = some m.cls := hown
  have hl : lv_has ls 6 [(0, .ref (a 16)), (1, .int 3), (2, .int z0), (3, .int z1), (4, .int z2)] := hl
  have hb9 : Bx l D cA (wX a cA F g) yX0_payOf wsX0_payOf rbX0_payOf [.ref (a 16), .int z0] eI := by have h9 := b_X0_payOf l D cA hl9 a F g N hW z0 (by rw [hk]; decide); rw [hk] at h9; exact h9
  refine lv_iload_n hx hb dL_of_0 rfl (lv_at hl 1 rfl) ?_
  refine lv_if_ne (tgt := 13) hx hb dL_of_1 (by decide) (fun c_1 => ?_) (fun c_1 => (absurd c_1 (by decide) : False).elim)
  refine lv_iload_n hx hb dL_of_13 rfl (lv_at hl 1 rfl) ?_
  refine lv_iconst (v := 1) hx hb dL_of_14 (by decide) ?_
  refine lv_icmp_ne (tgt := 26) hx hb dL_of_15 (by decide) (fun c_15 => ?_) (fun c_15 => (absurd c_15 (by decide) : False).elim)
  refine lv_iload_n hx hb dL_of_26 rfl (lv_at hl 1 rfl) ?_
  refine lv_iconst (v := 2) hx hb dL_of_27 (by decide) ?_
  refine lv_icmp_ne (tgt := 50) hx hb dL_of_28 (by decide) (fun c_28 => ?_) (fun c_28 => (absurd c_28 (by decide) : False).elim)
  refine lv_iload_n hx hb dL_of_50 rfl (lv_at hl 1 rfl) ?_
  refine lv_iconst (v := 3) hx hb dL_of_51 (by decide) ?_
  refine lv_icmp_ne (tgt := 63) hx hb dL_of_52 (by decide) (fun c_52 => (absurd (by decide) c_52 : False).elim) (fun c_52 => ?_)
  refine lv_aload_n hx hb dL_of_55 rfl (lv_at hl 0 rfl) ?_
  refine lv_iload_n hx hb dL_of_56 rfl (lv_at hl 2 rfl) ?_
  refine Bx.catch (E := eI) (name := "java/lang/IndexOutOfBoundsException") (own := RL) (w := (wX a cA F g)) (vx_runV (rest := []) ⟨hx, hb, hml, hown, hts⟩ (hb9 s.heap.size) (cwV 1 hts gL_of_X0_payOf rfl rfl rfl (by decide +kernel) ⟨Nat.le_of_ble_eq_true rfl, Nat.le_of_ble_eq_true rfl⟩) ⟨(PreBx (As := [.ref (a 16), .int z0]) rfl hK hP hZ.2.2.1).1, va_recv hK hP (ci := 0) (q0 := 0) rfl rfl, (PreBx (As := [.ref (a 16), .int z0]) rfl hK hP hZ.2.2.1).2⟩ rfl rfl hl.1 rfl (lv_room (Nat.le_of_ble_eq_true rfl)) dL_of_57 ⟨Nat.le_of_ble_eq_true rfl, Nat.le_of_ble_eq_true rfl⟩) (fun _ _ _ h => h) hown [] ⟨0, 170, 171, 15⟩ [] (htab.trans rfl) (fun z hz => nomatch hz) (by decide) (by decide) (hts (.classLink RL 15 "java/lang/IndexOutOfBoundsException") (by decide +kernel)) (va_Nw.use rfl hZ.2.2.1.2.2.2.2.2.1) hP hA (fun q9 H locs hP hS hG => ?_)
  refine lv_astore (lv' := [(5, .ref q9), (0, .ref (a 16)), (1, .int 3), (2, .int z0), (3, .int z1), (4, .int z2)]) hx hb dL_of_171 hl (by decide) rfl (fun ls hl => ?_)
  refine lv_ldc (own := RL) (index := 17) (v := -1100000001) hx hb hown (hts (.constant RL 17 (-1100000001)) (by decide +kernel)) dL_of_173 ?_
  exact hend 175 ls _ () _ _ dL_of_175 hP hD hS hG rfl

set_option maxHeartbeats 4000000 in
set_option maxRecDepth 100000 in
theorem b_L_of4 (l : Launch) (hl9 : l.stackTraces = false) (D : va_G) (cA : ClassId) (a : Nat → Nat) (F : Nat → Nat → Int32) (g : Nat → Int32) (N : Nat) (hW : wf F N) (z0 z1 z2 : Int32) (hk : kSh F z0 = 1) : Lq l D cA (S := Unit) (wX a cA F g) (fun _ => (wX a cA F g)) yL_of wsL_of rmL_of [.ref (a 16), .int 4, .int z0, .int z1, .int z2] (fun r _ => r = (-1100000001)) 1 1 6 := by
  refine Lq.ofH (cc := cL_of) (maxL := 6) (by decide) rfl (Nat.le_of_ble_eq_true rfl) ?_
  intro p e s m args below meth c ls A Q hx hb hts hown hml hK hP hD hA hS hl htab hZ hend
  have hown : s.vm.findClass RL = some m.cls := hown
  have hl : lv_has ls 6 [(0, .ref (a 16)), (1, .int 4), (2, .int z0), (3, .int z1), (4, .int z2)] := hl
  have hb9 : Bx l D cA (wX a cA F g) yX0_chargeOf wsX0_chargeOf rbX0_chargeOf [.ref (a 16), .int z0] eI := by have h9 := b_X0_chargeOf l D cA hl9 a F g N hW z0 (by rw [hk]; decide); rw [hk] at h9; exact h9
  refine lv_iload_n hx hb dL_of_0 rfl (lv_at hl 1 rfl) ?_
  refine lv_if_ne (tgt := 13) hx hb dL_of_1 (by decide) (fun c_1 => ?_) (fun c_1 => (absurd c_1 (by decide) : False).elim)
  refine lv_iload_n hx hb dL_of_13 rfl (lv_at hl 1 rfl) ?_
  refine lv_iconst (v := 1) hx hb dL_of_14 (by decide) ?_
  refine lv_icmp_ne (tgt := 26) hx hb dL_of_15 (by decide) (fun c_15 => ?_) (fun c_15 => (absurd c_15 (by decide) : False).elim)
  refine lv_iload_n hx hb dL_of_26 rfl (lv_at hl 1 rfl) ?_
  refine lv_iconst (v := 2) hx hb dL_of_27 (by decide) ?_
  refine lv_icmp_ne (tgt := 50) hx hb dL_of_28 (by decide) (fun c_28 => ?_) (fun c_28 => (absurd c_28 (by decide) : False).elim)
  refine lv_iload_n hx hb dL_of_50 rfl (lv_at hl 1 rfl) ?_
  refine lv_iconst (v := 3) hx hb dL_of_51 (by decide) ?_
  refine lv_icmp_ne (tgt := 63) hx hb dL_of_52 (by decide) (fun c_52 => ?_) (fun c_52 => (absurd c_52 (by decide) : False).elim)
  refine lv_iload_n hx hb dL_of_63 rfl (lv_at hl 1 rfl) ?_
  refine lv_iconst (v := 4) hx hb dL_of_64 (by decide) ?_
  refine lv_icmp_ne (tgt := 76) hx hb dL_of_65 (by decide) (fun c_65 => (absurd (by decide) c_65 : False).elim) (fun c_65 => ?_)
  refine lv_aload_n hx hb dL_of_68 rfl (lv_at hl 0 rfl) ?_
  refine lv_iload_n hx hb dL_of_69 rfl (lv_at hl 2 rfl) ?_
  refine Bx.catch (E := eI) (name := "java/lang/IndexOutOfBoundsException") (own := RL) (w := (wX a cA F g)) (vx_runV (rest := []) ⟨hx, hb, hml, hown, hts⟩ (hb9 s.heap.size) (cwV 1 hts gL_of_X0_chargeOf rfl rfl rfl (by decide +kernel) ⟨Nat.le_of_ble_eq_true rfl, Nat.le_of_ble_eq_true rfl⟩) ⟨(PreBx (As := [.ref (a 16), .int z0]) rfl hK hP hZ.2.2.1).1, va_recv hK hP (ci := 0) (q0 := 0) rfl rfl, (PreBx (As := [.ref (a 16), .int z0]) rfl hK hP hZ.2.2.1).2⟩ rfl rfl hl.1 rfl (lv_room (Nat.le_of_ble_eq_true rfl)) dL_of_70 ⟨Nat.le_of_ble_eq_true rfl, Nat.le_of_ble_eq_true rfl⟩) (fun _ _ _ h => h) hown [] ⟨0, 170, 171, 15⟩ [] (htab.trans rfl) (fun z hz => nomatch hz) (by decide) (by decide) (hts (.classLink RL 15 "java/lang/IndexOutOfBoundsException") (by decide +kernel)) (va_Nw.use rfl hZ.2.2.1.2.2.2.2.2.1) hP hA (fun q9 H locs hP hS hG => ?_)
  refine lv_astore (lv' := [(5, .ref q9), (0, .ref (a 16)), (1, .int 4), (2, .int z0), (3, .int z1), (4, .int z2)]) hx hb dL_of_171 hl (by decide) rfl (fun ls hl => ?_)
  refine lv_ldc (own := RL) (index := 17) (v := -1100000001) hx hb hown (hts (.constant RL 17 (-1100000001)) (by decide +kernel)) dL_of_173 ?_
  exact hend 175 ls _ () _ _ dL_of_175 hP hD hS hG rfl

set_option maxHeartbeats 4000000 in
set_option maxRecDepth 100000 in
theorem b_L_of5 (l : Launch) (hl9 : l.stackTraces = false) (D : va_G) (cA : ClassId) (a : Nat → Nat) (F : Nat → Nat → Int32) (g : Nat → Int32) (N : Nat) (hW : wf F N) (z0 z1 z2 : Int32) (hk : kWW z0 z1 = 1) : Lq l D cA (S := Unit) (wX a cA F g) (fun _ => (wX a cA F g)) yL_of wsL_of rmL_of [.ref (a 16), .int 5, .int z0, .int z1, .int z2] (fun r _ => r = (-1100000001)) 1 1 6 := by
  refine Lq.ofH (cc := cL_of) (maxL := 6) (by decide) rfl (Nat.le_of_ble_eq_true rfl) ?_
  intro p e s m args below meth c ls A Q hx hb hts hown hml hK hP hD hA hS hl htab hZ hend
  have hown : s.vm.findClass RL = some m.cls := hown
  have hl : lv_has ls 6 [(0, .ref (a 16)), (1, .int 5), (2, .int z0), (3, .int z1), (4, .int z2)] := hl
  have hb9 : Bx l D cA (wX a cA F g) yX0_pay wsX0_pay rbX0_pay [.ref (a 16), .int z0, .int z1] eI := by have h9 := b_X0_pay l D cA hl9 a F g N hW z0 z1 (by rw [hk]; decide); rw [hk] at h9; exact h9
  refine lv_iload_n hx hb dL_of_0 rfl (lv_at hl 1 rfl) ?_
  refine lv_if_ne (tgt := 13) hx hb dL_of_1 (by decide) (fun c_1 => ?_) (fun c_1 => (absurd c_1 (by decide) : False).elim)
  refine lv_iload_n hx hb dL_of_13 rfl (lv_at hl 1 rfl) ?_
  refine lv_iconst (v := 1) hx hb dL_of_14 (by decide) ?_
  refine lv_icmp_ne (tgt := 26) hx hb dL_of_15 (by decide) (fun c_15 => ?_) (fun c_15 => (absurd c_15 (by decide) : False).elim)
  refine lv_iload_n hx hb dL_of_26 rfl (lv_at hl 1 rfl) ?_
  refine lv_iconst (v := 2) hx hb dL_of_27 (by decide) ?_
  refine lv_icmp_ne (tgt := 50) hx hb dL_of_28 (by decide) (fun c_28 => ?_) (fun c_28 => (absurd c_28 (by decide) : False).elim)
  refine lv_iload_n hx hb dL_of_50 rfl (lv_at hl 1 rfl) ?_
  refine lv_iconst (v := 3) hx hb dL_of_51 (by decide) ?_
  refine lv_icmp_ne (tgt := 63) hx hb dL_of_52 (by decide) (fun c_52 => ?_) (fun c_52 => (absurd c_52 (by decide) : False).elim)
  refine lv_iload_n hx hb dL_of_63 rfl (lv_at hl 1 rfl) ?_
  refine lv_iconst (v := 4) hx hb dL_of_64 (by decide) ?_
  refine lv_icmp_ne (tgt := 76) hx hb dL_of_65 (by decide) (fun c_65 => ?_) (fun c_65 => (absurd c_65 (by decide) : False).elim)
  refine lv_iload_n hx hb dL_of_76 rfl (lv_at hl 1 rfl) ?_
  refine lv_iconst (v := 5) hx hb dL_of_77 (by decide) ?_
  refine lv_icmp_ne (tgt := 90) hx hb dL_of_78 (by decide) (fun c_78 => (absurd (by decide) c_78 : False).elim) (fun c_78 => ?_)
  refine lv_aload_n hx hb dL_of_81 rfl (lv_at hl 0 rfl) ?_
  refine lv_iload_n hx hb dL_of_82 rfl (lv_at hl 2 rfl) ?_
  refine lv_iload_n hx hb dL_of_83 rfl (lv_at hl 3 rfl) ?_
  refine Bx.catch (E := eI) (name := "java/lang/IndexOutOfBoundsException") (own := RL) (w := (wX a cA F g)) (vx_runV (rest := []) ⟨hx, hb, hml, hown, hts⟩ (hb9 s.heap.size) (cwV 2 hts gL_of_X0_pay rfl rfl rfl (by decide +kernel) ⟨Nat.le_of_ble_eq_true rfl, Nat.le_of_ble_eq_true rfl⟩) ⟨(PreBx (As := [.ref (a 16), .int z0, .int z1]) rfl hK hP hZ.2.2.1).1, va_recv hK hP (ci := 0) (q0 := 0) rfl rfl, (PreBx (As := [.ref (a 16), .int z0, .int z1]) rfl hK hP hZ.2.2.1).2⟩ rfl rfl hl.1 rfl (lv_room (Nat.le_of_ble_eq_true rfl)) dL_of_84 ⟨Nat.le_of_ble_eq_true rfl, Nat.le_of_ble_eq_true rfl⟩) (fun _ _ _ h => h) hown [] ⟨0, 170, 171, 15⟩ [] (htab.trans rfl) (fun z hz => nomatch hz) (by decide) (by decide) (hts (.classLink RL 15 "java/lang/IndexOutOfBoundsException") (by decide +kernel)) (va_Nw.use rfl hZ.2.2.1.2.2.2.2.2.1) hP hA (fun q9 H locs hP hS hG => ?_)
  refine lv_astore (lv' := [(5, .ref q9), (0, .ref (a 16)), (1, .int 5), (2, .int z0), (3, .int z1), (4, .int z2)]) hx hb dL_of_171 hl (by decide) rfl (fun ls hl => ?_)
  refine lv_ldc (own := RL) (index := 17) (v := -1100000001) hx hb hown (hts (.constant RL 17 (-1100000001)) (by decide +kernel)) dL_of_173 ?_
  exact hend 175 ls _ () _ _ dL_of_175 hP hD hS hG rfl

set_option maxHeartbeats 4000000 in
set_option maxRecDepth 100000 in
theorem b_L_of6 (l : Launch) (hl9 : l.stackTraces = false) (D : va_G) (cA : ClassId) (a : Nat → Nat) (F : Nat → Nat → Int32) (g : Nat → Int32) (N : Nat) (hW : wf F N) (z0 z1 z2 : Int32) (hk : kWW z0 z1 = 1) : Lq l D cA (S := Unit) (wX a cA F g) (fun _ => (wX a cA F g)) yL_of wsL_of rmL_of [.ref (a 16), .int 6, .int z0, .int z1, .int z2] (fun r _ => r = (-1100000001)) 1 1 6 := by
  refine Lq.ofH (cc := cL_of) (maxL := 6) (by decide) rfl (Nat.le_of_ble_eq_true rfl) ?_
  intro p e s m args below meth c ls A Q hx hb hts hown hml hK hP hD hA hS hl htab hZ hend
  have hown : s.vm.findClass RL = some m.cls := hown
  have hl : lv_has ls 6 [(0, .ref (a 16)), (1, .int 6), (2, .int z0), (3, .int z1), (4, .int z2)] := hl
  have hb9 : Bx l D cA (wX a cA F g) yX0_payByHours wsX0_payByHours rbX0_payByHours [.ref (a 16), .int z0, .int z1] eI := by have h9 := b_X0_payByHours l D cA hl9 a F g N hW z0 z1 (by rw [hk]; decide); rw [hk] at h9; exact h9
  refine lv_iload_n hx hb dL_of_0 rfl (lv_at hl 1 rfl) ?_
  refine lv_if_ne (tgt := 13) hx hb dL_of_1 (by decide) (fun c_1 => ?_) (fun c_1 => (absurd c_1 (by decide) : False).elim)
  refine lv_iload_n hx hb dL_of_13 rfl (lv_at hl 1 rfl) ?_
  refine lv_iconst (v := 1) hx hb dL_of_14 (by decide) ?_
  refine lv_icmp_ne (tgt := 26) hx hb dL_of_15 (by decide) (fun c_15 => ?_) (fun c_15 => (absurd c_15 (by decide) : False).elim)
  refine lv_iload_n hx hb dL_of_26 rfl (lv_at hl 1 rfl) ?_
  refine lv_iconst (v := 2) hx hb dL_of_27 (by decide) ?_
  refine lv_icmp_ne (tgt := 50) hx hb dL_of_28 (by decide) (fun c_28 => ?_) (fun c_28 => (absurd c_28 (by decide) : False).elim)
  refine lv_iload_n hx hb dL_of_50 rfl (lv_at hl 1 rfl) ?_
  refine lv_iconst (v := 3) hx hb dL_of_51 (by decide) ?_
  refine lv_icmp_ne (tgt := 63) hx hb dL_of_52 (by decide) (fun c_52 => ?_) (fun c_52 => (absurd c_52 (by decide) : False).elim)
  refine lv_iload_n hx hb dL_of_63 rfl (lv_at hl 1 rfl) ?_
  refine lv_iconst (v := 4) hx hb dL_of_64 (by decide) ?_
  refine lv_icmp_ne (tgt := 76) hx hb dL_of_65 (by decide) (fun c_65 => ?_) (fun c_65 => (absurd c_65 (by decide) : False).elim)
  refine lv_iload_n hx hb dL_of_76 rfl (lv_at hl 1 rfl) ?_
  refine lv_iconst (v := 5) hx hb dL_of_77 (by decide) ?_
  refine lv_icmp_ne (tgt := 90) hx hb dL_of_78 (by decide) (fun c_78 => ?_) (fun c_78 => (absurd c_78 (by decide) : False).elim)
  refine lv_iload_n hx hb dL_of_90 rfl (lv_at hl 1 rfl) ?_
  refine lv_bipush (v := 6) hx hb dL_of_91 (by decide) ?_
  refine lv_icmp_ne (tgt := 105) hx hb dL_of_93 (by decide) (fun c_93 => (absurd (by decide) c_93 : False).elim) (fun c_93 => ?_)
  refine lv_aload_n hx hb dL_of_96 rfl (lv_at hl 0 rfl) ?_
  refine lv_iload_n hx hb dL_of_97 rfl (lv_at hl 2 rfl) ?_
  refine lv_iload_n hx hb dL_of_98 rfl (lv_at hl 3 rfl) ?_
  refine Bx.catch (E := eI) (name := "java/lang/IndexOutOfBoundsException") (own := RL) (w := (wX a cA F g)) (vx_runV (rest := []) ⟨hx, hb, hml, hown, hts⟩ (hb9 s.heap.size) (cwV 2 hts gL_of_X0_payByHours rfl rfl rfl (by decide +kernel) ⟨Nat.le_of_ble_eq_true rfl, Nat.le_of_ble_eq_true rfl⟩) ⟨(PreBx (As := [.ref (a 16), .int z0, .int z1]) rfl hK hP hZ.2.2.1).1, va_recv hK hP (ci := 0) (q0 := 0) rfl rfl, (PreBx (As := [.ref (a 16), .int z0, .int z1]) rfl hK hP hZ.2.2.1).2⟩ rfl rfl hl.1 rfl (lv_room (Nat.le_of_ble_eq_true rfl)) dL_of_99 ⟨Nat.le_of_ble_eq_true rfl, Nat.le_of_ble_eq_true rfl⟩) (fun _ _ _ h => h) hown [] ⟨0, 170, 171, 15⟩ [] (htab.trans rfl) (fun z hz => nomatch hz) (by decide) (by decide) (hts (.classLink RL 15 "java/lang/IndexOutOfBoundsException") (by decide +kernel)) (va_Nw.use rfl hZ.2.2.1.2.2.2.2.2.1) hP hA (fun q9 H locs hP hS hG => ?_)
  refine lv_astore (lv' := [(5, .ref q9), (0, .ref (a 16)), (1, .int 6), (2, .int z0), (3, .int z1), (4, .int z2)]) hx hb dL_of_171 hl (by decide) rfl (fun ls hl => ?_)
  refine lv_ldc (own := RL) (index := 17) (v := -1100000001) hx hb hown (hts (.constant RL 17 (-1100000001)) (by decide +kernel)) dL_of_173 ?_
  exact hend 175 ls _ () _ _ dL_of_175 hP hD hS hG rfl

set_option maxHeartbeats 4000000 in
set_option maxRecDepth 100000 in
theorem b_L_of7 (l : Launch) (hl9 : l.stackTraces = false) (D : va_G) (cA : ClassId) (a : Nat → Nat) (F : Nat → Nat → Int32) (g : Nat → Int32) (N : Nat) (hW : wf F N) (z0 z1 z2 : Int32) (hk : kWW z0 z1 = 1) : Lq l D cA (S := Unit) (wX a cA F g) (fun _ => (wX a cA F g)) yL_of wsL_of rmL_of [.ref (a 16), .int 7, .int z0, .int z1, .int z2] (fun r _ => r = (-1100000001)) 1 1 6 := by
  refine Lq.ofH (cc := cL_of) (maxL := 6) (by decide) rfl (Nat.le_of_ble_eq_true rfl) ?_
  intro p e s m args below meth c ls A Q hx hb hts hown hml hK hP hD hA hS hl htab hZ hend
  have hown : s.vm.findClass RL = some m.cls := hown
  have hl : lv_has ls 6 [(0, .ref (a 16)), (1, .int 7), (2, .int z0), (3, .int z1), (4, .int z2)] := hl
  have hb9 : Bx l D cA (wX a cA F g) yX0_paid wsX0_paid rbX0_paid [.ref (a 16), .int z0, .int z1] eI := by have h9 := b_X0_paid l D cA hl9 a F g N hW z0 z1 (by rw [hk]; decide); rw [hk] at h9; exact h9
  refine lv_iload_n hx hb dL_of_0 rfl (lv_at hl 1 rfl) ?_
  refine lv_if_ne (tgt := 13) hx hb dL_of_1 (by decide) (fun c_1 => ?_) (fun c_1 => (absurd c_1 (by decide) : False).elim)
  refine lv_iload_n hx hb dL_of_13 rfl (lv_at hl 1 rfl) ?_
  refine lv_iconst (v := 1) hx hb dL_of_14 (by decide) ?_
  refine lv_icmp_ne (tgt := 26) hx hb dL_of_15 (by decide) (fun c_15 => ?_) (fun c_15 => (absurd c_15 (by decide) : False).elim)
  refine lv_iload_n hx hb dL_of_26 rfl (lv_at hl 1 rfl) ?_
  refine lv_iconst (v := 2) hx hb dL_of_27 (by decide) ?_
  refine lv_icmp_ne (tgt := 50) hx hb dL_of_28 (by decide) (fun c_28 => ?_) (fun c_28 => (absurd c_28 (by decide) : False).elim)
  refine lv_iload_n hx hb dL_of_50 rfl (lv_at hl 1 rfl) ?_
  refine lv_iconst (v := 3) hx hb dL_of_51 (by decide) ?_
  refine lv_icmp_ne (tgt := 63) hx hb dL_of_52 (by decide) (fun c_52 => ?_) (fun c_52 => (absurd c_52 (by decide) : False).elim)
  refine lv_iload_n hx hb dL_of_63 rfl (lv_at hl 1 rfl) ?_
  refine lv_iconst (v := 4) hx hb dL_of_64 (by decide) ?_
  refine lv_icmp_ne (tgt := 76) hx hb dL_of_65 (by decide) (fun c_65 => ?_) (fun c_65 => (absurd c_65 (by decide) : False).elim)
  refine lv_iload_n hx hb dL_of_76 rfl (lv_at hl 1 rfl) ?_
  refine lv_iconst (v := 5) hx hb dL_of_77 (by decide) ?_
  refine lv_icmp_ne (tgt := 90) hx hb dL_of_78 (by decide) (fun c_78 => ?_) (fun c_78 => (absurd c_78 (by decide) : False).elim)
  refine lv_iload_n hx hb dL_of_90 rfl (lv_at hl 1 rfl) ?_
  refine lv_bipush (v := 6) hx hb dL_of_91 (by decide) ?_
  refine lv_icmp_ne (tgt := 105) hx hb dL_of_93 (by decide) (fun c_93 => ?_) (fun c_93 => (absurd c_93 (by decide) : False).elim)
  refine lv_iload_n hx hb dL_of_105 rfl (lv_at hl 1 rfl) ?_
  refine lv_bipush (v := 7) hx hb dL_of_106 (by decide) ?_
  refine lv_icmp_ne (tgt := 120) hx hb dL_of_108 (by decide) (fun c_108 => (absurd (by decide) c_108 : False).elim) (fun c_108 => ?_)
  refine lv_aload_n hx hb dL_of_111 rfl (lv_at hl 0 rfl) ?_
  refine lv_iload_n hx hb dL_of_112 rfl (lv_at hl 2 rfl) ?_
  refine lv_iload_n hx hb dL_of_113 rfl (lv_at hl 3 rfl) ?_
  refine Bx.catch (E := eI) (name := "java/lang/IndexOutOfBoundsException") (own := RL) (w := (wX a cA F g)) (vx_runV (rest := []) ⟨hx, hb, hml, hown, hts⟩ (hb9 s.heap.size) (cwV 2 hts gL_of_X0_paid rfl rfl rfl (by decide +kernel) ⟨Nat.le_of_ble_eq_true rfl, Nat.le_of_ble_eq_true rfl⟩) ⟨(PreBx (As := [.ref (a 16), .int z0, .int z1]) rfl hK hP hZ.2.2.1).1, va_recv hK hP (ci := 0) (q0 := 0) rfl rfl, (PreBx (As := [.ref (a 16), .int z0, .int z1]) rfl hK hP hZ.2.2.1).2⟩ rfl rfl hl.1 rfl (lv_room (Nat.le_of_ble_eq_true rfl)) dL_of_114 ⟨Nat.le_of_ble_eq_true rfl, Nat.le_of_ble_eq_true rfl⟩) (fun _ _ _ h => h) hown [] ⟨0, 170, 171, 15⟩ [] (htab.trans rfl) (fun z hz => nomatch hz) (by decide) (by decide) (hts (.classLink RL 15 "java/lang/IndexOutOfBoundsException") (by decide +kernel)) (va_Nw.use rfl hZ.2.2.1.2.2.2.2.2.1) hP hA (fun q9 H locs hP hS hG => ?_)
  refine lv_astore (lv' := [(5, .ref q9), (0, .ref (a 16)), (1, .int 7), (2, .int z0), (3, .int z1), (4, .int z2)]) hx hb dL_of_171 hl (by decide) rfl (fun ls hl => ?_)
  refine lv_ldc (own := RL) (index := 17) (v := -1100000001) hx hb hown (hts (.constant RL 17 (-1100000001)) (by decide +kernel)) dL_of_173 ?_
  exact hend 175 ls _ () _ _ dL_of_175 hP hD hS hG rfl

set_option maxHeartbeats 4000000 in
set_option maxRecDepth 100000 in
theorem b_L_of8 (l : Launch) (hl9 : l.stackTraces = false) (D : va_G) (cA : ClassId) (a : Nat → Nat) (F : Nat → Nat → Int32) (g : Nat → Int32) (N : Nat) (hW : wf F N) (z0 z1 z2 : Int32) (hk : kSW z0 z1 = 1) : Lq l D cA (S := Unit) (wX a cA F g) (fun _ => (wX a cA F g)) yL_of wsL_of rmL_of [.ref (a 16), .int 8, .int z0, .int z1, .int z2] (fun r _ => r = (-1100000001)) 1 1 6 := by
  refine Lq.ofH (cc := cL_of) (maxL := 6) (by decide) rfl (Nat.le_of_ble_eq_true rfl) ?_
  intro p e s m args below meth c ls A Q hx hb hts hown hml hK hP hD hA hS hl htab hZ hend
  have hown : s.vm.findClass RL = some m.cls := hown
  have hl : lv_has ls 6 [(0, .ref (a 16)), (1, .int 8), (2, .int z0), (3, .int z1), (4, .int z2)] := hl
  have hb9 : Bx l D cA (wX a cA F g) yX0_billed wsX0_billed rbX0_billed [.ref (a 16), .int z0, .int z1] eI := by have h9 := b_X0_billed l D cA hl9 a F g N hW z0 z1 (by rw [hk]; decide); rw [hk] at h9; exact h9
  refine lv_iload_n hx hb dL_of_0 rfl (lv_at hl 1 rfl) ?_
  refine lv_if_ne (tgt := 13) hx hb dL_of_1 (by decide) (fun c_1 => ?_) (fun c_1 => (absurd c_1 (by decide) : False).elim)
  refine lv_iload_n hx hb dL_of_13 rfl (lv_at hl 1 rfl) ?_
  refine lv_iconst (v := 1) hx hb dL_of_14 (by decide) ?_
  refine lv_icmp_ne (tgt := 26) hx hb dL_of_15 (by decide) (fun c_15 => ?_) (fun c_15 => (absurd c_15 (by decide) : False).elim)
  refine lv_iload_n hx hb dL_of_26 rfl (lv_at hl 1 rfl) ?_
  refine lv_iconst (v := 2) hx hb dL_of_27 (by decide) ?_
  refine lv_icmp_ne (tgt := 50) hx hb dL_of_28 (by decide) (fun c_28 => ?_) (fun c_28 => (absurd c_28 (by decide) : False).elim)
  refine lv_iload_n hx hb dL_of_50 rfl (lv_at hl 1 rfl) ?_
  refine lv_iconst (v := 3) hx hb dL_of_51 (by decide) ?_
  refine lv_icmp_ne (tgt := 63) hx hb dL_of_52 (by decide) (fun c_52 => ?_) (fun c_52 => (absurd c_52 (by decide) : False).elim)
  refine lv_iload_n hx hb dL_of_63 rfl (lv_at hl 1 rfl) ?_
  refine lv_iconst (v := 4) hx hb dL_of_64 (by decide) ?_
  refine lv_icmp_ne (tgt := 76) hx hb dL_of_65 (by decide) (fun c_65 => ?_) (fun c_65 => (absurd c_65 (by decide) : False).elim)
  refine lv_iload_n hx hb dL_of_76 rfl (lv_at hl 1 rfl) ?_
  refine lv_iconst (v := 5) hx hb dL_of_77 (by decide) ?_
  refine lv_icmp_ne (tgt := 90) hx hb dL_of_78 (by decide) (fun c_78 => ?_) (fun c_78 => (absurd c_78 (by decide) : False).elim)
  refine lv_iload_n hx hb dL_of_90 rfl (lv_at hl 1 rfl) ?_
  refine lv_bipush (v := 6) hx hb dL_of_91 (by decide) ?_
  refine lv_icmp_ne (tgt := 105) hx hb dL_of_93 (by decide) (fun c_93 => ?_) (fun c_93 => (absurd c_93 (by decide) : False).elim)
  refine lv_iload_n hx hb dL_of_105 rfl (lv_at hl 1 rfl) ?_
  refine lv_bipush (v := 7) hx hb dL_of_106 (by decide) ?_
  refine lv_icmp_ne (tgt := 120) hx hb dL_of_108 (by decide) (fun c_108 => ?_) (fun c_108 => (absurd c_108 (by decide) : False).elim)
  refine lv_iload_n hx hb dL_of_120 rfl (lv_at hl 1 rfl) ?_
  refine lv_bipush (v := 8) hx hb dL_of_121 (by decide) ?_
  refine lv_icmp_ne (tgt := 135) hx hb dL_of_123 (by decide) (fun c_123 => (absurd (by decide) c_123 : False).elim) (fun c_123 => ?_)
  refine lv_aload_n hx hb dL_of_126 rfl (lv_at hl 0 rfl) ?_
  refine lv_iload_n hx hb dL_of_127 rfl (lv_at hl 2 rfl) ?_
  refine lv_iload_n hx hb dL_of_128 rfl (lv_at hl 3 rfl) ?_
  refine Bx.catch (E := eI) (name := "java/lang/IndexOutOfBoundsException") (own := RL) (w := (wX a cA F g)) (vx_runV (rest := []) ⟨hx, hb, hml, hown, hts⟩ (hb9 s.heap.size) (cwV 2 hts gL_of_X0_billed rfl rfl rfl (by decide +kernel) ⟨Nat.le_of_ble_eq_true rfl, Nat.le_of_ble_eq_true rfl⟩) ⟨(PreBx (As := [.ref (a 16), .int z0, .int z1]) rfl hK hP hZ.2.2.1).1, va_recv hK hP (ci := 0) (q0 := 0) rfl rfl, (PreBx (As := [.ref (a 16), .int z0, .int z1]) rfl hK hP hZ.2.2.1).2⟩ rfl rfl hl.1 rfl (lv_room (Nat.le_of_ble_eq_true rfl)) dL_of_129 ⟨Nat.le_of_ble_eq_true rfl, Nat.le_of_ble_eq_true rfl⟩) (fun _ _ _ h => h) hown [] ⟨0, 170, 171, 15⟩ [] (htab.trans rfl) (fun z hz => nomatch hz) (by decide) (by decide) (hts (.classLink RL 15 "java/lang/IndexOutOfBoundsException") (by decide +kernel)) (va_Nw.use rfl hZ.2.2.1.2.2.2.2.2.1) hP hA (fun q9 H locs hP hS hG => ?_)
  refine lv_astore (lv' := [(5, .ref q9), (0, .ref (a 16)), (1, .int 8), (2, .int z0), (3, .int z1), (4, .int z2)]) hx hb dL_of_171 hl (by decide) rfl (fun ls hl => ?_)
  refine lv_ldc (own := RL) (index := 17) (v := -1100000001) hx hb hown (hts (.constant RL 17 (-1100000001)) (by decide +kernel)) dL_of_173 ?_
  exact hend 175 ls _ () _ _ dL_of_175 hP hD hS hG rfl

set_option maxHeartbeats 4000000 in
set_option maxRecDepth 100000 in
theorem b_L_of9 (l : Launch) (hl9 : l.stackTraces = false) (D : va_G) (cA : ClassId) (a : Nat → Nat) (F : Nat → Nat → Int32) (g : Nat → Int32) (N : Nat) (hW : wf F N) (z0 z1 z2 : Int32) (hk : kWW z0 z1 = 1) : Lq l D cA (S := Unit) (wX a cA F g) (fun _ => (wX a cA F g)) yL_of wsL_of rmL_of [.ref (a 16), .int 9, .int z0, .int z1, .int z2] (fun r _ => r = (-1100000001)) 1 1 6 := by
  refine Lq.ofH (cc := cL_of) (maxL := 6) (by decide) rfl (Nat.le_of_ble_eq_true rfl) ?_
  intro p e s m args below meth c ls A Q hx hb hts hown hml hK hP hD hA hS hl htab hZ hend
  have hown : s.vm.findClass RL = some m.cls := hown
  have hl : lv_has ls 6 [(0, .ref (a 16)), (1, .int 9), (2, .int z0), (3, .int z1), (4, .int z2)] := hl
  have hb9 : Bx l D cA (wX a cA F g) yX0_owing wsX0_owing rbX0_owing [.ref (a 16), .int z0, .int z1] eI := by have h9 := b_X0_owing l D cA hl9 a F g N hW z0 z1 (by rw [hk]; decide); rw [hk] at h9; exact h9
  refine lv_iload_n hx hb dL_of_0 rfl (lv_at hl 1 rfl) ?_
  refine lv_if_ne (tgt := 13) hx hb dL_of_1 (by decide) (fun c_1 => ?_) (fun c_1 => (absurd c_1 (by decide) : False).elim)
  refine lv_iload_n hx hb dL_of_13 rfl (lv_at hl 1 rfl) ?_
  refine lv_iconst (v := 1) hx hb dL_of_14 (by decide) ?_
  refine lv_icmp_ne (tgt := 26) hx hb dL_of_15 (by decide) (fun c_15 => ?_) (fun c_15 => (absurd c_15 (by decide) : False).elim)
  refine lv_iload_n hx hb dL_of_26 rfl (lv_at hl 1 rfl) ?_
  refine lv_iconst (v := 2) hx hb dL_of_27 (by decide) ?_
  refine lv_icmp_ne (tgt := 50) hx hb dL_of_28 (by decide) (fun c_28 => ?_) (fun c_28 => (absurd c_28 (by decide) : False).elim)
  refine lv_iload_n hx hb dL_of_50 rfl (lv_at hl 1 rfl) ?_
  refine lv_iconst (v := 3) hx hb dL_of_51 (by decide) ?_
  refine lv_icmp_ne (tgt := 63) hx hb dL_of_52 (by decide) (fun c_52 => ?_) (fun c_52 => (absurd c_52 (by decide) : False).elim)
  refine lv_iload_n hx hb dL_of_63 rfl (lv_at hl 1 rfl) ?_
  refine lv_iconst (v := 4) hx hb dL_of_64 (by decide) ?_
  refine lv_icmp_ne (tgt := 76) hx hb dL_of_65 (by decide) (fun c_65 => ?_) (fun c_65 => (absurd c_65 (by decide) : False).elim)
  refine lv_iload_n hx hb dL_of_76 rfl (lv_at hl 1 rfl) ?_
  refine lv_iconst (v := 5) hx hb dL_of_77 (by decide) ?_
  refine lv_icmp_ne (tgt := 90) hx hb dL_of_78 (by decide) (fun c_78 => ?_) (fun c_78 => (absurd c_78 (by decide) : False).elim)
  refine lv_iload_n hx hb dL_of_90 rfl (lv_at hl 1 rfl) ?_
  refine lv_bipush (v := 6) hx hb dL_of_91 (by decide) ?_
  refine lv_icmp_ne (tgt := 105) hx hb dL_of_93 (by decide) (fun c_93 => ?_) (fun c_93 => (absurd c_93 (by decide) : False).elim)
  refine lv_iload_n hx hb dL_of_105 rfl (lv_at hl 1 rfl) ?_
  refine lv_bipush (v := 7) hx hb dL_of_106 (by decide) ?_
  refine lv_icmp_ne (tgt := 120) hx hb dL_of_108 (by decide) (fun c_108 => ?_) (fun c_108 => (absurd c_108 (by decide) : False).elim)
  refine lv_iload_n hx hb dL_of_120 rfl (lv_at hl 1 rfl) ?_
  refine lv_bipush (v := 8) hx hb dL_of_121 (by decide) ?_
  refine lv_icmp_ne (tgt := 135) hx hb dL_of_123 (by decide) (fun c_123 => ?_) (fun c_123 => (absurd c_123 (by decide) : False).elim)
  refine lv_iload_n hx hb dL_of_135 rfl (lv_at hl 1 rfl) ?_
  refine lv_bipush (v := 9) hx hb dL_of_136 (by decide) ?_
  refine lv_icmp_ne (tgt := 150) hx hb dL_of_138 (by decide) (fun c_138 => (absurd (by decide) c_138 : False).elim) (fun c_138 => ?_)
  refine lv_aload_n hx hb dL_of_141 rfl (lv_at hl 0 rfl) ?_
  refine lv_iload_n hx hb dL_of_142 rfl (lv_at hl 2 rfl) ?_
  refine lv_iload_n hx hb dL_of_143 rfl (lv_at hl 3 rfl) ?_
  refine Bx.catch (E := eI) (name := "java/lang/IndexOutOfBoundsException") (own := RL) (w := (wX a cA F g)) (vx_runV (rest := []) ⟨hx, hb, hml, hown, hts⟩ (hb9 s.heap.size) (cwV 2 hts gL_of_X0_owing rfl rfl rfl (by decide +kernel) ⟨Nat.le_of_ble_eq_true rfl, Nat.le_of_ble_eq_true rfl⟩) ⟨(PreBx (As := [.ref (a 16), .int z0, .int z1]) rfl hK hP hZ.2.2.1).1, va_recv hK hP (ci := 0) (q0 := 0) rfl rfl, (PreBx (As := [.ref (a 16), .int z0, .int z1]) rfl hK hP hZ.2.2.1).2⟩ rfl rfl hl.1 rfl (lv_room (Nat.le_of_ble_eq_true rfl)) dL_of_144 ⟨Nat.le_of_ble_eq_true rfl, Nat.le_of_ble_eq_true rfl⟩) (fun _ _ _ h => h) hown [] ⟨0, 170, 171, 15⟩ [] (htab.trans rfl) (fun z hz => nomatch hz) (by decide) (by decide) (hts (.classLink RL 15 "java/lang/IndexOutOfBoundsException") (by decide +kernel)) (va_Nw.use rfl hZ.2.2.1.2.2.2.2.2.1) hP hA (fun q9 H locs hP hS hG => ?_)
  refine lv_astore (lv' := [(5, .ref q9), (0, .ref (a 16)), (1, .int 9), (2, .int z0), (3, .int z1), (4, .int z2)]) hx hb dL_of_171 hl (by decide) rfl (fun ls hl => ?_)
  refine lv_ldc (own := RL) (index := 17) (v := -1100000001) hx hb hown (hts (.constant RL 17 (-1100000001)) (by decide +kernel)) dL_of_173 ?_
  exact hend 175 ls _ () _ _ dL_of_175 hP hD hS hG rfl

set_option maxHeartbeats 4000000 in
set_option maxRecDepth 100000 in
theorem b_L_of10 (l : Launch) (hl9 : l.stackTraces = false) (D : va_G) (cA : ClassId) (a : Nat → Nat) (F : Nat → Nat → Int32) (g : Nat → Int32) (N : Nat) (hW : wf F N) (z0 z1 z2 : Int32) (hk : kSW z0 z1 = 1) : Lq l D cA (S := Unit) (wX a cA F g) (fun _ => (wX a cA F g)) yL_of wsL_of rmL_of [.ref (a 16), .int 10, .int z0, .int z1, .int z2] (fun r _ => r = (-1100000001)) 1 1 6 := by
  refine Lq.ofH (cc := cL_of) (maxL := 6) (by decide) rfl (Nat.le_of_ble_eq_true rfl) ?_
  intro p e s m args below meth c ls A Q hx hb hts hown hml hK hP hD hA hS hl htab hZ hend
  have hown : s.vm.findClass RL = some m.cls := hown
  have hl : lv_has ls 6 [(0, .ref (a 16)), (1, .int 10), (2, .int z0), (3, .int z1), (4, .int z2)] := hl
  have hb9 : Bx l D cA (wX a cA F g) yX0_toBill wsX0_toBill rbX0_toBill [.ref (a 16), .int z0, .int z1] eI := by have h9 := b_X0_toBill l D cA hl9 a F g N hW z0 z1 (by rw [hk]; decide); rw [hk] at h9; exact h9
  refine lv_iload_n hx hb dL_of_0 rfl (lv_at hl 1 rfl) ?_
  refine lv_if_ne (tgt := 13) hx hb dL_of_1 (by decide) (fun c_1 => ?_) (fun c_1 => (absurd c_1 (by decide) : False).elim)
  refine lv_iload_n hx hb dL_of_13 rfl (lv_at hl 1 rfl) ?_
  refine lv_iconst (v := 1) hx hb dL_of_14 (by decide) ?_
  refine lv_icmp_ne (tgt := 26) hx hb dL_of_15 (by decide) (fun c_15 => ?_) (fun c_15 => (absurd c_15 (by decide) : False).elim)
  refine lv_iload_n hx hb dL_of_26 rfl (lv_at hl 1 rfl) ?_
  refine lv_iconst (v := 2) hx hb dL_of_27 (by decide) ?_
  refine lv_icmp_ne (tgt := 50) hx hb dL_of_28 (by decide) (fun c_28 => ?_) (fun c_28 => (absurd c_28 (by decide) : False).elim)
  refine lv_iload_n hx hb dL_of_50 rfl (lv_at hl 1 rfl) ?_
  refine lv_iconst (v := 3) hx hb dL_of_51 (by decide) ?_
  refine lv_icmp_ne (tgt := 63) hx hb dL_of_52 (by decide) (fun c_52 => ?_) (fun c_52 => (absurd c_52 (by decide) : False).elim)
  refine lv_iload_n hx hb dL_of_63 rfl (lv_at hl 1 rfl) ?_
  refine lv_iconst (v := 4) hx hb dL_of_64 (by decide) ?_
  refine lv_icmp_ne (tgt := 76) hx hb dL_of_65 (by decide) (fun c_65 => ?_) (fun c_65 => (absurd c_65 (by decide) : False).elim)
  refine lv_iload_n hx hb dL_of_76 rfl (lv_at hl 1 rfl) ?_
  refine lv_iconst (v := 5) hx hb dL_of_77 (by decide) ?_
  refine lv_icmp_ne (tgt := 90) hx hb dL_of_78 (by decide) (fun c_78 => ?_) (fun c_78 => (absurd c_78 (by decide) : False).elim)
  refine lv_iload_n hx hb dL_of_90 rfl (lv_at hl 1 rfl) ?_
  refine lv_bipush (v := 6) hx hb dL_of_91 (by decide) ?_
  refine lv_icmp_ne (tgt := 105) hx hb dL_of_93 (by decide) (fun c_93 => ?_) (fun c_93 => (absurd c_93 (by decide) : False).elim)
  refine lv_iload_n hx hb dL_of_105 rfl (lv_at hl 1 rfl) ?_
  refine lv_bipush (v := 7) hx hb dL_of_106 (by decide) ?_
  refine lv_icmp_ne (tgt := 120) hx hb dL_of_108 (by decide) (fun c_108 => ?_) (fun c_108 => (absurd c_108 (by decide) : False).elim)
  refine lv_iload_n hx hb dL_of_120 rfl (lv_at hl 1 rfl) ?_
  refine lv_bipush (v := 8) hx hb dL_of_121 (by decide) ?_
  refine lv_icmp_ne (tgt := 135) hx hb dL_of_123 (by decide) (fun c_123 => ?_) (fun c_123 => (absurd c_123 (by decide) : False).elim)
  refine lv_iload_n hx hb dL_of_135 rfl (lv_at hl 1 rfl) ?_
  refine lv_bipush (v := 9) hx hb dL_of_136 (by decide) ?_
  refine lv_icmp_ne (tgt := 150) hx hb dL_of_138 (by decide) (fun c_138 => ?_) (fun c_138 => (absurd c_138 (by decide) : False).elim)
  refine lv_iload_n hx hb dL_of_150 rfl (lv_at hl 1 rfl) ?_
  refine lv_bipush (v := 10) hx hb dL_of_151 (by decide) ?_
  refine lv_icmp_ne (tgt := 165) hx hb dL_of_153 (by decide) (fun c_153 => (absurd (by decide) c_153 : False).elim) (fun c_153 => ?_)
  refine lv_aload_n hx hb dL_of_156 rfl (lv_at hl 0 rfl) ?_
  refine lv_iload_n hx hb dL_of_157 rfl (lv_at hl 2 rfl) ?_
  refine lv_iload_n hx hb dL_of_158 rfl (lv_at hl 3 rfl) ?_
  refine Bx.catch (E := eI) (name := "java/lang/IndexOutOfBoundsException") (own := RL) (w := (wX a cA F g)) (vx_runV (rest := []) ⟨hx, hb, hml, hown, hts⟩ (hb9 s.heap.size) (cwV 2 hts gL_of_X0_toBill rfl rfl rfl (by decide +kernel) ⟨Nat.le_of_ble_eq_true rfl, Nat.le_of_ble_eq_true rfl⟩) ⟨(PreBx (As := [.ref (a 16), .int z0, .int z1]) rfl hK hP hZ.2.2.1).1, va_recv hK hP (ci := 0) (q0 := 0) rfl rfl, (PreBx (As := [.ref (a 16), .int z0, .int z1]) rfl hK hP hZ.2.2.1).2⟩ rfl rfl hl.1 rfl (lv_room (Nat.le_of_ble_eq_true rfl)) dL_of_159 ⟨Nat.le_of_ble_eq_true rfl, Nat.le_of_ble_eq_true rfl⟩) (fun _ _ _ h => h) hown [] ⟨0, 170, 171, 15⟩ [] (htab.trans rfl) (fun z hz => nomatch hz) (by decide) (by decide) (hts (.classLink RL 15 "java/lang/IndexOutOfBoundsException") (by decide +kernel)) (va_Nw.use rfl hZ.2.2.1.2.2.2.2.2.1) hP hA (fun q9 H locs hP hS hG => ?_)
  refine lv_astore (lv' := [(5, .ref q9), (0, .ref (a 16)), (1, .int 10), (2, .int z0), (3, .int z1), (4, .int z2)]) hx hb dL_of_171 hl (by decide) rfl (fun ls hl => ?_)
  refine lv_ldc (own := RL) (index := 17) (v := -1100000001) hx hb hown (hts (.constant RL 17 (-1100000001)) (by decide +kernel)) dL_of_173 ?_
  exact hend 175 ls _ () _ _ dL_of_175 hP hD hS hG rfl

set_option maxHeartbeats 4000000 in
set_option maxRecDepth 100000 in
theorem b_L_of11 (l : Launch) (hl9 : l.stackTraces = false) (D : va_G) (cA : ClassId) (a : Nat → Nat) (F : Nat → Nat → Int32) (g : Nat → Int32) (N : Nat) (hW : wf F N) (z0 z1 z2 : Int32) (hk : kW z0 = 1) : Lq l D cA (S := Unit) (wX a cA F g) (fun _ => (wX a cA F g)) yL_of wsL_of rmL_of [.ref (a 16), .int 11, .int z0, .int z1, .int z2] (fun r _ => r = (-1100000001)) 1 1 6 := by
  refine Lq.ofH (cc := cL_of) (maxL := 6) (by decide) rfl (Nat.le_of_ble_eq_true rfl) ?_
  intro p e s m args below meth c ls A Q hx hb hts hown hml hK hP hD hA hS hl htab hZ hend
  have hown : s.vm.findClass RL = some m.cls := hown
  have hl : lv_has ls 6 [(0, .ref (a 16)), (1, .int 11), (2, .int z0), (3, .int z1), (4, .int z2)] := hl
  have hb9 : Bx l D cA (wX a cA F g) yX0_holiday wsX0_holiday rbX0_holiday [.ref (a 16), .int z0] eI := by have h9 := b_X0_holiday l D cA hl9 a F g N hW z0 (by rw [hk]; decide); rw [hk] at h9; exact h9
  refine lv_iload_n hx hb dL_of_0 rfl (lv_at hl 1 rfl) ?_
  refine lv_if_ne (tgt := 13) hx hb dL_of_1 (by decide) (fun c_1 => ?_) (fun c_1 => (absurd c_1 (by decide) : False).elim)
  refine lv_iload_n hx hb dL_of_13 rfl (lv_at hl 1 rfl) ?_
  refine lv_iconst (v := 1) hx hb dL_of_14 (by decide) ?_
  refine lv_icmp_ne (tgt := 26) hx hb dL_of_15 (by decide) (fun c_15 => ?_) (fun c_15 => (absurd c_15 (by decide) : False).elim)
  refine lv_iload_n hx hb dL_of_26 rfl (lv_at hl 1 rfl) ?_
  refine lv_iconst (v := 2) hx hb dL_of_27 (by decide) ?_
  refine lv_icmp_ne (tgt := 50) hx hb dL_of_28 (by decide) (fun c_28 => ?_) (fun c_28 => (absurd c_28 (by decide) : False).elim)
  refine lv_iload_n hx hb dL_of_50 rfl (lv_at hl 1 rfl) ?_
  refine lv_iconst (v := 3) hx hb dL_of_51 (by decide) ?_
  refine lv_icmp_ne (tgt := 63) hx hb dL_of_52 (by decide) (fun c_52 => ?_) (fun c_52 => (absurd c_52 (by decide) : False).elim)
  refine lv_iload_n hx hb dL_of_63 rfl (lv_at hl 1 rfl) ?_
  refine lv_iconst (v := 4) hx hb dL_of_64 (by decide) ?_
  refine lv_icmp_ne (tgt := 76) hx hb dL_of_65 (by decide) (fun c_65 => ?_) (fun c_65 => (absurd c_65 (by decide) : False).elim)
  refine lv_iload_n hx hb dL_of_76 rfl (lv_at hl 1 rfl) ?_
  refine lv_iconst (v := 5) hx hb dL_of_77 (by decide) ?_
  refine lv_icmp_ne (tgt := 90) hx hb dL_of_78 (by decide) (fun c_78 => ?_) (fun c_78 => (absurd c_78 (by decide) : False).elim)
  refine lv_iload_n hx hb dL_of_90 rfl (lv_at hl 1 rfl) ?_
  refine lv_bipush (v := 6) hx hb dL_of_91 (by decide) ?_
  refine lv_icmp_ne (tgt := 105) hx hb dL_of_93 (by decide) (fun c_93 => ?_) (fun c_93 => (absurd c_93 (by decide) : False).elim)
  refine lv_iload_n hx hb dL_of_105 rfl (lv_at hl 1 rfl) ?_
  refine lv_bipush (v := 7) hx hb dL_of_106 (by decide) ?_
  refine lv_icmp_ne (tgt := 120) hx hb dL_of_108 (by decide) (fun c_108 => ?_) (fun c_108 => (absurd c_108 (by decide) : False).elim)
  refine lv_iload_n hx hb dL_of_120 rfl (lv_at hl 1 rfl) ?_
  refine lv_bipush (v := 8) hx hb dL_of_121 (by decide) ?_
  refine lv_icmp_ne (tgt := 135) hx hb dL_of_123 (by decide) (fun c_123 => ?_) (fun c_123 => (absurd c_123 (by decide) : False).elim)
  refine lv_iload_n hx hb dL_of_135 rfl (lv_at hl 1 rfl) ?_
  refine lv_bipush (v := 9) hx hb dL_of_136 (by decide) ?_
  refine lv_icmp_ne (tgt := 150) hx hb dL_of_138 (by decide) (fun c_138 => ?_) (fun c_138 => (absurd c_138 (by decide) : False).elim)
  refine lv_iload_n hx hb dL_of_150 rfl (lv_at hl 1 rfl) ?_
  refine lv_bipush (v := 10) hx hb dL_of_151 (by decide) ?_
  refine lv_icmp_ne (tgt := 165) hx hb dL_of_153 (by decide) (fun c_153 => ?_) (fun c_153 => (absurd c_153 (by decide) : False).elim)
  refine lv_aload_n hx hb dL_of_165 rfl (lv_at hl 0 rfl) ?_
  refine lv_iload_n hx hb dL_of_166 rfl (lv_at hl 2 rfl) ?_
  refine Bx.catch (E := eI) (name := "java/lang/IndexOutOfBoundsException") (own := RL) (w := (wX a cA F g)) (vx_runV (rest := []) ⟨hx, hb, hml, hown, hts⟩ (hb9 s.heap.size) (cwV 1 hts gL_of_X0_holiday rfl rfl rfl (by decide +kernel) ⟨Nat.le_of_ble_eq_true rfl, Nat.le_of_ble_eq_true rfl⟩) ⟨(PreBx (As := [.ref (a 16), .int z0]) rfl hK hP hZ.2.2.1).1, va_recv hK hP (ci := 0) (q0 := 0) rfl rfl, (PreBx (As := [.ref (a 16), .int z0]) rfl hK hP hZ.2.2.1).2⟩ rfl rfl hl.1 rfl (lv_room (Nat.le_of_ble_eq_true rfl)) dL_of_167 ⟨Nat.le_of_ble_eq_true rfl, Nat.le_of_ble_eq_true rfl⟩) (fun _ _ _ h => h) hown [] ⟨0, 170, 171, 15⟩ [] (htab.trans rfl) (fun z hz => nomatch hz) (by decide) (by decide) (hts (.classLink RL 15 "java/lang/IndexOutOfBoundsException") (by decide +kernel)) (va_Nw.use rfl hZ.2.2.1.2.2.2.2.2.1) hP hA (fun q9 H locs hP hS hG => ?_)
  refine lv_astore (lv' := [(5, .ref q9), (0, .ref (a 16)), (1, .int 11), (2, .int z0), (3, .int z1), (4, .int z2)]) hx hb dL_of_171 hl (by decide) rfl (fun ls hl => ?_)
  refine lv_ldc (own := RL) (index := 17) (v := -1100000001) hx hb hown (hts (.constant RL 17 (-1100000001)) (by decide +kernel)) dL_of_173 ?_
  exact hend 175 ls _ () _ _ dL_of_175 hP hD hS hG rfl

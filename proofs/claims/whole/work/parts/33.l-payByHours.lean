/-! the law's payByHours; by program (wip/whole/gen) -/
abbrev rmL_payByHours : Room := { frames := 8, cells := 1, slots := 6, locals := 143 }
set_option maxHeartbeats 4000000 in
set_option maxRecDepth 100000 in
theorem c_L_payByHours (l : Launch) (hl9 : l.stackTraces = false) (D : va_G) (cA cL : ClassId) (a : Nat → Nat) (F : Nat → Nat → Int32) (g : Nat → Int32) (ob : Nat) (fo : Nat → Int64) (N : Nat) (hW : wf F N) (z0 z1 : Int32) : Lw l D cA cL (S := (Nat → Nat → Int32) × (Nat → Int32) × (Nat → Int64)) (wL a cA F g ob cL fo) (fun u => wL a cA u.1 u.2.1 ob cL u.2.2) yL_payByHours wsL_payByHours rmL_payByHours [.ref (a 16), .int z0, .int z1, .ref ob] (fun r u => r = kWW z0 z1 ∧ (kWW z0 z1 = 0 → u.1 = F ∧ u.2.2 0 = (ps (tPw F N z0 z1) N : Int32).toInt64) ∧ (kWW z0 z1 ≠ 0 → u.1 = F)) := by
  refine Lw.of (cc := cL_payByHours) (maxL := 5) (by decide) rfl (Nat.le_of_ble_eq_true rfl) ?_
  intro p e s m args below meth c ls A Q hx hb hts hown hml hK hP hD hA hS hl htab hZ hend
  have hown : s.vm.findClass RL = some m.cls := hown
  have hKA : KA D cA s := hK.sub [0] rfl
  have hl : lv_has ls 5 [(0, .ref (a 16)), (1, .int z0), (2, .int z1), (3, .ref ob)] := hl
  rcases kWW_r z0 z1 with hk | hk
  · obtain ⟨h1, h2⟩ := kWW_0 z0 z1 hk
    refine lv_aload_n hx hb dL_payByHours_0 rfl (lv_at hl 3 rfl) ?_
    refine lv_iconst (v := 0) hx hb dL_payByHours_1 (by decide) ?_
    refine lv_aload_n hx hb dL_payByHours_2 rfl (lv_at hl 0 rfl) ?_
    refine lv_iload_n hx hb dL_payByHours_3 rfl (lv_at hl 1 rfl) ?_
    refine lv_iload_n hx hb dL_payByHours_4 rfl (lv_at hl 2 rfl) ?_
    refine Rd.callV (rest := [.int 0, .ref ob]) (q0 := 0) (ci := 0) ⟨hx, hb, hml, hown, hts⟩ (c_X0_payByHours l D cA a F g N hW z0 z1 h1 h2) (cwV 2 hts gL_payByHours_X0_payByHours rfl rfl rfl (by decide +kernel) ⟨Nat.le_of_ble_eq_true rfl, Nat.le_of_ble_eq_true rfl⟩) hKA (hP.sub [0, 1, 2, 3, 4, 5, 6, 7, 8, 9, 10, 11, 12, 13] rfl : va_P D vwCl (wX a cA F g) s.heap) rfl rfl rfl rfl rfl hl.1 (Nat.le_of_ble_eq_true rfl) dL_payByHours_5 ⟨Nat.zero_le _, Nat.zero_le _⟩ ?_
    refine lv_i2l (v := ((ps (tPw F N z0 z1) N) : Int32).toInt64) hx hb dL_payByHours_8 rfl ?_
    refine va_last hx hb hK hP hD hS 14 1 rfl rfl (vp_in_nI (n := 0) (N := 1) (by decide) (by decide)) dL_payByHours_9 (fun H locs hP hD hS => ?_)
    have hP : va_P D vwCl (wL a cA F g ob cL (vp_updL fo 0 (((ps (tPw F N z0 z1) N) : Int32).toInt64))) H := hP
    have hD : va_D A (wL a cA F g ob cL (vp_updL fo 0 (((ps (tPw F N z0 z1) N) : Int32).toInt64))) := hD
    refine lv_goto (tgt := 17) hx hb dL_payByHours_10 (by decide) ?_
    refine lv_iconst (v := 0) hx hb dL_payByHours_17 (by decide) ?_
    refine W.widen (k := 1) (n := 6) (Nat.zero_le _) (Nat.zero_le _) ?_
    exact hend 18 ls _ (F, g, (vp_updL fo 0 (((ps (tPw F N z0 z1) N) : Int32).toInt64))) _ _ dL_payByHours_18 hP hD hS ⟨hk.symm, fun _ => ⟨rfl, rfl⟩, fun h => absurd hk h⟩
  · have hb9 : Bx l D cA (wX a cA F g) yX0_payByHours wsX0_payByHours rbX0_payByHours [.ref (a 16), .int z0, .int z1] eI := by have h9 := b_X0_payByHours l D cA hl9 a F g N hW z0 z1 (by rw [hk]; decide); rw [hk] at h9; exact h9
    refine lv_aload_n hx hb dL_payByHours_0 rfl (lv_at hl 3 rfl) ?_
    refine lv_iconst (v := 0) hx hb dL_payByHours_1 (by decide) ?_
    refine lv_aload_n hx hb dL_payByHours_2 rfl (lv_at hl 0 rfl) ?_
    refine lv_iload_n hx hb dL_payByHours_3 rfl (lv_at hl 1 rfl) ?_
    refine lv_iload_n hx hb dL_payByHours_4 rfl (lv_at hl 2 rfl) ?_
    refine Bx.catch (E := eI) (name := "java/lang/IndexOutOfBoundsException") (own := RL) (w := (wL a cA F g ob cL fo)) (vx_runV (rest := [.int 0, .ref ob]) ⟨hx, hb, hml, hown, hts⟩ (hb9 s.heap.size) (cwV 2 hts gL_payByHours_X0_payByHours rfl rfl rfl (by decide +kernel) ⟨Nat.le_of_ble_eq_true rfl, Nat.le_of_ble_eq_true rfl⟩) ⟨(PreBx (As := [.ref (a 16), .int z0, .int z1]) rfl hKA (hP.sub [0, 1, 2, 3, 4, 5, 6, 7, 8, 9, 10, 11, 12, 13] rfl : va_P D vwCl (wX a cA F g) s.heap) hZ.1).1, va_recv hKA (hP.sub [0, 1, 2, 3, 4, 5, 6, 7, 8, 9, 10, 11, 12, 13] rfl : va_P D vwCl (wX a cA F g) s.heap) (ci := 0) (q0 := 0) rfl rfl, (PreBx (As := [.ref (a 16), .int z0, .int z1]) rfl hKA (hP.sub [0, 1, 2, 3, 4, 5, 6, 7, 8, 9, 10, 11, 12, 13] rfl : va_P D vwCl (wX a cA F g) s.heap) hZ.1).2⟩ rfl rfl hl.1 rfl (lv_room (Nat.le_of_ble_eq_true rfl)) dL_payByHours_5 ⟨Nat.le_of_ble_eq_true rfl, Nat.le_of_ble_eq_true rfl⟩) (fun _ _ _ h => h) hown [] ⟨0, 10, 13, 13⟩ [] (htab.trans rfl) (fun z hz => nomatch hz) (by decide) (by decide) (hts (.classLink RL 13 "java/lang/IndexOutOfBoundsException") (by decide +kernel)) (va_Nw.use rfl hZ.1.2.2.2.2.2.1) hP hA (fun q9 H locs hP hS => ?_)
    refine lv_astore (lv' := [(4, .ref q9), (0, .ref (a 16)), (1, .int z0), (2, .int z1), (3, .ref ob)]) hx hb dL_payByHours_13 hl (by decide) rfl (fun ls hl => ?_)
    refine lv_iconst (v := 1) hx hb dL_payByHours_15 (by decide) ?_
    exact hend 16 ls _ (F, g, fo) _ _ dL_payByHours_16 hP hD hS ⟨hk.symm, fun h => absurd (hk.symm.trans h) (by decide), fun _ => rfl⟩


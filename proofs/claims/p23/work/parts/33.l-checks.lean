/-! the law's checks at no shift; by program (wip/p23/gen) -/
/-- no shift, nothing paid, billed or taken, the first span -/
def zs (F : Nat → Nat → Int32) : Prop := wf F 0 ∧ F 5 0 = 4 ∧ (∀ j, F 12 j = 0) ∧ (∀ j, F 13 j = 0) ∧ (∀ j, F 14 j = 0)
theorem hol0 {F : Nat → Nat → Int32} (hz : zs F) (f : Nat → Int32) (j : Nat) : 7 * ps f 0 - F 14 j = 0 := by
  rw [hz.2.2.2.2 j]; show (7 * 0 - 0 : Int32) = 0; decide
theorem ow0 {f : Nat → Int32} {x : Int32} (h : x = 0) : ps f 0 - x = 0 := by
  rw [h]; show (0 - 0 : Int32) = 0; decide
theorem heq0 {F : Nat → Nat → Int32} (hz : zs F) (w t : Int32) : (if F 5 0 ≤ sEqV F 0 w t (0 : Int32).toNatClampNeg then (1 : Int32) else 0) = 0 := by
  rw [hz.2.1]; rfl
theorem cI_nI {i n : Nat} (h : i < n) (hn : n ≤ 200) : cI (nI i) (nI n) := by
  refine ⟨fun h0 => ?_, (nI_ltI (by omega) (by omega)).mpr h⟩
  have h1 : nI i < nI 0 := h0
  rw [nI_ltI (by omega) (by omega)] at h1
  omega

abbrev rmL_all : Room := { frames := 8, cells := 0, slots := 0, locals := 167 }

abbrev rmL_areSums : Room := { frames := 8, cells := 0, slots := 0, locals := 168 }

abbrev rmL_isOvertime : Room := { frames := 8, cells := 0, slots := 0, locals := 135 }

abbrev rmL_isEqual : Room := { frames := 8, cells := 0, slots := 0, locals := 134 }

abbrev rmL_areShifts : Room := { frames := 8, cells := 0, slots := 0, locals := 143 }

set_option maxHeartbeats 4000000 in
set_option maxRecDepth 100000 in
theorem k_L_all (l : Launch) (D : va_G) (cA : ClassId) (a : Nat → Nat) (F : Nat → Nat → Int32) (g : Nat → Int32) (at_ am ar : Nat) (Y : Nat → Int32) (hz : zs F) : Lj l D cA (S := Nat → Int32) (wK a cA F g am ar Y) (fun g => wK a cA F g am ar Y) yL_all wsL_all rmL_all [.ref (a 16), .ref am] (fun r _ => r = 0) 0 0 0 := by
  refine Lj.of (cc := cL_all) (maxL := 5) (by decide) rfl (Nat.le_of_ble_eq_true rfl) ?_
  intro p e s m args below meth c ls A Q hx hb hts hown hml hK hP hD hA hS hl hZ hend
  have hown : s.vm.findClass RL = some m.cls := hown
  have hl : lv_has ls 5 [(0, .ref (a 16)), (1, .ref am)] := hl
  have h6 : (6 : Int32) = nI 6 := rfl
  refine lv_aload_n hx hb dL_all_0 rfl (lv_at hl 0 rfl) ?_
  refine Rd.callV (rest := []) (q0 := 0) (ci := 0) ⟨hx, hb, hml, hown, hts⟩ (c_X0_shifts l D cA a F g) (cwV 0 hts gL_all_X0_shifts rfl rfl rfl (by decide +kernel) ⟨Nat.le_of_ble_eq_true rfl, Nat.le_of_ble_eq_true rfl⟩) hK (hP.sub [0, 1, 2, 3, 4, 5, 6, 7, 8, 9, 10, 11, 12, 13] rfl : va_P D vwCl (wX a cA F g) _) rfl rfl rfl rfl rfl hl.1 (Nat.le_of_ble_eq_true rfl) dL_all_1 ⟨Nat.le_of_ble_eq_true rfl, Nat.le_of_ble_eq_true rfl⟩ ?_
  refine ri_top 0 (hz.1.c) ?_
  refine lv_i2l (v := 0) hx hb dL_all_4 (by decide +kernel) ?_
  refine lv_lstore_n (lv' := [(2, .long 0), (0, .ref (a 16)), (1, .ref am)]) hx hb dL_all_5 rfl hl (by decide) rfl (fun ls hl => ?_)
  refine lv_iconst (v := 0) hx hb dL_all_6 (by decide) ?_
  refine lv_istore (lv' := [(4, .int 0), (2, .long 0), (0, .ref (a 16)), (1, .ref am)]) hx hb dL_all_7 hl (by decide) rfl (fun ls hl => ?_)
  refine lv_iload hx hb dL_all_9 (lv_at hl 0 rfl) ?_
  refine lv_aload_n hx hb dL_all_11 rfl (lv_at hl 3 rfl) ?_
  refine lv_iconst (v := 0) hx hb dL_all_12 (by decide) ?_
  refine ri_ald (j := 0) hx hb hK hP 14 rfl (rfl) (by decide) (by decide) dL_all_13 ?_
  refine ri_top 0 rfl ?_
  refine lv_icmp_ge (tgt := 49) hx hb dL_all_14 (by decide) (fun c_14 => ?_) (fun c_14 => (absurd (by decide) c_14 : False).elim)
  refine lv_iconst (v := 0) hx hb dL_all_49 (by decide) ?_
  refine lv_istore (lv' := [(4, .int 0), (2, .long 0), (0, .ref (a 16)), (1, .ref am)]) hx hb dL_all_50 hl (by decide) rfl (fun ls hl => ?_)
  have K_52 : ∀ (n i : Nat) (g : Nat → Int32) (H : Heap) (locs : List Loc) (ls : Array Slot), i + n = 6 → va_P D vwCl (wK a cA F g am ar Y) H → va_D A (wK a cA F g am ar Y) → va_S A s.heap H locs → lv_has ls 5 [(0, .ref (a 16)), (1, .ref am), (2, .long 0), (4, .int (nI i))] → W p l e rmL_all s m args below meth c H locs 0 0 Q (F0 m 52 ls []) := by
    intro n
    induction n with
    | zero =>
      intro i  g H locs ls hin_52   hP hD hS hl
      have hiN : i = 6 := by omega
      refine lv_iload hx hb dL_all_52 (lv_at hl 3 rfl) ?_
      refine lv_bipush (v := 6) hx hb dL_all_54 (by decide) ?_
      refine lv_icmp_ge (tgt := 105) hx hb dL_all_56 (by decide) (fun c_56 => ?_) (fun c_56 => (absurd (((br_ge h6 (by omega) (by omega : i ≤ 6)).mpr hiN)) c_56 : False).elim)
      refine lv_lload_n hx hb dL_all_105 rfl (lv_at hl 2 rfl) ?_
      exact hend 106 ls _ g _ _ dL_all_106 hP hD hS hS.1 rfl
    | succ n ih_52 =>
      intro i  g H locs ls hin_52   hP hD hS hl
      have hiN : i < 6 := by omega
      refine lv_iload hx hb dL_all_52 (lv_at hl 3 rfl) ?_
      refine lv_bipush (v := 6) hx hb dL_all_54 (by decide) ?_
      refine lv_icmp_ge (tgt := 105) hx hb dL_all_56 (by decide) (fun c_56 => (absurd (((br_ge h6 (by omega) (by omega : i ≤ 6)).mp c_56)) (by omega) : False).elim) (fun c_56 => ?_)
      refine lv_ldc2 (own := RL) (index := 88) (v := 1000003) hx hb hown (hts (.constantLong RL 88 (1000003)) (by decide +kernel)) dL_all_59 ?_
      refine lv_lload_n hx hb dL_all_62 rfl (lv_at hl 2 rfl) ?_
      refine lv_lmul hx hb dL_all_63 ?_
      refine ri_topl 0 (by decide +kernel) ?_
      refine lv_aload_n hx hb dL_all_64 rfl (lv_at hl 0 rfl) ?_
      refine lv_iload hx hb dL_all_65 (lv_at hl 3 rfl) ?_
      refine Rd.callV (rest := [.long 0]) (q0 := 0) (ci := 0) ⟨hx, hb, hml, hown, hts⟩ (c_X0_holiday l D cA a F g 0 hz.1 (nI i) (cI_nI hiN (by decide))) (cwV 1 hts gL_all_X0_holiday rfl rfl rfl (by decide +kernel) ⟨Nat.le_of_ble_eq_true rfl, Nat.le_of_ble_eq_true rfl⟩) hK (hP.sub [0, 1, 2, 3, 4, 5, 6, 7, 8, 9, 10, 11, 12, 13] rfl : va_P D vwCl (wX a cA F g) _) rfl rfl rfl rfl rfl hl.1 (Nat.le_of_ble_eq_true rfl) dL_all_67 ⟨Nat.le_of_ble_eq_true rfl, Nat.le_of_ble_eq_true rfl⟩ ?_
      refine ri_top 0 (hol0 hz _ _) ?_
      refine lv_i2l (v := 0) hx hb dL_all_70 (by decide +kernel) ?_
      refine lv_ladd hx hb dL_all_71 ?_
      refine ri_topl 0 (by decide +kernel) ?_
      refine lv_ldc2 (own := RL) (index := 92) (v := 257) hx hb hown (hts (.constantLong RL 92 (257)) (by decide +kernel)) dL_all_72 ?_
      refine lv_aload_n hx hb dL_all_75 rfl (lv_at hl 0 rfl) ?_
      refine lv_iload hx hb dL_all_76 (lv_at hl 3 rfl) ?_
      refine lv_iconst (v := 0) hx hb dL_all_78 (by decide) ?_
      refine Rd.callV (rest := [.long 257, .long 0]) (q0 := 0) (ci := 0) ⟨hx, hb, hml, hown, hts⟩ (c_X0_paid l D cA a F g 0 hz.1 (nI i) 0 (cI_nI hiN (by decide)) (by decide)) (cwV 2 hts gL_all_X0_paid rfl rfl rfl (by decide +kernel) ⟨Nat.le_of_ble_eq_true rfl, Nat.le_of_ble_eq_true rfl⟩) hK (hP.sub [0, 1, 2, 3, 4, 5, 6, 7, 8, 9, 10, 11, 12, 13] rfl : va_P D vwCl (wX a cA F g) _) rfl rfl rfl rfl rfl hl.1 (Nat.le_of_ble_eq_true rfl) dL_all_79 ⟨Nat.le_of_ble_eq_true rfl, Nat.le_of_ble_eq_true rfl⟩ ?_
      refine ri_top 0 (hz.2.2.1 _) ?_
      refine lv_i2l (v := 0) hx hb dL_all_82 (by decide +kernel) ?_
      refine lv_lmul hx hb dL_all_83 ?_
      refine ri_topl 0 (by decide +kernel) ?_
      refine lv_ladd hx hb dL_all_84 ?_
      refine ri_topl 0 (by decide +kernel) ?_
      refine lv_ldc2 (own := RL) (index := 94) (v := 65537) hx hb hown (hts (.constantLong RL 94 (65537)) (by decide +kernel)) dL_all_85 ?_
      refine lv_aload_n hx hb dL_all_88 rfl (lv_at hl 0 rfl) ?_
      refine lv_iload hx hb dL_all_89 (lv_at hl 3 rfl) ?_
      refine lv_iconst (v := 1) hx hb dL_all_91 (by decide) ?_
      refine Wi.callV (rest := [.long 65537, .long 0]) (q0 := 0) (ci := 0) (wr := [(am, .inl (cA, 7, .inl (fun _ => 0))), (ar, .inl (cA, 22, .inl Y))]) [0, 1, 2, 3, 4, 5, 6, 7, 8, 9, 10, 11, 12, 13] [14, 15] ⟨hx, hb, hml, hown, hts⟩ (c_X0_owing l D cA a F g 0 hz.1 (nI i) 1 (cI_nI hiN (by decide)) (by decide)) (cwV 2 hts gL_all_X0_owing rfl rfl rfl (by decide +kernel) ⟨Nat.le_of_ble_eq_true rfl, Nat.le_of_ble_eq_true rfl⟩) hK hP hD hS hA rfl rfl (by decide) (by decide) (by decide) rfl rfl rfl rfl rfl hl.1 (Nat.le_of_ble_eq_true rfl) dL_all_92 ⟨Nat.le_of_ble_eq_true rfl, Nat.le_of_ble_eq_true rfl⟩ (fun r9 u92 H locs hu9 hP hD hS => ?_)
      have hP : va_P D vwCl (wK a cA F u92 am ar Y) H := hP.sub [2, 3, 4, 5, 6, 7, 8, 9, 10, 11, 12, 13, 14, 15, 0, 1] rfl
      have hD : va_D A (wK a cA F u92 am ar Y) := hD.sub [2, 3, 4, 5, 6, 7, 8, 9, 10, 11, 12, 13, 14, 15, 0, 1] (by decide) rfl
      refine ri_top 0 (hu9.trans (ow0 (hz.2.2.1 _))) ?_
      refine lv_i2l (v := 0) hx hb dL_all_95 (by decide +kernel) ?_
      refine lv_lmul hx hb dL_all_96 ?_
      refine ri_topl 0 (by decide +kernel) ?_
      refine lv_ladd hx hb dL_all_97 ?_
      refine ri_topl 0 (by decide +kernel) ?_
      refine lv_lstore_n (lv' := [(2, .long 0), (0, .ref (a 16)), (1, .ref am), (4, .int (nI i))]) hx hb dL_all_98 rfl hl (by decide) rfl (fun ls hl => ?_)
      refine lv_iinc (v := (nI (i + 1))) (lv' := [(4, .int (nI (i + 1))), (2, .long 0), (0, .ref (a 16)), (1, .ref am)]) hx hb dL_all_99 hl (k := 3) rfl (nI_1 i) (by decide) rfl (fun ls hl => ?_)
      refine lv_goto (tgt := 52) hx hb dL_all_102 (by decide) ?_
      exact ih_52 (i + 1)  u92 _ _ ls (by omega)   hP hD hS (lv_sub hl [2, 3, 1, 0] rfl)
  exact K_52 6 0  g _ _ ls (by omega)   hP hD hS (lv_sub hl [2, 3, 1, 0] rfl)

set_option maxHeartbeats 4000000 in
set_option maxRecDepth 100000 in
theorem k_L_areSums (l : Launch) (D : va_G) (cA : ClassId) (a : Nat → Nat) (F : Nat → Nat → Int32) (g : Nat → Int32) (at_ am ar : Nat) (Y : Nat → Int32) (hz : zs F) : Lq l D cA (S := Nat → Int32) (wK a cA F g am ar Y) (fun g => wK a cA F g am ar Y) yL_areSums wsL_areSums rmL_areSums [.ref (a 16), .ref at_, .ref am, .int 0] (fun r _ => r = 1) 0 0 0 := by
  refine Lq.ofz (cc := cL_areSums) (maxL := 11) (by decide) rfl (Nat.le_of_ble_eq_true rfl) ?_
  intro p e s m args below meth c ls A Q hx hb hts hown hml hK hP hD hA hS hl hZ hend
  have hown : s.vm.findClass RL = some m.cls := hown
  have hl : lv_has ls 11 [(0, .ref (a 16)), (1, .ref at_), (2, .ref am), (3, .int 0)] := hl
  have h4 : (4 : Int32) = nI 4 := rfl
  have h6 : (6 : Int32) = nI 6 := rfl
  refine lv_iconst (v := 0) hx hb dL_areSums_0 (by decide) ?_
  refine lv_istore (lv' := [(4, .int 0), (0, .ref (a 16)), (1, .ref at_), (2, .ref am), (3, .int 0)]) hx hb dL_areSums_1 hl (by decide) rfl (fun ls hl => ?_)
  refine lv_iconst (v := 0) hx hb dL_areSums_3 (by decide) ?_
  refine lv_istore (lv' := [(5, .int 0), (4, .int 0), (0, .ref (a 16)), (1, .ref at_), (2, .ref am), (3, .int 0)]) hx hb dL_areSums_4 hl (by decide) rfl (fun ls hl => ?_)
  refine lv_iconst (v := 1) hx hb dL_areSums_6 (by decide) ?_
  refine lv_istore (lv' := [(6, .int 1), (5, .int 0), (4, .int 0), (0, .ref (a 16)), (1, .ref at_), (2, .ref am), (3, .int 0)]) hx hb dL_areSums_7 hl (by decide) rfl (fun ls hl => ?_)
  refine lv_iconst (v := 0) hx hb dL_areSums_9 (by decide) ?_
  refine lv_istore (lv' := [(7, .int 0), (6, .int 1), (5, .int 0), (4, .int 0), (0, .ref (a 16)), (1, .ref at_), (2, .ref am), (3, .int 0)]) hx hb dL_areSums_10 hl (by decide) rfl (fun ls hl => ?_)
  have K_12 : ∀ (n i : Nat) (g : Nat → Int32) (H : Heap) (locs : List Loc) (ls : Array Slot), i + n = 6 → va_P D vwCl (wK a cA F g am ar Y) H → va_D A (wK a cA F g am ar Y) → va_S A s.heap H locs → lv_has ls 11 [(0, .ref (a 16)), (1, .ref at_), (2, .ref am), (3, .int 0), (4, .int 0), (5, .int 0), (6, .int 1), (7, .int (nI i))] → W p l e rmL_areSums s m args below meth c H locs 0 0 Q (F0 m 12 ls []) := by
    intro n
    induction n with
    | zero =>
      intro i  g H locs ls hin_12   hP hD hS hl
      have hiN : i = 6 := by omega
      refine lv_iload hx hb dL_areSums_12 (lv_at hl 7 rfl) ?_
      refine lv_bipush (v := 6) hx hb dL_areSums_14 (by decide) ?_
      refine lv_icmp_ge (tgt := 208) hx hb dL_areSums_16 (by decide) (fun c_16 => ?_) (fun c_16 => (absurd (((br_ge h6 (by omega) (by omega : i ≤ 6)).mpr hiN)) c_16 : False).elim)
      refine lv_iconst (v := 0) hx hb dL_areSums_208 (by decide) ?_
      refine lv_istore (lv' := [(7, .int 0), (0, .ref (a 16)), (1, .ref at_), (2, .ref am), (3, .int 0), (4, .int 0), (5, .int 0), (6, .int 1)]) hx hb dL_areSums_209 hl (by decide) rfl (fun ls hl => ?_)
      have K_211 : ∀ (n i : Nat) (g : Nat → Int32) (H : Heap) (locs : List Loc) (ls : Array Slot), i + n = 4 → va_P D vwCl (wK a cA F g am ar Y) H → va_D A (wK a cA F g am ar Y) → va_S A s.heap H locs → lv_has ls 11 [(0, .ref (a 16)), (1, .ref at_), (2, .ref am), (3, .int 0), (4, .int 0), (5, .int 0), (6, .int 1), (7, .int (nI i))] → W p l e rmL_areSums s m args below meth c H locs 0 0 Q (F0 m 211 ls []) := by
        intro n
        induction n with
        | zero =>
          intro i  g H locs ls hin_211   hP hD hS hl
          have hiN : i = 4 := by omega
          refine lv_iload hx hb dL_areSums_211 (lv_at hl 7 rfl) ?_
          refine lv_iconst (v := 4) hx hb dL_areSums_213 (by decide) ?_
          refine lv_icmp_ge (tgt := 324) hx hb dL_areSums_214 (by decide) (fun c_214 => ?_) (fun c_214 => (absurd (((br_ge h4 (by omega) (by omega : i ≤ 4)).mpr hiN)) c_214 : False).elim)
          refine lv_iload hx hb dL_areSums_324 (lv_at hl 6 rfl) ?_
          refine lv_if_eq (tgt := 340) hx hb dL_areSums_326 (by decide) (fun c_326 => (absurd c_326 (by decide) : False).elim) (fun c_326 => ?_)
          refine lv_iload hx hb dL_areSums_329 (lv_at hl 5 rfl) ?_
          refine lv_iload hx hb dL_areSums_331 (lv_at hl 4 rfl) ?_
          refine lv_icmp_lt (tgt := 340) hx hb dL_areSums_333 (by decide) (fun c_333 => (absurd c_333 (by decide) : False).elim) (fun c_333 => ?_)
          refine lv_iconst (v := 1) hx hb dL_areSums_336 (by decide) ?_
          refine lv_goto (tgt := 341) hx hb dL_areSums_337 (by decide) ?_
          exact hend 341 ls _ g _ _ dL_areSums_341 hP hD hS hS.1 rfl (Or.inr rfl)
        | succ n ih_211 =>
          intro i  g H locs ls hin_211   hP hD hS hl
          have hiN : i < 4 := by omega
          refine lv_iload hx hb dL_areSums_211 (lv_at hl 7 rfl) ?_
          refine lv_iconst (v := 4) hx hb dL_areSums_213 (by decide) ?_
          refine lv_icmp_ge (tgt := 324) hx hb dL_areSums_214 (by decide) (fun c_214 => (absurd (((br_ge h4 (by omega) (by omega : i ≤ 4)).mp c_214)) (by omega) : False).elim) (fun c_214 => ?_)
          refine lv_iload hx hb dL_areSums_217 (lv_at hl 6 rfl) ?_
          refine lv_if_eq (tgt := 324) hx hb dL_areSums_219 (by decide) (fun c_219 => (absurd c_219 (by decide) : False).elim) (fun c_219 => ?_)
          refine lv_iconst (v := 0) hx hb dL_areSums_222 (by decide) ?_
          refine lv_istore (lv' := [(8, .int 0), (0, .ref (a 16)), (1, .ref at_), (2, .ref am), (3, .int 0), (4, .int 0), (5, .int 0), (6, .int 1), (7, .int (nI i))]) hx hb dL_areSums_223 hl (by decide) rfl (fun ls hl => ?_)
          refine lv_iconst (v := 0) hx hb dL_areSums_225 (by decide) ?_
          refine lv_istore (lv' := [(9, .int 0), (8, .int 0), (0, .ref (a 16)), (1, .ref at_), (2, .ref am), (3, .int 0), (4, .int 0), (5, .int 0), (6, .int 1), (7, .int (nI i))]) hx hb dL_areSums_226 hl (by decide) rfl (fun ls hl => ?_)
          refine lv_iload hx hb dL_areSums_228 (lv_at hl 0 rfl) ?_
          refine lv_aload_n hx hb dL_areSums_230 rfl (lv_at hl 4 rfl) ?_
          refine lv_iconst (v := 0) hx hb dL_areSums_231 (by decide) ?_
          refine ri_ald (j := 0) hx hb hK hP 14 rfl (rfl) (by decide) (by decide) dL_areSums_232 ?_
          refine ri_top 0 rfl ?_
          refine lv_icmp_ge (tgt := 284) hx hb dL_areSums_233 (by decide) (fun c_233 => ?_) (fun c_233 => (absurd (by decide) c_233 : False).elim)
          refine lv_iload hx hb dL_areSums_284 (lv_at hl 7 rfl) ?_
          refine lv_iload hx hb dL_areSums_286 (lv_at hl 1 rfl) ?_
          refine lv_iadd hx hb dL_areSums_288 ?_
          refine ri_top 0 (by decide +kernel) ?_
          refine lv_istore (lv' := [(5, .int 0), (9, .int 0), (8, .int 0), (0, .ref (a 16)), (1, .ref at_), (2, .ref am), (3, .int 0), (4, .int 0), (6, .int 1), (7, .int (nI i))]) hx hb dL_areSums_289 hl (by decide) rfl (fun ls hl => ?_)
          refine lv_aload_n hx hb dL_areSums_291 rfl (lv_at hl 3 rfl) ?_
          refine lv_iload hx hb dL_areSums_292 (lv_at hl 9 rfl) ?_
          refine lv_iload_n hx hb dL_areSums_294 rfl (lv_at hl 6 rfl) ?_
          refine Rd.callV (rest := []) (q0 := 0) (ci := 0) ⟨hx, hb, hml, hown, hts⟩ (c_X0_billed l D cA a F g 0 hz.1 (nI i) 0 (cI_nI hiN (by decide)) (by decide)) (cwV 2 hts gL_areSums_X0_billed rfl rfl rfl (by decide +kernel) ⟨Nat.le_of_ble_eq_true rfl, Nat.le_of_ble_eq_true rfl⟩) hK (hP.sub [0, 1, 2, 3, 4, 5, 6, 7, 8, 9, 10, 11, 12, 13] rfl : va_P D vwCl (wX a cA F g) _) rfl rfl rfl rfl rfl hl.1 (Nat.le_of_ble_eq_true rfl) dL_areSums_295 ⟨Nat.le_of_ble_eq_true rfl, Nat.le_of_ble_eq_true rfl⟩ ?_
          refine ri_top 0 (hz.2.2.2.1 _) ?_
          refine lv_aload_n hx hb dL_areSums_298 rfl (lv_at hl 3 rfl) ?_
          refine lv_iload hx hb dL_areSums_299 (lv_at hl 9 rfl) ?_
          refine lv_iload_n hx hb dL_areSums_301 rfl (lv_at hl 6 rfl) ?_
          refine Wi.callV (rest := [.int 0]) (q0 := 0) (ci := 0) (wr := [(am, .inl (cA, 7, .inl (fun _ => 0))), (ar, .inl (cA, 22, .inl Y))]) [0, 1, 2, 3, 4, 5, 6, 7, 8, 9, 10, 11, 12, 13] [14, 15] ⟨hx, hb, hml, hown, hts⟩ (c_X0_toBill l D cA a F g 0 hz.1 (nI i) 0 (cI_nI hiN (by decide)) (by decide)) (cwV 2 hts gL_areSums_X0_toBill rfl rfl rfl (by decide +kernel) ⟨Nat.le_of_ble_eq_true rfl, Nat.le_of_ble_eq_true rfl⟩) hK hP hD hS hA rfl rfl (by decide) (by decide) (by decide) rfl rfl rfl rfl rfl hl.1 (Nat.le_of_ble_eq_true rfl) dL_areSums_302 ⟨Nat.le_of_ble_eq_true rfl, Nat.le_of_ble_eq_true rfl⟩ (fun r9 u302 H locs hu9 hP hD hS => ?_)
          have hP : va_P D vwCl (wK a cA F u302 am ar Y) H := hP.sub [2, 3, 4, 5, 6, 7, 8, 9, 10, 11, 12, 13, 14, 15, 0, 1] rfl
          have hD : va_D A (wK a cA F u302 am ar Y) := hD.sub [2, 3, 4, 5, 6, 7, 8, 9, 10, 11, 12, 13, 14, 15, 0, 1] (by decide) rfl
          refine ri_top 0 (hu9.trans (ow0 (hz.2.2.2.1 _))) ?_
          refine lv_iadd hx hb dL_areSums_305 ?_
          refine ri_top 0 (by decide +kernel) ?_
          refine lv_iload hx hb dL_areSums_306 (lv_at hl 2 rfl) ?_
          refine lv_icmp_ne (tgt := 315) hx hb dL_areSums_308 (by decide) (fun c_308 => (absurd (by decide) c_308 : False).elim) (fun c_308 => ?_)
          refine lv_iconst (v := 1) hx hb dL_areSums_311 (by decide) ?_
          refine lv_goto (tgt := 316) hx hb dL_areSums_312 (by decide) ?_
          refine lv_istore (lv' := [(6, .int 1), (5, .int 0), (9, .int 0), (8, .int 0), (0, .ref (a 16)), (1, .ref at_), (2, .ref am), (3, .int 0), (4, .int 0), (7, .int (nI i))]) hx hb dL_areSums_316 hl (by decide) rfl (fun ls hl => ?_)
          refine lv_iinc (v := (nI (i + 1))) (lv' := [(7, .int (nI (i + 1))), (6, .int 1), (5, .int 0), (9, .int 0), (8, .int 0), (0, .ref (a 16)), (1, .ref at_), (2, .ref am), (3, .int 0), (4, .int 0)]) hx hb dL_areSums_318 hl (k := 9) rfl (nI_1 i) (by decide) rfl (fun ls hl => ?_)
          refine lv_goto (tgt := 211) hx hb dL_areSums_321 (by decide) ?_
          exact ih_211 (i + 1)  u302 _ _ ls (by omega)   hP hD hS (lv_sub hl [5, 6, 7, 8, 9, 2, 1, 0] rfl)
      exact K_211 4 0  g _ _ ls (by omega)   hP hD hS (lv_sub hl [1, 2, 3, 4, 5, 6, 7, 0] rfl)
    | succ n ih_12 =>
      intro i  g H locs ls hin_12   hP hD hS hl
      have hiN : i < 6 := by omega
      refine lv_iload hx hb dL_areSums_12 (lv_at hl 7 rfl) ?_
      refine lv_bipush (v := 6) hx hb dL_areSums_14 (by decide) ?_
      refine lv_icmp_ge (tgt := 208) hx hb dL_areSums_16 (by decide) (fun c_16 => (absurd (((br_ge h6 (by omega) (by omega : i ≤ 6)).mp c_16)) (by omega) : False).elim) (fun c_16 => ?_)
      refine lv_iload hx hb dL_areSums_19 (lv_at hl 6 rfl) ?_
      refine lv_if_eq (tgt := 208) hx hb dL_areSums_21 (by decide) (fun c_21 => (absurd c_21 (by decide) : False).elim) (fun c_21 => ?_)
      refine lv_iconst (v := 0) hx hb dL_areSums_24 (by decide) ?_
      refine lv_istore (lv' := [(8, .int 0), (0, .ref (a 16)), (1, .ref at_), (2, .ref am), (3, .int 0), (4, .int 0), (5, .int 0), (6, .int 1), (7, .int (nI i))]) hx hb dL_areSums_25 hl (by decide) rfl (fun ls hl => ?_)
      refine lv_iconst (v := 0) hx hb dL_areSums_27 (by decide) ?_
      refine lv_istore (lv' := [(9, .int 0), (8, .int 0), (0, .ref (a 16)), (1, .ref at_), (2, .ref am), (3, .int 0), (4, .int 0), (5, .int 0), (6, .int 1), (7, .int (nI i))]) hx hb dL_areSums_28 hl (by decide) rfl (fun ls hl => ?_)
      refine lv_iconst (v := 0) hx hb dL_areSums_30 (by decide) ?_
      refine lv_istore (lv' := [(10, .int 0), (9, .int 0), (8, .int 0), (0, .ref (a 16)), (1, .ref at_), (2, .ref am), (3, .int 0), (4, .int 0), (5, .int 0), (6, .int 1), (7, .int (nI i))]) hx hb dL_areSums_31 hl (by decide) rfl (fun ls hl => ?_)
      refine lv_iload hx hb dL_areSums_33 (lv_at hl 0 rfl) ?_
      refine lv_aload_n hx hb dL_areSums_35 rfl (lv_at hl 5 rfl) ?_
      refine lv_iconst (v := 0) hx hb dL_areSums_36 (by decide) ?_
      refine ri_ald (j := 0) hx hb hK hP 14 rfl (rfl) (by decide) (by decide) dL_areSums_37 ?_
      refine ri_top 0 rfl ?_
      refine lv_icmp_ge (tgt := 117) hx hb dL_areSums_38 (by decide) (fun c_38 => ?_) (fun c_38 => (absurd (by decide) c_38 : False).elim)
      refine lv_iload hx hb dL_areSums_117 (lv_at hl 7 rfl) ?_
      refine lv_iload hx hb dL_areSums_119 (lv_at hl 2 rfl) ?_
      refine lv_iadd hx hb dL_areSums_121 ?_
      refine ri_top 0 (by decide +kernel) ?_
      refine lv_istore (lv' := [(4, .int 0), (10, .int 0), (9, .int 0), (8, .int 0), (0, .ref (a 16)), (1, .ref at_), (2, .ref am), (3, .int 0), (5, .int 0), (6, .int 1), (7, .int (nI i))]) hx hb dL_areSums_122 hl (by decide) rfl (fun ls hl => ?_)
      refine lv_aload_n hx hb dL_areSums_124 rfl (lv_at hl 4 rfl) ?_
      refine lv_iload hx hb dL_areSums_125 (lv_at hl 10 rfl) ?_
      refine lv_iload_n hx hb dL_areSums_127 rfl (lv_at hl 7 rfl) ?_
      refine Wi.callV (rest := []) (q0 := 0) (ci := 0) (wr := [(am, .inl (cA, 7, .inl (fun _ => 0))), (ar, .inl (cA, 22, .inl Y))]) [0, 1, 2, 3, 4, 5, 6, 7, 8, 9, 10, 11, 12, 13] [14, 15] ⟨hx, hb, hml, hown, hts⟩ (c_X0_pay l D cA a F g 0 hz.1 (nI i) 0 (cI_nI hiN (by decide)) (by decide)) (cwV 2 hts gL_areSums_X0_pay rfl rfl rfl (by decide +kernel) ⟨Nat.le_of_ble_eq_true rfl, Nat.le_of_ble_eq_true rfl⟩) hK hP hD hS hA rfl rfl (by decide) (by decide) (by decide) rfl rfl rfl rfl rfl hl.1 (Nat.le_of_ble_eq_true rfl) dL_areSums_128 ⟨Nat.le_of_ble_eq_true rfl, Nat.le_of_ble_eq_true rfl⟩ (fun r9 u128 H locs hu9 hP hD hS => ?_)
      have hP : va_P D vwCl (wK a cA F u128 am ar Y) H := hP.sub [2, 3, 4, 5, 6, 7, 8, 9, 10, 11, 12, 13, 14, 15, 0, 1] rfl
      have hD : va_D A (wK a cA F u128 am ar Y) := hD.sub [2, 3, 4, 5, 6, 7, 8, 9, 10, 11, 12, 13, 14, 15, 0, 1] (by decide) rfl
      refine ri_top 0 (hu9.trans (rfl)) ?_
      refine lv_iload hx hb dL_areSums_131 (lv_at hl 3 rfl) ?_
      refine lv_icmp_ne (tgt := 199) hx hb dL_areSums_133 (by decide) (fun c_133 => (absurd (by decide) c_133 : False).elim) (fun c_133 => ?_)
      refine lv_aload_n hx hb dL_areSums_136 rfl (lv_at hl 4 rfl) ?_
      refine lv_iload hx hb dL_areSums_137 (lv_at hl 10 rfl) ?_
      refine lv_iload_n hx hb dL_areSums_139 rfl (lv_at hl 7 rfl) ?_
      refine Rd.callV (rest := []) (q0 := 0) (ci := 0) ⟨hx, hb, hml, hown, hts⟩ (c_X0_payByHours l D cA a F u128 0 hz.1 (nI i) 0 (cI_nI hiN (by decide)) (by decide)) (cwV 2 hts gL_areSums_X0_payByHours rfl rfl rfl (by decide +kernel) ⟨Nat.le_of_ble_eq_true rfl, Nat.le_of_ble_eq_true rfl⟩) hK (hP.sub [0, 1, 2, 3, 4, 5, 6, 7, 8, 9, 10, 11, 12, 13] rfl : va_P D vwCl (wX a cA F u128) _) rfl rfl rfl rfl rfl hl.1 (Nat.le_of_ble_eq_true rfl) dL_areSums_140 ⟨Nat.le_of_ble_eq_true rfl, Nat.le_of_ble_eq_true rfl⟩ ?_
      refine ri_top 0 (rfl) ?_
      refine lv_iload hx hb dL_areSums_143 (lv_at hl 3 rfl) ?_
      refine lv_icmp_ne (tgt := 199) hx hb dL_areSums_145 (by decide) (fun c_145 => (absurd (by decide) c_145 : False).elim) (fun c_145 => ?_)
      refine lv_aload_n hx hb dL_areSums_148 rfl (lv_at hl 4 rfl) ?_
      refine lv_iload hx hb dL_areSums_149 (lv_at hl 10 rfl) ?_
      refine lv_iload_n hx hb dL_areSums_151 rfl (lv_at hl 7 rfl) ?_
      refine Rd.callV (rest := []) (q0 := 0) (ci := 0) ⟨hx, hb, hml, hown, hts⟩ (c_X0_paid l D cA a F u128 0 hz.1 (nI i) 0 (cI_nI hiN (by decide)) (by decide)) (cwV 2 hts gL_areSums_X0_paid rfl rfl rfl (by decide +kernel) ⟨Nat.le_of_ble_eq_true rfl, Nat.le_of_ble_eq_true rfl⟩) hK (hP.sub [0, 1, 2, 3, 4, 5, 6, 7, 8, 9, 10, 11, 12, 13] rfl : va_P D vwCl (wX a cA F u128) _) rfl rfl rfl rfl rfl hl.1 (Nat.le_of_ble_eq_true rfl) dL_areSums_152 ⟨Nat.le_of_ble_eq_true rfl, Nat.le_of_ble_eq_true rfl⟩ ?_
      refine ri_top 0 (hz.2.2.1 _) ?_
      refine lv_aload_n hx hb dL_areSums_155 rfl (lv_at hl 4 rfl) ?_
      refine lv_iload hx hb dL_areSums_156 (lv_at hl 10 rfl) ?_
      refine lv_iload_n hx hb dL_areSums_158 rfl (lv_at hl 7 rfl) ?_
      refine Wi.callV (rest := [.int 0]) (q0 := 0) (ci := 0) (wr := [(am, .inl (cA, 7, .inl (fun _ => 0))), (ar, .inl (cA, 22, .inl Y))]) [0, 1, 2, 3, 4, 5, 6, 7, 8, 9, 10, 11, 12, 13] [14, 15] ⟨hx, hb, hml, hown, hts⟩ (c_X0_owing l D cA a F u128 0 hz.1 (nI i) 0 (cI_nI hiN (by decide)) (by decide)) (cwV 2 hts gL_areSums_X0_owing rfl rfl rfl (by decide +kernel) ⟨Nat.le_of_ble_eq_true rfl, Nat.le_of_ble_eq_true rfl⟩) hK hP hD hS hA rfl rfl (by decide) (by decide) (by decide) rfl rfl rfl rfl rfl hl.1 (Nat.le_of_ble_eq_true rfl) dL_areSums_159 ⟨Nat.le_of_ble_eq_true rfl, Nat.le_of_ble_eq_true rfl⟩ (fun r9 u159 H locs hu9 hP hD hS => ?_)
      have hP : va_P D vwCl (wK a cA F u159 am ar Y) H := hP.sub [2, 3, 4, 5, 6, 7, 8, 9, 10, 11, 12, 13, 14, 15, 0, 1] rfl
      have hD : va_D A (wK a cA F u159 am ar Y) := hD.sub [2, 3, 4, 5, 6, 7, 8, 9, 10, 11, 12, 13, 14, 15, 0, 1] (by decide) rfl
      refine ri_top 0 (hu9.trans (ow0 (hz.2.2.1 _))) ?_
      refine lv_iadd hx hb dL_areSums_162 ?_
      refine ri_top 0 (by decide +kernel) ?_
      refine lv_iload hx hb dL_areSums_163 (lv_at hl 3 rfl) ?_
      refine lv_icmp_ne (tgt := 199) hx hb dL_areSums_165 (by decide) (fun c_165 => (absurd (by decide) c_165 : False).elim) (fun c_165 => ?_)
      refine lv_aload_n hx hb dL_areSums_168 rfl (lv_at hl 4 rfl) ?_
      refine lv_iload hx hb dL_areSums_169 (lv_at hl 10 rfl) ?_
      refine Rd.callV (rest := []) (q0 := 0) (ci := 0) ⟨hx, hb, hml, hown, hts⟩ (c_X0_holiday l D cA a F u159 0 hz.1 (nI i) (cI_nI hiN (by decide))) (cwV 1 hts gL_areSums_X0_holiday rfl rfl rfl (by decide +kernel) ⟨Nat.le_of_ble_eq_true rfl, Nat.le_of_ble_eq_true rfl⟩) hK (hP.sub [0, 1, 2, 3, 4, 5, 6, 7, 8, 9, 10, 11, 12, 13] rfl : va_P D vwCl (wX a cA F u159) _) rfl rfl rfl rfl rfl hl.1 (Nat.le_of_ble_eq_true rfl) dL_areSums_171 ⟨Nat.le_of_ble_eq_true rfl, Nat.le_of_ble_eq_true rfl⟩ ?_
      refine ri_top 0 (hol0 hz _ _) ?_
      refine lv_iload hx hb dL_areSums_174 (lv_at hl 2 rfl) ?_
      refine lv_aload_n hx hb dL_areSums_176 rfl (lv_at hl 6 rfl) ?_
      refine lv_iconst (v := 1) hx hb dL_areSums_177 (by decide) ?_
      refine lv_iload hx hb dL_areSums_178 (lv_at hl 10 rfl) ?_
      refine lv_iadd hx hb dL_areSums_180 ?_
      refine ri_ald (j := (1 + i)) hx hb hK hP 14 rfl (nI_add 1 i) (by omega) (by decide) dL_areSums_181 ?_
      refine ri_top 0 rfl ?_
      refine lv_isub hx hb dL_areSums_182 ?_
      refine ri_top 0 (by decide +kernel) ?_
      refine lv_icmp_ne (tgt := 199) hx hb dL_areSums_183 (by decide) (fun c_183 => (absurd (by decide) c_183 : False).elim) (fun c_183 => ?_)
      refine lv_aload_n hx hb dL_areSums_186 rfl (lv_at hl 4 rfl) ?_
      refine lv_iload hx hb dL_areSums_187 (lv_at hl 10 rfl) ?_
      refine Rd.callV (rest := []) (q0 := 0) (ci := 0) ⟨hx, hb, hml, hown, hts⟩ (c_X0_holiday l D cA a F u159 0 hz.1 (nI i) (cI_nI hiN (by decide))) (cwV 1 hts gL_areSums_X0_holiday rfl rfl rfl (by decide +kernel) ⟨Nat.le_of_ble_eq_true rfl, Nat.le_of_ble_eq_true rfl⟩) hK (hP.sub [0, 1, 2, 3, 4, 5, 6, 7, 8, 9, 10, 11, 12, 13] rfl : va_P D vwCl (wX a cA F u159) _) rfl rfl rfl rfl rfl hl.1 (Nat.le_of_ble_eq_true rfl) dL_areSums_189 ⟨Nat.le_of_ble_eq_true rfl, Nat.le_of_ble_eq_true rfl⟩ ?_
      refine ri_top 0 (hol0 hz _ _) ?_
      refine lv_if_lt (tgt := 199) hx hb dL_areSums_192 (by decide) (fun c_192 => (absurd c_192 (by decide) : False).elim) (fun c_192 => ?_)
      refine lv_iconst (v := 1) hx hb dL_areSums_195 (by decide) ?_
      refine lv_goto (tgt := 200) hx hb dL_areSums_196 (by decide) ?_
      refine lv_istore (lv' := [(6, .int 1), (4, .int 0), (10, .int 0), (9, .int 0), (8, .int 0), (0, .ref (a 16)), (1, .ref at_), (2, .ref am), (3, .int 0), (5, .int 0), (7, .int (nI i))]) hx hb dL_areSums_200 hl (by decide) rfl (fun ls hl => ?_)
      refine lv_iinc (v := (nI (i + 1))) (lv' := [(7, .int (nI (i + 1))), (6, .int 1), (4, .int 0), (10, .int 0), (9, .int 0), (8, .int 0), (0, .ref (a 16)), (1, .ref at_), (2, .ref am), (3, .int 0), (5, .int 0)]) hx hb dL_areSums_202 hl (k := 10) rfl (nI_1 i) (by decide) rfl (fun ls hl => ?_)
      refine lv_goto (tgt := 12) hx hb dL_areSums_205 (by decide) ?_
      exact ih_12 (i + 1)  u159 _ _ ls (by omega)   hP hD hS (lv_sub hl [6, 7, 8, 9, 2, 10, 1, 0] rfl)
  exact K_12 6 0  g _ _ ls (by omega)   hP hD hS (lv_sub hl [4, 5, 6, 7, 3, 2, 1, 0] rfl)

set_option maxHeartbeats 4000000 in
set_option maxRecDepth 100000 in
theorem k_L_isOvertime (l : Launch) (D : va_G) (cA : ClassId) (a : Nat → Nat) (F : Nat → Nat → Int32) (g : Nat → Int32) (at_ am ar : Nat) (Y : Nat → Int32) (hz : zs F) : Lq l D cA (S := Nat → Int32) (wK a cA F g am ar Y) (fun g => wK a cA F g am ar Y) yL_isOvertime wsL_isOvertime rmL_isOvertime [.ref (a 16), .ref at_, .ref am, .int 0, .int 0] (fun r _ => r = 1) 0 0 0 := by
  refine Lq.ofz (cc := cL_isOvertime) (maxL := 14) (by decide) rfl (Nat.le_of_ble_eq_true rfl) ?_
  intro p e s m args below meth c ls A Q hx hb hts hown hml hK hP hD hA hS hl hZ hend
  have hown : s.vm.findClass RL = some m.cls := hown
  have hl : lv_has ls 14 [(0, .ref (a 16)), (1, .ref at_), (2, .ref am), (3, .int 0), (4, .int 0)] := hl
  have h7 : (7 : Int32) = nI 7 := rfl
  refine lv_iconst (v := 0) hx hb dL_isOvertime_0 (by decide) ?_
  refine lv_istore (lv' := [(5, .int 0), (0, .ref (a 16)), (1, .ref at_), (2, .ref am), (3, .int 0), (4, .int 0)]) hx hb dL_isOvertime_1 hl (by decide) rfl (fun ls hl => ?_)
  refine lv_iconst (v := 0) hx hb dL_isOvertime_3 (by decide) ?_
  refine lv_istore (lv' := [(6, .int 0), (5, .int 0), (0, .ref (a 16)), (1, .ref at_), (2, .ref am), (3, .int 0), (4, .int 0)]) hx hb dL_isOvertime_4 hl (by decide) rfl (fun ls hl => ?_)
  refine lv_iconst (v := 1) hx hb dL_isOvertime_6 (by decide) ?_
  refine lv_istore (lv' := [(7, .int 1), (6, .int 0), (5, .int 0), (0, .ref (a 16)), (1, .ref at_), (2, .ref am), (3, .int 0), (4, .int 0)]) hx hb dL_isOvertime_7 hl (by decide) rfl (fun ls hl => ?_)
  refine lv_bipush (v := 7) hx hb dL_isOvertime_9 (by decide) ?_
  refine lv_iload hx hb dL_isOvertime_11 (lv_at hl 7 rfl) ?_
  refine lv_imul hx hb dL_isOvertime_13 ?_
  refine ri_top 0 (by decide +kernel) ?_
  refine lv_istore (lv' := [(8, .int 0), (7, .int 1), (6, .int 0), (5, .int 0), (0, .ref (a 16)), (1, .ref at_), (2, .ref am), (3, .int 0), (4, .int 0)]) hx hb dL_isOvertime_14 hl (by decide) rfl (fun ls hl => ?_)
  have K_16 : ∀ (n i : Nat) (g : Nat → Int32) (H : Heap) (locs : List Loc) (ls : Array Slot), i + n = 7 → va_P D vwCl (wK a cA F g am ar Y) H → va_D A (wK a cA F g am ar Y) → va_S A s.heap H locs → lv_has ls 14 [(0, .ref (a 16)), (1, .ref at_), (2, .ref am), (3, .int 0), (4, .int 0), (5, .int 0), (6, .int 0), (7, .int 1), (8, .int (nI i))] → W p l e rmL_isOvertime s m args below meth c H locs 0 0 Q (F0 m 16 ls []) := by
    intro n
    induction n with
    | zero =>
      intro i  g H locs ls hin_16   hP hD hS hl
      have hiN : i = 7 := by omega
      refine lv_iload hx hb dL_isOvertime_16 (lv_at hl 8 rfl) ?_
      refine lv_bipush (v := 7) hx hb dL_isOvertime_18 (by decide) ?_
      refine lv_iload hx hb dL_isOvertime_20 (lv_at hl 4 rfl) ?_
      refine lv_imul hx hb dL_isOvertime_22 ?_
      refine ri_top 0 (by decide +kernel) ?_
      refine lv_bipush (v := 7) hx hb dL_isOvertime_23 (by decide) ?_
      refine lv_iadd hx hb dL_isOvertime_25 ?_
      refine ri_top 7 (by decide +kernel) ?_
      refine lv_icmp_ge (tgt := 244) hx hb dL_isOvertime_26 (by decide) (fun c_26 => ?_) (fun c_26 => (absurd (((br_ge h7 (by omega) (by omega : i ≤ 7)).mpr hiN)) c_26 : False).elim)
      refine lv_iload hx hb dL_isOvertime_244 (lv_at hl 7 rfl) ?_
      refine lv_if_eq (tgt := 272) hx hb dL_isOvertime_246 (by decide) (fun c_246 => (absurd c_246 (by decide) : False).elim) (fun c_246 => ?_)
      refine lv_aload_n hx hb dL_isOvertime_249 rfl (lv_at hl 0 rfl) ?_
      refine lv_iload_n hx hb dL_isOvertime_250 rfl (lv_at hl 3 rfl) ?_
      refine lv_iload hx hb dL_isOvertime_251 (lv_at hl 4 rfl) ?_
      refine Rd.callV (rest := []) (q0 := 0) (ci := 0) ⟨hx, hb, hml, hown, hts⟩ (c_X0_hours l D cA a F g 0 hz.1 0 0 (by decide) (by decide)) (cwV 2 hts gL_isOvertime_X0_hours rfl rfl rfl (by decide +kernel) ⟨Nat.le_of_ble_eq_true rfl, Nat.le_of_ble_eq_true rfl⟩) hK (hP.sub [0, 1, 2, 3, 4, 5, 6, 7, 8, 9, 10, 11, 12, 13] rfl : va_P D vwCl (wX a cA F g) _) rfl rfl rfl rfl rfl hl.1 (Nat.le_of_ble_eq_true rfl) dL_isOvertime_253 ⟨Nat.le_of_ble_eq_true rfl, Nat.le_of_ble_eq_true rfl⟩ ?_
      refine ri_top 0 (rfl) ?_
      refine lv_iload hx hb dL_isOvertime_256 (lv_at hl 6 rfl) ?_
      refine lv_icmp_ne (tgt := 272) hx hb dL_isOvertime_258 (by decide) (fun c_258 => (absurd (by decide) c_258 : False).elim) (fun c_258 => ?_)
      refine lv_iload hx hb dL_isOvertime_261 (lv_at hl 5 rfl) ?_
      refine lv_bipush (v := 40) hx hb dL_isOvertime_263 (by decide) ?_
      refine lv_icmp_gt (tgt := 272) hx hb dL_isOvertime_265 (by decide) (fun c_265 => (absurd c_265 (by decide) : False).elim) (fun c_265 => ?_)
      refine lv_iconst (v := 1) hx hb dL_isOvertime_268 (by decide) ?_
      refine lv_goto (tgt := 273) hx hb dL_isOvertime_269 (by decide) ?_
      exact hend 273 ls _ g _ _ dL_isOvertime_273 hP hD hS hS.1 rfl (Or.inr rfl)
    | succ n ih_16 =>
      intro i  g H locs ls hin_16   hP hD hS hl
      have hiN : i < 7 := by omega
      refine lv_iload hx hb dL_isOvertime_16 (lv_at hl 8 rfl) ?_
      refine lv_bipush (v := 7) hx hb dL_isOvertime_18 (by decide) ?_
      refine lv_iload hx hb dL_isOvertime_20 (lv_at hl 4 rfl) ?_
      refine lv_imul hx hb dL_isOvertime_22 ?_
      refine ri_top 0 (by decide +kernel) ?_
      refine lv_bipush (v := 7) hx hb dL_isOvertime_23 (by decide) ?_
      refine lv_iadd hx hb dL_isOvertime_25 ?_
      refine ri_top 7 (by decide +kernel) ?_
      refine lv_icmp_ge (tgt := 244) hx hb dL_isOvertime_26 (by decide) (fun c_26 => (absurd (((br_ge h7 (by omega) (by omega : i ≤ 7)).mp c_26)) (by omega) : False).elim) (fun c_26 => ?_)
      refine lv_iconst (v := 0) hx hb dL_isOvertime_29 (by decide) ?_
      refine lv_istore (lv' := [(9, .int 0), (0, .ref (a 16)), (1, .ref at_), (2, .ref am), (3, .int 0), (4, .int 0), (5, .int 0), (6, .int 0), (7, .int 1), (8, .int (nI i))]) hx hb dL_isOvertime_30 hl (by decide) rfl (fun ls hl => ?_)
      refine lv_iconst (v := 0) hx hb dL_isOvertime_32 (by decide) ?_
      refine lv_istore (lv' := [(10, .int 0), (9, .int 0), (0, .ref (a 16)), (1, .ref at_), (2, .ref am), (3, .int 0), (4, .int 0), (5, .int 0), (6, .int 0), (7, .int 1), (8, .int (nI i))]) hx hb dL_isOvertime_33 hl (by decide) rfl (fun ls hl => ?_)
      refine lv_iconst (v := 0) hx hb dL_isOvertime_35 (by decide) ?_
      refine lv_istore (lv' := [(11, .int 0), (10, .int 0), (9, .int 0), (0, .ref (a 16)), (1, .ref at_), (2, .ref am), (3, .int 0), (4, .int 0), (5, .int 0), (6, .int 0), (7, .int 1), (8, .int (nI i))]) hx hb dL_isOvertime_36 hl (by decide) rfl (fun ls hl => ?_)
      refine lv_iconst (v := 0) hx hb dL_isOvertime_38 (by decide) ?_
      refine lv_istore (lv' := [(12, .int 0), (11, .int 0), (10, .int 0), (9, .int 0), (0, .ref (a 16)), (1, .ref at_), (2, .ref am), (3, .int 0), (4, .int 0), (5, .int 0), (6, .int 0), (7, .int 1), (8, .int (nI i))]) hx hb dL_isOvertime_39 hl (by decide) rfl (fun ls hl => ?_)
      refine lv_iload hx hb dL_isOvertime_41 (lv_at hl 0 rfl) ?_
      refine lv_aload_n hx hb dL_isOvertime_43 rfl (lv_at hl 6 rfl) ?_
      refine lv_iconst (v := 0) hx hb dL_isOvertime_44 (by decide) ?_
      refine ri_ald (j := 0) hx hb hK hP 14 rfl (rfl) (by decide) (by decide) dL_isOvertime_45 ?_
      refine ri_top 0 rfl ?_
      refine lv_icmp_ge (tgt := 164) hx hb dL_isOvertime_46 (by decide) (fun c_46 => ?_) (fun c_46 => (absurd (by decide) c_46 : False).elim)
      refine lv_iload hx hb dL_isOvertime_164 (lv_at hl 3 rfl) ?_
      refine lv_bipush (v := 8) hx hb dL_isOvertime_166 (by decide) ?_
      refine lv_icmp_ge (tgt := 176) hx hb dL_isOvertime_168 (by decide) (fun c_168 => (absurd c_168 (by decide) : False).elim) (fun c_168 => ?_)
      refine lv_iload hx hb dL_isOvertime_171 (lv_at hl 3 rfl) ?_
      refine lv_goto (tgt := 178) hx hb dL_isOvertime_173 (by decide) ?_
      refine lv_istore (lv' := [(12, .int 0), (11, .int 0), (10, .int 0), (9, .int 0), (0, .ref (a 16)), (1, .ref at_), (2, .ref am), (3, .int 0), (4, .int 0), (5, .int 0), (6, .int 0), (7, .int 1), (8, .int (nI i))]) hx hb dL_isOvertime_178 hl (by decide) rfl (fun ls hl => ?_)
      refine lv_iload hx hb dL_isOvertime_180 (lv_at hl 0 rfl) ?_
      refine lv_bipush (v := 40) hx hb dL_isOvertime_182 (by decide) ?_
      refine lv_iload hx hb dL_isOvertime_184 (lv_at hl 9 rfl) ?_
      refine lv_isub hx hb dL_isOvertime_186 ?_
      refine ri_top 40 (by decide +kernel) ?_
      refine lv_icmp_ge (tgt := 195) hx hb dL_isOvertime_187 (by decide) (fun c_187 => (absurd c_187 (by decide) : False).elim) (fun c_187 => ?_)
      refine lv_iload hx hb dL_isOvertime_190 (lv_at hl 0 rfl) ?_
      refine lv_goto (tgt := 200) hx hb dL_isOvertime_192 (by decide) ?_
      refine lv_istore (lv' := [(12, .int 0), (11, .int 0), (10, .int 0), (9, .int 0), (0, .ref (a 16)), (1, .ref at_), (2, .ref am), (3, .int 0), (4, .int 0), (5, .int 0), (6, .int 0), (7, .int 1), (8, .int (nI i))]) hx hb dL_isOvertime_200 hl (by decide) rfl (fun ls hl => ?_)
      refine lv_iload hx hb dL_isOvertime_202 (lv_at hl 11 rfl) ?_
      refine lv_if_eq (tgt := 221) hx hb dL_isOvertime_204 (by decide) (fun c_204 => (absurd c_204 (by decide) : False).elim) (fun c_204 => ?_)
      refine lv_iload hx hb dL_isOvertime_207 (lv_at hl 3 rfl) ?_
      refine lv_iload hx hb dL_isOvertime_209 (lv_at hl 2 rfl) ?_
      refine lv_isub hx hb dL_isOvertime_211 ?_
      refine ri_top 0 (by decide +kernel) ?_
      refine lv_iload hx hb dL_isOvertime_212 (lv_at hl 0 rfl) ?_
      refine lv_icmp_ne (tgt := 221) hx hb dL_isOvertime_214 (by decide) (fun c_214 => (absurd (by decide) c_214 : False).elim) (fun c_214 => ?_)
      refine lv_iconst (v := 1) hx hb dL_isOvertime_217 (by decide) ?_
      refine lv_goto (tgt := 222) hx hb dL_isOvertime_218 (by decide) ?_
      refine lv_istore (lv' := [(7, .int 1), (12, .int 0), (11, .int 0), (10, .int 0), (9, .int 0), (0, .ref (a 16)), (1, .ref at_), (2, .ref am), (3, .int 0), (4, .int 0), (5, .int 0), (6, .int 0), (8, .int (nI i))]) hx hb dL_isOvertime_222 hl (by decide) rfl (fun ls hl => ?_)
      refine lv_iload hx hb dL_isOvertime_224 (lv_at hl 10 rfl) ?_
      refine lv_iload hx hb dL_isOvertime_226 (lv_at hl 1 rfl) ?_
      refine lv_iadd hx hb dL_isOvertime_228 ?_
      refine ri_top 0 (by decide +kernel) ?_
      refine lv_istore (lv' := [(5, .int 0), (7, .int 1), (12, .int 0), (11, .int 0), (10, .int 0), (9, .int 0), (0, .ref (a 16)), (1, .ref at_), (2, .ref am), (3, .int 0), (4, .int 0), (6, .int 0), (8, .int (nI i))]) hx hb dL_isOvertime_229 hl (by decide) rfl (fun ls hl => ?_)
      refine lv_iload hx hb dL_isOvertime_231 (lv_at hl 11 rfl) ?_
      refine lv_iload hx hb dL_isOvertime_233 (lv_at hl 5 rfl) ?_
      refine lv_iadd hx hb dL_isOvertime_235 ?_
      refine ri_top 0 (by decide +kernel) ?_
      refine lv_istore (lv' := [(6, .int 0), (5, .int 0), (7, .int 1), (12, .int 0), (11, .int 0), (10, .int 0), (9, .int 0), (0, .ref (a 16)), (1, .ref at_), (2, .ref am), (3, .int 0), (4, .int 0), (8, .int (nI i))]) hx hb dL_isOvertime_236 hl (by decide) rfl (fun ls hl => ?_)
      refine lv_iinc (v := (nI (i + 1))) (lv' := [(8, .int (nI (i + 1))), (6, .int 0), (5, .int 0), (7, .int 1), (12, .int 0), (11, .int 0), (10, .int 0), (9, .int 0), (0, .ref (a 16)), (1, .ref at_), (2, .ref am), (3, .int 0), (4, .int 0)]) hx hb dL_isOvertime_238 hl (k := 12) rfl (nI_1 i) (by decide) rfl (fun ls hl => ?_)
      refine lv_goto (tgt := 16) hx hb dL_isOvertime_241 (by decide) ?_
      exact ih_16 (i + 1)  g _ _ ls (by omega)   hP hD hS (lv_sub hl [8, 9, 10, 11, 12, 2, 1, 3, 0] rfl)
  exact K_16 7 0  g _ _ ls (by omega)   hP hD hS (lv_sub hl [4, 5, 6, 7, 8, 3, 2, 1, 0] rfl)

set_option maxHeartbeats 4000000 in
set_option maxRecDepth 100000 in
theorem k_L_isEqual (l : Launch) (D : va_G) (cA : ClassId) (a : Nat → Nat) (F : Nat → Nat → Int32) (g : Nat → Int32) (at_ am ar : Nat) (Y : Nat → Int32) (hz : zs F) (hY20 : Y 20 = 4) : Lq l D cA (S := Nat → Int32) (wK a cA F g am ar Y) (fun g => wK a cA F g am ar Y) yL_isEqual wsL_isEqual rmL_isEqual [.ref (a 16), .ref at_, .ref ar, .ref am, .int 0, .int 0, .int 0] (fun r _ => r = 1) 0 0 0 := by
  refine Lq.ofz (cc := cL_isEqual) (maxL := 12) (by decide) rfl (Nat.le_of_ble_eq_true rfl) ?_
  intro p e s m args below meth c ls A Q hx hb hts hown hml hK hP hD hA hS hl hZ hend
  have hown : s.vm.findClass RL = some m.cls := hown
  have hl : lv_has ls 12 [(0, .ref (a 16)), (1, .ref at_), (2, .ref ar), (3, .ref am), (4, .int 0), (5, .int 0), (6, .int 0)] := hl
  refine lv_iconst (v := 0) hx hb dL_isEqual_0 (by decide) ?_
  refine lv_istore (lv' := [(7, .int 0), (0, .ref (a 16)), (1, .ref at_), (2, .ref ar), (3, .ref am), (4, .int 0), (5, .int 0), (6, .int 0)]) hx hb dL_isEqual_1 hl (by decide) rfl (fun ls hl => ?_)
  refine lv_iconst (v := 0) hx hb dL_isEqual_3 (by decide) ?_
  refine lv_istore (lv' := [(8, .int 0), (7, .int 0), (0, .ref (a 16)), (1, .ref at_), (2, .ref ar), (3, .ref am), (4, .int 0), (5, .int 0), (6, .int 0)]) hx hb dL_isEqual_4 hl (by decide) rfl (fun ls hl => ?_)
  refine lv_iload hx hb dL_isEqual_6 (lv_at hl 8 rfl) ?_
  refine lv_iconst (v := 1) hx hb dL_isEqual_8 (by decide) ?_
  refine lv_isub hx hb dL_isEqual_9 ?_
  refine ri_top (-1) (by decide +kernel) ?_
  refine lv_istore (lv' := [(9, .int (-1)), (8, .int 0), (7, .int 0), (0, .ref (a 16)), (1, .ref at_), (2, .ref ar), (3, .ref am), (4, .int 0), (5, .int 0), (6, .int 0)]) hx hb dL_isEqual_10 hl (by decide) rfl (fun ls hl => ?_)
  refine lv_iload hx hb dL_isEqual_12 (lv_at hl 0 rfl) ?_
  refine lv_if_lt (tgt := 157) hx hb dL_isEqual_14 (by decide) (fun c_14 => ?_) (fun c_14 => (absurd (by decide) c_14 : False).elim)
  refine lv_aload_n hx hb dL_isEqual_157 rfl (lv_at hl 3 rfl) ?_
  refine lv_iload hx hb dL_isEqual_158 (lv_at hl 7 rfl) ?_
  refine lv_iload hx hb dL_isEqual_160 (lv_at hl 8 rfl) ?_
  refine lv_iload hx hb dL_isEqual_162 (lv_at hl 9 rfl) ?_
  refine Rd.callV (rest := []) (q0 := 0) (ci := 0) ⟨hx, hb, hml, hown, hts⟩ (c_X0_hasEqual l D cA a F g 0 hz.1 0 0 0 (by decide) (by decide) (by decide)) (cwV 3 hts gL_isEqual_X0_hasEqual rfl rfl rfl (by decide +kernel) ⟨Nat.le_of_ble_eq_true rfl, Nat.le_of_ble_eq_true rfl⟩) hK (hP.sub [0, 1, 2, 3, 4, 5, 6, 7, 8, 9, 10, 11, 12, 13] rfl : va_P D vwCl (wX a cA F g) _) rfl rfl rfl rfl rfl hl.1 (Nat.le_of_ble_eq_true rfl) dL_isEqual_164 ⟨Nat.le_of_ble_eq_true rfl, Nat.le_of_ble_eq_true rfl⟩ ?_
  refine ri_top 0 (heq0 hz _ _) ?_
  refine lv_iload hx hb dL_isEqual_167 (lv_at hl 2 rfl) ?_
  refine lv_aload_n hx hb dL_isEqual_169 rfl (lv_at hl 5 rfl) ?_
  refine lv_bipush (v := 20) hx hb dL_isEqual_170 (by decide) ?_
  refine ri_ald (j := 20) hx hb hK hP 15 rfl rfl (by decide) (by decide) dL_isEqual_172 ?_
  refine ri_top 4 hY20 ?_
  refine lv_icmp_lt (tgt := 180) hx hb dL_isEqual_173 (by decide) (fun c_173 => ?_) (fun c_173 => (absurd (by decide) c_173 : False).elim)
  refine lv_iconst (v := 0) hx hb dL_isEqual_180 (by decide) ?_
  refine lv_icmp_ne (tgt := 188) hx hb dL_isEqual_181 (by decide) (fun c_181 => (absurd (by decide) c_181 : False).elim) (fun c_181 => ?_)
  refine lv_iconst (v := 1) hx hb dL_isEqual_184 (by decide) ?_
  refine lv_goto (tgt := 189) hx hb dL_isEqual_185 (by decide) ?_
  exact hend 189 ls _ g _ _ dL_isEqual_189 hP hD hS hS.1 rfl (Or.inr rfl)

set_option maxHeartbeats 4000000 in
set_option maxRecDepth 100000 in
theorem k_L_areShifts (l : Launch) (D : va_G) (cA : ClassId) (a : Nat → Nat) (F : Nat → Nat → Int32) (g : Nat → Int32) (at_ am ar : Nat) (Y : Nat → Int32) (hz : zs F) : Lq l D cA (S := Nat → Int32) (wK a cA F g am ar Y) (fun g => wK a cA F g am ar Y) yL_areShifts wsL_areShifts rmL_areShifts [.ref (a 16), .ref at_, .ref ar, .ref am] (fun r _ => r = 1) 0 0 0 := by
  refine Lq.ofz (cc := cL_areShifts) (maxL := 12) (by decide) rfl (Nat.le_of_ble_eq_true rfl) ?_
  intro p e s m args below meth c ls A Q hx hb hts hown hml hK hP hD hA hS hl hZ hend
  have hown : s.vm.findClass RL = some m.cls := hown
  have hl : lv_has ls 12 [(0, .ref (a 16)), (1, .ref at_), (2, .ref ar), (3, .ref am)] := hl
  refine lv_aload_n hx hb dL_areShifts_0 rfl (lv_at hl 0 rfl) ?_
  refine Rd.callV (rest := []) (q0 := 0) (ci := 0) ⟨hx, hb, hml, hown, hts⟩ (c_X0_shifts l D cA a F g) (cwV 0 hts gL_areShifts_X0_shifts rfl rfl rfl (by decide +kernel) ⟨Nat.le_of_ble_eq_true rfl, Nat.le_of_ble_eq_true rfl⟩) hK (hP.sub [0, 1, 2, 3, 4, 5, 6, 7, 8, 9, 10, 11, 12, 13] rfl : va_P D vwCl (wX a cA F g) _) rfl rfl rfl rfl rfl hl.1 (Nat.le_of_ble_eq_true rfl) dL_areShifts_1 ⟨Nat.le_of_ble_eq_true rfl, Nat.le_of_ble_eq_true rfl⟩ ?_
  refine ri_top 0 (hz.1.c) ?_
  refine lv_aload_n hx hb dL_areShifts_4 rfl (lv_at hl 3 rfl) ?_
  refine lv_iconst (v := 0) hx hb dL_areShifts_5 (by decide) ?_
  refine ri_ald (j := 0) hx hb hK hP 14 rfl (rfl) (by decide) (by decide) dL_areShifts_6 ?_
  refine ri_top 0 rfl ?_
  refine lv_icmp_ne (tgt := 14) hx hb dL_areShifts_7 (by decide) (fun c_7 => (absurd (by decide) c_7 : False).elim) (fun c_7 => ?_)
  refine lv_iconst (v := 1) hx hb dL_areShifts_10 (by decide) ?_
  refine lv_goto (tgt := 15) hx hb dL_areShifts_11 (by decide) ?_
  refine lv_istore (lv' := [(4, .int 1), (0, .ref (a 16)), (1, .ref at_), (2, .ref ar), (3, .ref am)]) hx hb dL_areShifts_15 hl (by decide) rfl (fun ls hl => ?_)
  refine lv_iconst (v := 0) hx hb dL_areShifts_17 (by decide) ?_
  refine lv_istore (lv' := [(5, .int 0), (4, .int 1), (0, .ref (a 16)), (1, .ref at_), (2, .ref ar), (3, .ref am)]) hx hb dL_areShifts_18 hl (by decide) rfl (fun ls hl => ?_)
  refine lv_iload hx hb dL_areShifts_20 (lv_at hl 0 rfl) ?_
  refine lv_aload_n hx hb dL_areShifts_22 rfl (lv_at hl 5 rfl) ?_
  refine lv_iconst (v := 0) hx hb dL_areShifts_23 (by decide) ?_
  refine ri_ald (j := 0) hx hb hK hP 14 rfl (rfl) (by decide) (by decide) dL_areShifts_24 ?_
  refine ri_top 0 rfl ?_
  refine lv_icmp_ge (tgt := 299) hx hb dL_areShifts_25 (by decide) (fun c_25 => ?_) (fun c_25 => (absurd (by decide) c_25 : False).elim)
  refine lv_iload hx hb dL_areShifts_299 (lv_at hl 1 rfl) ?_
  exact hend 301 ls _ g _ _ dL_areShifts_301 hP hD hS hS.1 rfl (Or.inr rfl)

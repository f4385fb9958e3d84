/-! isRefused, x = 1; by program (wip/p23/gen) -/
set_option maxHeartbeats 4000000 in
set_option maxRecDepth 100000 in
theorem rf1_a {p : Program} {l : Launch} (hl9 : l.stackTraces = false) {e : Env} {s : State} {m : MethodId} {args : Array Value} {below : List Frame} {meth : Method} {c : Code} {Q : State → Prop} {D : va_G} {cA : ClassId} {a : Nat → Nat} {F : Nat → Nat → Int32} {at_ am ar : Nat} {Y : Nat → Int32} (hz : zs F) {A : Nat → Prop} (hx : p.tables.exec = Jvm.exec) (hb : c.code = cL_isRefused) (hts : ∀ w ∈ wsL_isRefused, w.before args s = true) (hown : s.vm.findClass RL = some m.cls) (hml : c.maxLocals = 15) (hK : KA D cA s) (hA : ∀ q : Nat, s.heap.size ≤ q → A q) (hZ : ZY A s) (KK : ∀ (g : Nat → Int32) (H : Heap) (locs : List Loc) (ls : Array Slot), va_P D vwCl (wK a cA F g am ar Y) H → va_D A (wK a cA F g am ar Y) → va_S A s.heap H locs → s.heap.size + 17 ≤ H.size → lv_has ls 15 [(0, .ref (a 16)), (1, .ref at_), (2, .ref am), (3, .int 1), (4, .int 0), (5, .int 7), (6, .int 5), (7, .int 21), (8, .int 1), (9, .long 0), (11, .int 1), (12, .int 0)] → W p l e rmL_isRefused s m args below meth c H locs 17 102 Q (F0 m 504 ls [])) : ∀ (g : Nat → Int32) (H : Heap) (locs : List Loc) (ls : Array Slot), va_P D vwCl (wK a cA F g am ar Y) H → va_D A (wK a cA F g am ar Y) → va_S A s.heap H locs → s.heap.size + 0 ≤ H.size → lv_has ls 15 [(0, .ref (a 16)), (1, .ref at_), (2, .ref am), (3, .int 1)] → W p l e rmL_isRefused s m args below meth c H locs 0 0 Q (F0 m 0 ls []) := by
  intro g H locs ls hP hD hS hG hl
  refine lv_iload_n hx hb dL_isRefused_0 rfl (lv_at hl 3 rfl) ?_
  refine lv_iconst (v := 2) hx hb dL_isRefused_1 (by decide) ?_
  refine lv_irem hx hb dL_isRefused_2 (by decide) ?_
  refine ri_top 1 (by decide +kernel) ?_
  refine lv_if_ne (tgt := 10) hx hb dL_isRefused_3 (by decide) (fun c_3 => ?_) (fun c_3 => (absurd c_3 (by decide) : False).elim)
  refine lv_iconst (v := 0) hx hb dL_isRefused_10 (by decide) ?_
  refine lv_istore (lv' := [(4, .int 0), (0, .ref (a 16)), (1, .ref at_), (2, .ref am), (3, .int 1)]) hx hb dL_isRefused_11 hl (by decide) rfl (fun ls hl => ?_)
  refine lv_iload hx hb dL_isRefused_13 (lv_at hl 0 rfl) ?_
  refine lv_if_eq (tgt := 27) hx hb dL_isRefused_15 (by decide) (fun c_15 => ?_) (fun c_15 => (absurd (by decide) c_15 : False).elim)
  refine lv_bipush (v := 6) hx hb dL_isRefused_27 (by decide) ?_
  refine lv_iload_n hx hb dL_isRefused_29 rfl (lv_at hl 4 rfl) ?_
  refine lv_bipush (v := 30) hx hb dL_isRefused_30 (by decide) ?_
  refine lv_irem hx hb dL_isRefused_32 (by decide) ?_
  refine ri_top 1 (by decide +kernel) ?_
  refine lv_iadd hx hb dL_isRefused_33 ?_
  refine ri_top 7 (by decide +kernel) ?_
  refine lv_istore (lv' := [(5, .int 7), (4, .int 0), (0, .ref (a 16)), (1, .ref at_), (2, .ref am), (3, .int 1)]) hx hb dL_isRefused_34 hl (by decide) rfl (fun ls hl => ?_)
  refine lv_iload hx hb dL_isRefused_36 (lv_at hl 1 rfl) ?_
  refine lv_if_eq (tgt := 50) hx hb dL_isRefused_38 (by decide) (fun c_38 => ?_) (fun c_38 => (absurd (by decide) c_38 : False).elim)
  refine lv_iconst (v := 4) hx hb dL_isRefused_50 (by decide) ?_
  refine lv_iload_n hx hb dL_isRefused_51 rfl (lv_at hl 5 rfl) ?_
  refine lv_bipush (v := 30) hx hb dL_isRefused_52 (by decide) ?_
  refine lv_irem hx hb dL_isRefused_54 (by decide) ?_
  refine ri_top 1 (by decide +kernel) ?_
  refine lv_iadd hx hb dL_isRefused_55 ?_
  refine ri_top 5 (by decide +kernel) ?_
  refine lv_istore (lv' := [(6, .int 5), (5, .int 7), (4, .int 0), (0, .ref (a 16)), (1, .ref at_), (2, .ref am), (3, .int 1)]) hx hb dL_isRefused_56 hl (by decide) rfl (fun ls hl => ?_)
  refine lv_iload hx hb dL_isRefused_58 (lv_at hl 2 rfl) ?_
  refine lv_if_eq (tgt := 72) hx hb dL_isRefused_60 (by decide) (fun c_60 => ?_) (fun c_60 => (absurd (by decide) c_60 : False).elim)
  refine lv_bipush (v := 20) hx hb dL_isRefused_72 (by decide) ?_
  refine lv_iload_n hx hb dL_isRefused_74 rfl (lv_at hl 6 rfl) ?_
  refine lv_bipush (v := 30) hx hb dL_isRefused_75 (by decide) ?_
  refine lv_irem hx hb dL_isRefused_77 (by decide) ?_
  refine ri_top 1 (by decide +kernel) ?_
  refine lv_iadd hx hb dL_isRefused_78 ?_
  refine ri_top 21 (by decide +kernel) ?_
  refine lv_istore (lv' := [(7, .int 21), (6, .int 5), (5, .int 7), (4, .int 0), (0, .ref (a 16)), (1, .ref at_), (2, .ref am), (3, .int 1)]) hx hb dL_isRefused_79 hl (by decide) rfl (fun ls hl => ?_)
  refine lv_iload hx hb dL_isRefused_81 (lv_at hl 3 rfl) ?_
  refine lv_if_eq (tgt := 95) hx hb dL_isRefused_83 (by decide) (fun c_83 => ?_) (fun c_83 => (absurd (by decide) c_83 : False).elim)
  refine lv_aload_n hx hb dL_isRefused_95 rfl (lv_at hl 6 rfl) ?_
  refine lv_iconst (v := 0) hx hb dL_isRefused_96 (by decide) ?_
  refine ri_ald (j := 0) hx hb hK hP 14 rfl (rfl) (by decide) (by decide) dL_isRefused_97 ?_
  refine ri_top 0 rfl ?_
  refine lv_iload_n hx hb dL_isRefused_98 rfl (lv_at hl 7 rfl) ?_
  refine lv_bipush (v := 30) hx hb dL_isRefused_99 (by decide) ?_
  refine lv_irem hx hb dL_isRefused_101 (by decide) ?_
  refine ri_top 1 (by decide +kernel) ?_
  refine lv_iadd hx hb dL_isRefused_102 ?_
  refine ri_top 1 (by decide +kernel) ?_
  refine lv_istore (lv' := [(8, .int 1), (7, .int 21), (6, .int 5), (5, .int 7), (4, .int 0), (0, .ref (a 16)), (1, .ref at_), (2, .ref am), (3, .int 1)]) hx hb dL_isRefused_103 hl (by decide) rfl (fun ls hl => ?_)
  refine lv_aload_n hx hb dL_isRefused_105 rfl (lv_at hl 5 rfl) ?_
  refine lv_aload_n hx hb dL_isRefused_106 rfl (lv_at hl 7 rfl) ?_
  refine Lj.callS (rest := []) (wr := []) [0, 1, 2, 3, 4, 5, 6, 7, 8, 9, 10, 11, 12, 13, 14, 15] [] ⟨hx, hb, hml, hown, hts⟩ (k_L_all l D cA a F g at_ am ar Y hz) (va_cwS 2 hts gL_isRefused_L_all rfl rfl rfl (by decide +kernel) ⟨Nat.le_of_ble_eq_true rfl, Nat.le_of_ble_eq_true rfl⟩) hK hP hD hS hA hZ rfl rfl (by decide) (by decide) (by decide) rfl rfl hl.1 (Nat.le_of_ble_eq_true rfl) dL_isRefused_107 ⟨Nat.le_of_ble_eq_true rfl, Nat.le_of_ble_eq_true rfl⟩ (fun r9 u107 H locs hu9 hP hD hS hG9 => ?_)
  have hP : va_P D vwCl (wK a cA F u107 am ar Y) H := hP
  have hD : va_D A (wK a cA F u107 am ar Y) := hD
  have hG : s.heap.size + 0 ≤ H.size := Nat.le_trans hG hG9
  refine ri_topl 0 hu9 ?_
  refine lv_lstore (lv' := [(9, .long 0), (8, .int 1), (7, .int 21), (6, .int 5), (5, .int 7), (4, .int 0), (0, .ref (a 16)), (1, .ref at_), (2, .ref am), (3, .int 1)]) hx hb dL_isRefused_110 hl (by decide) rfl (fun ls hl => ?_)
  refine lv_aload_n hx hb dL_isRefused_112 rfl (lv_at hl 6 rfl) ?_
  refine lv_iload hx hb dL_isRefused_113 (lv_at hl 3 rfl) ?_
  refine lv_iconst (v := 0) hx hb dL_isRefused_115 (by decide) ?_
  refine lv_iconst (v := 0) hx hb dL_isRefused_116 (by decide) ?_
  refine Lq.callH (rest := []) (wr := [(am, .inl (cA, 7, .inl (fun _ => 0))), (ar, .inl (cA, 22, .inl Y))]) [0, 1, 2, 3, 4, 5, 6, 7, 8, 9, 10, 11, 12, 13] [14, 15] ⟨hx, hb, hml, hown, hts⟩ (b_L_setRates_1 l hl9 D cA a F u107 0 hz.1 5 0 0 (if_neg (by decide +kernel))) (vx_cwSW 4 hts gL_isRefused_L_setRates rfl rfl rfl (by decide +kernel) ⟨Nat.le_of_ble_eq_true rfl, Nat.le_of_ble_eq_true rfl⟩) hK hP hD hS hA hZ rfl rfl (by decide) (by decide) (by decide) rfl rfl hl.1 (Nat.le_of_ble_eq_true rfl) dL_isRefused_117 ⟨Nat.le_of_ble_eq_true rfl, Nat.le_of_ble_eq_true rfl⟩ (fun r9 u9 H locs hu9 hP hD hS hG9 => ?_)
  have hP : va_P D vwCl (wK a cA F u107 am ar Y) H := hP.sub [2, 3, 4, 5, 6, 7, 8, 9, 10, 11, 12, 13, 14, 15, 0, 1] rfl
  have hD : va_D A (wK a cA F u107 am ar Y) := hD.sub [2, 3, 4, 5, 6, 7, 8, 9, 10, 11, 12, 13, 14, 15, 0, 1] (by decide) rfl
  have hG : s.heap.size + 1 ≤ H.size := Nat.le_trans (Nat.add_le_add_right hG 1) hG9
  refine ri_top (-1100000001) hu9 ?_
  refine lv_ldc (own := RL) (index := 17) (v := -1100000001) hx hb hown (hts (.constant RL 17 (-1100000001)) (by decide +kernel)) dL_isRefused_120 ?_
  refine lv_icmp_ne (tgt := 498) hx hb dL_isRefused_122 (by decide) (fun c_122 => (absurd (by decide) c_122 : False).elim) (fun c_122 => ?_)
  refine lv_aload_n hx hb dL_isRefused_125 rfl (lv_at hl 6 rfl) ?_
  refine lv_iconst (v := 2) hx hb dL_isRefused_126 (by decide) ?_
  refine lv_iload hx hb dL_isRefused_127 (lv_at hl 5 rfl) ?_
  refine lv_if_eq (tgt := 136) hx hb dL_isRefused_129 (by decide) (fun c_129 => ?_) (fun c_129 => (absurd (by decide) c_129 : False).elim)
  refine lv_sipush (v := 10001) hx hb dL_isRefused_136 (by decide) ?_
  refine lv_sipush (v := 10001) hx hb dL_isRefused_139 (by decide) ?_
  refine Lq.callH (rest := []) (wr := [(am, .inl (cA, 7, .inl (fun _ => 0))), (ar, .inl (cA, 22, .inl Y))]) [0, 1, 2, 3, 4, 5, 6, 7, 8, 9, 10, 11, 12, 13] [14, 15] ⟨hx, hb, hml, hown, hts⟩ (b_L_setRates_2 l hl9 D cA a F u107 0 hz.1 2 10001 10001 ((if_pos (by decide +kernel)).trans (if_neg (by decide +kernel)))) (vx_cwSW 4 hts gL_isRefused_L_setRates rfl rfl rfl (by decide +kernel) ⟨Nat.le_of_ble_eq_true rfl, Nat.le_of_ble_eq_true rfl⟩) hK hP hD hS hA hZ rfl rfl (by decide) (by decide) (by decide) rfl rfl hl.1 (Nat.le_of_ble_eq_true rfl) dL_isRefused_142 ⟨Nat.le_of_ble_eq_true rfl, Nat.le_of_ble_eq_true rfl⟩ (fun r9 u9 H locs hu9 hP hD hS hG9 => ?_)
  have hP : va_P D vwCl (wK a cA F u107 am ar Y) H := hP.sub [2, 3, 4, 5, 6, 7, 8, 9, 10, 11, 12, 13, 14, 15, 0, 1] rfl
  have hD : va_D A (wK a cA F u107 am ar Y) := hD.sub [2, 3, 4, 5, 6, 7, 8, 9, 10, 11, 12, 13, 14, 15, 0, 1] (by decide) rfl
  have hG : s.heap.size + 2 ≤ H.size := Nat.le_trans (Nat.add_le_add_right hG 1) hG9
  refine ri_top (-1100000002) hu9 ?_
  refine lv_ldc (own := RL) (index := 20) (v := -1100000002) hx hb hown (hts (.constant RL 20 (-1100000002)) (by decide +kernel)) dL_isRefused_145 ?_
  refine lv_icmp_ne (tgt := 498) hx hb dL_isRefused_147 (by decide) (fun c_147 => (absurd (by decide) c_147 : False).elim) (fun c_147 => ?_)
  refine lv_aload_n hx hb dL_isRefused_150 rfl (lv_at hl 6 rfl) ?_
  refine lv_iconst (v := 2) hx hb dL_isRefused_151 (by decide) ?_
  refine lv_sipush (v := 700) hx hb dL_isRefused_152 (by decide) ?_
  refine lv_iload hx hb dL_isRefused_155 (lv_at hl 5 rfl) ?_
  refine lv_if_eq (tgt := 166) hx hb dL_isRefused_157 (by decide) (fun c_157 => ?_) (fun c_157 => (absurd (by decide) c_157 : False).elim)
  refine lv_sipush (v := 10001) hx hb dL_isRefused_166 (by decide) ?_
  refine Lq.callH (rest := []) (wr := [(am, .inl (cA, 7, .inl (fun _ => 0))), (ar, .inl (cA, 22, .inl Y))]) [0, 1, 2, 3, 4, 5, 6, 7, 8, 9, 10, 11, 12, 13] [14, 15] ⟨hx, hb, hml, hown, hts⟩ (b_L_setRates_2 l hl9 D cA a F u107 0 hz.1 2 700 10001 ((if_pos (by decide +kernel)).trans ((if_pos (by decide +kernel)).trans (if_neg (by decide +kernel))))) (vx_cwSW 4 hts gL_isRefused_L_setRates rfl rfl rfl (by decide +kernel) ⟨Nat.le_of_ble_eq_true rfl, Nat.le_of_ble_eq_true rfl⟩) hK hP hD hS hA hZ rfl rfl (by decide) (by decide) (by decide) rfl rfl hl.1 (Nat.le_of_ble_eq_true rfl) dL_isRefused_169 ⟨Nat.le_of_ble_eq_true rfl, Nat.le_of_ble_eq_true rfl⟩ (fun r9 u9 H locs hu9 hP hD hS hG9 => ?_)
  have hP : va_P D vwCl (wK a cA F u107 am ar Y) H := hP.sub [2, 3, 4, 5, 6, 7, 8, 9, 10, 11, 12, 13, 14, 15, 0, 1] rfl
  have hD : va_D A (wK a cA F u107 am ar Y) := hD.sub [2, 3, 4, 5, 6, 7, 8, 9, 10, 11, 12, 13, 14, 15, 0, 1] (by decide) rfl
  have hG : s.heap.size + 3 ≤ H.size := Nat.le_trans (Nat.add_le_add_right hG 1) hG9
  refine ri_top (-1100000002) hu9 ?_
  refine lv_ldc (own := RL) (index := 20) (v := -1100000002) hx hb hown (hts (.constant RL 20 (-1100000002)) (by decide +kernel)) dL_isRefused_172 ?_
  refine lv_icmp_ne (tgt := 498) hx hb dL_isRefused_174 (by decide) (fun c_174 => (absurd (by decide) c_174 : False).elim) (fun c_174 => ?_)
  refine lv_aload_n hx hb dL_isRefused_177 rfl (lv_at hl 6 rfl) ?_
  refine lv_iload hx hb dL_isRefused_178 (lv_at hl 3 rfl) ?_
  refine lv_iconst (v := (-1)) hx hb dL_isRefused_180 (by decide) ?_
  refine lv_iconst (v := 0) hx hb dL_isRefused_181 (by decide) ?_
  refine lv_iconst (v := 0) hx hb dL_isRefused_182 (by decide) ?_
  refine Lq.callH (rest := []) (wr := [(am, .inl (cA, 7, .inl (fun _ => 0))), (ar, .inl (cA, 22, .inl Y))]) [0, 1, 2, 3, 4, 5, 6, 7, 8, 9, 10, 11, 12, 13] [14, 15] ⟨hx, hb, hml, hown, hts⟩ (b_L_setMargins_1 l hl9 D cA a F u107 0 hz.1 5 (-1) 0 0 (if_neg (by decide +kernel))) (vx_cwSW 5 hts gL_isRefused_L_setMargins rfl rfl rfl (by decide +kernel) ⟨Nat.le_of_ble_eq_true rfl, Nat.le_of_ble_eq_true rfl⟩) hK hP hD hS hA hZ rfl rfl (by decide) (by decide) (by decide) rfl rfl hl.1 (Nat.le_of_ble_eq_true rfl) dL_isRefused_183 ⟨Nat.le_of_ble_eq_true rfl, Nat.le_of_ble_eq_true rfl⟩ (fun r9 u9 H locs hu9 hP hD hS hG9 => ?_)
  have hP : va_P D vwCl (wK a cA F u107 am ar Y) H := hP.sub [2, 3, 4, 5, 6, 7, 8, 9, 10, 11, 12, 13, 14, 15, 0, 1] rfl
  have hD : va_D A (wK a cA F u107 am ar Y) := hD.sub [2, 3, 4, 5, 6, 7, 8, 9, 10, 11, 12, 13, 14, 15, 0, 1] (by decide) rfl
  have hG : s.heap.size + 4 ≤ H.size := Nat.le_trans (Nat.add_le_add_right hG 1) hG9
  refine ri_top (-1100000001) hu9 ?_
  refine lv_ldc (own := RL) (index := 17) (v := -1100000001) hx hb hown (hts (.constant RL 17 (-1100000001)) (by decide +kernel)) dL_isRefused_186 ?_
  refine lv_icmp_ne (tgt := 498) hx hb dL_isRefused_188 (by decide) (fun c_188 => (absurd (by decide) c_188 : False).elim) (fun c_188 => ?_)
  refine lv_aload_n hx hb dL_isRefused_191 rfl (lv_at hl 6 rfl) ?_
  refine lv_iconst (v := 2) hx hb dL_isRefused_192 (by decide) ?_
  refine lv_iload hx hb dL_isRefused_193 (lv_at hl 5 rfl) ?_
  refine lv_if_eq (tgt := 202) hx hb dL_isRefused_195 (by decide) (fun c_195 => ?_) (fun c_195 => (absurd (by decide) c_195 : False).elim)
  refine lv_bipush (v := 101) hx hb dL_isRefused_202 (by decide) ?_
  refine lv_iconst (v := 0) hx hb dL_isRefused_204 (by decide) ?_
  refine lv_iconst (v := 5) hx hb dL_isRefused_205 (by decide) ?_
  refine Lq.callH (rest := []) (wr := [(am, .inl (cA, 7, .inl (fun _ => 0))), (ar, .inl (cA, 22, .inl Y))]) [0, 1, 2, 3, 4, 5, 6, 7, 8, 9, 10, 11, 12, 13] [14, 15] ⟨hx, hb, hml, hown, hts⟩ (b_L_setMargins_2 l hl9 D cA a F u107 0 hz.1 2 101 0 5 ((if_pos (by decide +kernel)).trans (if_neg (by decide +kernel)))) (vx_cwSW 5 hts gL_isRefused_L_setMargins rfl rfl rfl (by decide +kernel) ⟨Nat.le_of_ble_eq_true rfl, Nat.le_of_ble_eq_true rfl⟩) hK hP hD hS hA hZ rfl rfl (by decide) (by decide) (by decide) rfl rfl hl.1 (Nat.le_of_ble_eq_true rfl) dL_isRefused_206 ⟨Nat.le_of_ble_eq_true rfl, Nat.le_of_ble_eq_true rfl⟩ (fun r9 u9 H locs hu9 hP hD hS hG9 => ?_)
  have hP : va_P D vwCl (wK a cA F u107 am ar Y) H := hP.sub [2, 3, 4, 5, 6, 7, 8, 9, 10, 11, 12, 13, 14, 15, 0, 1] rfl
  have hD : va_D A (wK a cA F u107 am ar Y) := hD.sub [2, 3, 4, 5, 6, 7, 8, 9, 10, 11, 12, 13, 14, 15, 0, 1] (by decide) rfl
  have hG : s.heap.size + 5 ≤ H.size := Nat.le_trans (Nat.add_le_add_right hG 1) hG9
  refine ri_top (-1100000002) hu9 ?_
  refine lv_ldc (own := RL) (index := 20) (v := -1100000002) hx hb hown (hts (.constant RL 20 (-1100000002)) (by decide +kernel)) dL_isRefused_209 ?_
  refine lv_icmp_ne (tgt := 498) hx hb dL_isRefused_211 (by decide) (fun c_211 => (absurd (by decide) c_211 : False).elim) (fun c_211 => ?_)
  refine lv_aload_n hx hb dL_isRefused_214 rfl (lv_at hl 6 rfl) ?_
  refine lv_iconst (v := 2) hx hb dL_isRefused_215 (by decide) ?_
  refine lv_bipush (v := 9) hx hb dL_isRefused_216 (by decide) ?_
  refine lv_iload hx hb dL_isRefused_218 (lv_at hl 5 rfl) ?_
  refine lv_if_eq (tgt := 227) hx hb dL_isRefused_220 (by decide) (fun c_220 => ?_) (fun c_220 => (absurd (by decide) c_220 : False).elim)
  refine lv_bipush (v := 10) hx hb dL_isRefused_227 (by decide) ?_
  refine lv_iconst (v := 5) hx hb dL_isRefused_229 (by decide) ?_
  refine Lq.callH (rest := []) (wr := [(am, .inl (cA, 7, .inl (fun _ => 0))), (ar, .inl (cA, 22, .inl Y))]) [0, 1, 2, 3, 4, 5, 6, 7, 8, 9, 10, 11, 12, 13] [14, 15] ⟨hx, hb, hml, hown, hts⟩ (b_L_setMargins_2 l hl9 D cA a F u107 0 hz.1 2 9 10 5 ((if_pos (by decide +kernel)).trans ((if_pos (by decide +kernel)).trans (if_neg (by decide +kernel))))) (vx_cwSW 5 hts gL_isRefused_L_setMargins rfl rfl rfl (by decide +kernel) ⟨Nat.le_of_ble_eq_true rfl, Nat.le_of_ble_eq_true rfl⟩) hK hP hD hS hA hZ rfl rfl (by decide) (by decide) (by decide) rfl rfl hl.1 (Nat.le_of_ble_eq_true rfl) dL_isRefused_230 ⟨Nat.le_of_ble_eq_true rfl, Nat.le_of_ble_eq_true rfl⟩ (fun r9 u9 H locs hu9 hP hD hS hG9 => ?_)
  have hP : va_P D vwCl (wK a cA F u107 am ar Y) H := hP.sub [2, 3, 4, 5, 6, 7, 8, 9, 10, 11, 12, 13, 14, 15, 0, 1] rfl
  have hD : va_D A (wK a cA F u107 am ar Y) := hD.sub [2, 3, 4, 5, 6, 7, 8, 9, 10, 11, 12, 13, 14, 15, 0, 1] (by decide) rfl
  have hG : s.heap.size + 6 ≤ H.size := Nat.le_trans (Nat.add_le_add_right hG 1) hG9
  refine ri_top (-1100000002) hu9 ?_
  refine lv_ldc (own := RL) (index := 20) (v := -1100000002) hx hb hown (hts (.constant RL 20 (-1100000002)) (by decide +kernel)) dL_isRefused_233 ?_
  refine lv_icmp_ne (tgt := 498) hx hb dL_isRefused_235 (by decide) (fun c_235 => (absurd (by decide) c_235 : False).elim) (fun c_235 => ?_)
  refine lv_aload_n hx hb dL_isRefused_238 rfl (lv_at hl 6 rfl) ?_
  refine lv_iconst (v := 2) hx hb dL_isRefused_239 (by decide) ?_
  refine lv_bipush (v := 9) hx hb dL_isRefused_240 (by decide) ?_
  refine lv_bipush (v := 9) hx hb dL_isRefused_242 (by decide) ?_
  refine lv_iload hx hb dL_isRefused_244 (lv_at hl 5 rfl) ?_
  refine lv_if_eq (tgt := 253) hx hb dL_isRefused_246 (by decide) (fun c_246 => ?_) (fun c_246 => (absurd (by decide) c_246 : False).elim)
  refine lv_sipush (v := 1001) hx hb dL_isRefused_253 (by decide) ?_
  refine Lq.callH (rest := []) (wr := [(am, .inl (cA, 7, .inl (fun _ => 0))), (ar, .inl (cA, 22, .inl Y))]) [0, 1, 2, 3, 4, 5, 6, 7, 8, 9, 10, 11, 12, 13] [14, 15] ⟨hx, hb, hml, hown, hts⟩ (b_L_setMargins_2 l hl9 D cA a F u107 0 hz.1 2 9 9 1001 ((if_pos (by decide +kernel)).trans ((if_pos (by decide +kernel)).trans ((if_pos (by decide +kernel)).trans (if_neg (by decide +kernel)))))) (vx_cwSW 5 hts gL_isRefused_L_setMargins rfl rfl rfl (by decide +kernel) ⟨Nat.le_of_ble_eq_true rfl, Nat.le_of_ble_eq_true rfl⟩) hK hP hD hS hA hZ rfl rfl (by decide) (by decide) (by decide) rfl rfl hl.1 (Nat.le_of_ble_eq_true rfl) dL_isRefused_256 ⟨Nat.le_of_ble_eq_true rfl, Nat.le_of_ble_eq_true rfl⟩ (fun r9 u9 H locs hu9 hP hD hS hG9 => ?_)
  have hP : va_P D vwCl (wK a cA F u107 am ar Y) H := hP.sub [2, 3, 4, 5, 6, 7, 8, 9, 10, 11, 12, 13, 14, 15, 0, 1] rfl
  have hD : va_D A (wK a cA F u107 am ar Y) := hD.sub [2, 3, 4, 5, 6, 7, 8, 9, 10, 11, 12, 13, 14, 15, 0, 1] (by decide) rfl
  have hG : s.heap.size + 7 ≤ H.size := Nat.le_trans (Nat.add_le_add_right hG 1) hG9
  refine ri_top (-1100000002) hu9 ?_
  refine lv_ldc (own := RL) (index := 20) (v := -1100000002) hx hb hown (hts (.constant RL 20 (-1100000002)) (by decide +kernel)) dL_isRefused_259 ?_
  refine lv_icmp_ne (tgt := 498) hx hb dL_isRefused_261 (by decide) (fun c_261 => (absurd (by decide) c_261 : False).elim) (fun c_261 => ?_)
  refine lv_aload_n hx hb dL_isRefused_264 rfl (lv_at hl 6 rfl) ?_
  refine lv_iload hx hb dL_isRefused_265 (lv_at hl 5 rfl) ?_
  refine lv_if_eq (tgt := 274) hx hb dL_isRefused_267 (by decide) (fun c_267 => ?_) (fun c_267 => (absurd (by decide) c_267 : False).elim)
  refine lv_bipush (v := 13) hx hb dL_isRefused_274 (by decide) ?_
  refine lv_iconst (v := 2) hx hb dL_isRefused_276 (by decide) ?_
  refine Lq.callH (rest := []) (wr := [(am, .inl (cA, 7, .inl (fun _ => 0))), (ar, .inl (cA, 22, .inl Y))]) [0, 1, 2, 3, 4, 5, 6, 7, 8, 9, 10, 11, 12, 13] [14, 15] ⟨hx, hb, hml, hown, hts⟩ (b_L_setEqual_1 l hl9 D cA a F u107 0 hz.1 13 2 (if_neg (by decide +kernel))) (vx_cwSW 3 hts gL_isRefused_L_setEqual rfl rfl rfl (by decide +kernel) ⟨Nat.le_of_ble_eq_true rfl, Nat.le_of_ble_eq_true rfl⟩) hK hP hD hS hA hZ rfl rfl (by decide) (by decide) (by decide) rfl rfl hl.1 (Nat.le_of_ble_eq_true rfl) dL_isRefused_277 ⟨Nat.le_of_ble_eq_true rfl, Nat.le_of_ble_eq_true rfl⟩ (fun r9 u9 H locs hu9 hP hD hS hG9 => ?_)
  have hP : va_P D vwCl (wK a cA F u107 am ar Y) H := hP.sub [2, 3, 4, 5, 6, 7, 8, 9, 10, 11, 12, 13, 14, 15, 0, 1] rfl
  have hD : va_D A (wK a cA F u107 am ar Y) := hD.sub [2, 3, 4, 5, 6, 7, 8, 9, 10, 11, 12, 13, 14, 15, 0, 1] (by decide) rfl
  have hG : s.heap.size + 8 ≤ H.size := Nat.le_trans (Nat.add_le_add_right hG 1) hG9
  refine ri_top (-1100000002) hu9 ?_
  refine lv_ldc (own := RL) (index := 20) (v := -1100000002) hx hb hown (hts (.constant RL 20 (-1100000002)) (by decide +kernel)) dL_isRefused_280 ?_
  refine lv_icmp_ne (tgt := 498) hx hb dL_isRefused_282 (by decide) (fun c_282 => (absurd (by decide) c_282 : False).elim) (fun c_282 => ?_)
  refine lv_aload_n hx hb dL_isRefused_285 rfl (lv_at hl 6 rfl) ?_
  refine lv_iconst (v := 2) hx hb dL_isRefused_286 (by decide) ?_
  refine lv_iload hx hb dL_isRefused_287 (lv_at hl 5 rfl) ?_
  refine lv_if_eq (tgt := 296) hx hb dL_isRefused_289 (by decide) (fun c_289 => ?_) (fun c_289 => (absurd (by decide) c_289 : False).elim)
  refine lv_bipush (v := 7) hx hb dL_isRefused_296 (by decide) ?_
  refine Lq.callH (rest := []) (wr := [(am, .inl (cA, 7, .inl (fun _ => 0))), (ar, .inl (cA, 22, .inl Y))]) [0, 1, 2, 3, 4, 5, 6, 7, 8, 9, 10, 11, 12, 13] [14, 15] ⟨hx, hb, hml, hown, hts⟩ (b_L_setEqual_1 l hl9 D cA a F u107 0 hz.1 2 7 ((if_pos (by decide +kernel)).trans (if_neg (by decide +kernel)))) (vx_cwSW 3 hts gL_isRefused_L_setEqual rfl rfl rfl (by decide +kernel) ⟨Nat.le_of_ble_eq_true rfl, Nat.le_of_ble_eq_true rfl⟩) hK hP hD hS hA hZ rfl rfl (by decide) (by decide) (by decide) rfl rfl hl.1 (Nat.le_of_ble_eq_true rfl) dL_isRefused_298 ⟨Nat.le_of_ble_eq_true rfl, Nat.le_of_ble_eq_true rfl⟩ (fun r9 u9 H locs hu9 hP hD hS hG9 => ?_)
  have hP : va_P D vwCl (wK a cA F u107 am ar Y) H := hP.sub [2, 3, 4, 5, 6, 7, 8, 9, 10, 11, 12, 13, 14, 15, 0, 1] rfl
  have hD : va_D A (wK a cA F u107 am ar Y) := hD.sub [2, 3, 4, 5, 6, 7, 8, 9, 10, 11, 12, 13, 14, 15, 0, 1] (by decide) rfl
  have hG : s.heap.size + 9 ≤ H.size := Nat.le_trans (Nat.add_le_add_right hG 1) hG9
  refine ri_top (-1100000002) hu9 ?_
  refine lv_ldc (own := RL) (index := 20) (v := -1100000002) hx hb hown (hts (.constant RL 20 (-1100000002)) (by decide +kernel)) dL_isRefused_301 ?_
  refine lv_icmp_ne (tgt := 498) hx hb dL_isRefused_303 (by decide) (fun c_303 => (absurd (by decide) c_303 : False).elim) (fun c_303 => ?_)
  refine lv_aload_n hx hb dL_isRefused_306 rfl (lv_at hl 6 rfl) ?_
  refine lv_iconst (v := 0) hx hb dL_isRefused_307 (by decide) ?_
  refine lv_iload hx hb dL_isRefused_308 (lv_at hl 4 rfl) ?_
  refine lv_iconst (v := 0) hx hb dL_isRefused_310 (by decide) ?_
  refine lv_iconst (v := (-1)) hx hb dL_isRefused_311 (by decide) ?_
  refine lv_iconst (v := 0) hx hb dL_isRefused_312 (by decide) ?_
  refine Lq.callH (rest := []) (wr := [(am, .inl (cA, 7, .inl (fun _ => 0))), (ar, .inl (cA, 22, .inl Y))]) [0, 1, 2, 3, 4, 5, 6, 7, 8, 9, 10, 11, 12, 13] [14, 15] ⟨hx, hb, hml, hown, hts⟩ (b_L_act0_1 l hl9 D cA a F u107 0 hz.1 7 0 (-1) 0 (if_neg (by decide +kernel))) (vx_cwSW 6 hts gL_isRefused_L_act rfl rfl rfl (by decide +kernel) ⟨Nat.le_of_ble_eq_true rfl, Nat.le_of_ble_eq_true rfl⟩) hK hP hD hS hA hZ rfl rfl (by decide) (by decide) (by decide) rfl rfl hl.1 (Nat.le_of_ble_eq_true rfl) dL_isRefused_313 ⟨Nat.le_of_ble_eq_true rfl, Nat.le_of_ble_eq_true rfl⟩ (fun r9 u9 H locs hu9 hP hD hS hG9 => ?_)
  have hP : va_P D vwCl (wK a cA F u107 am ar Y) H := hP.sub [2, 3, 4, 5, 6, 7, 8, 9, 10, 11, 12, 13, 14, 15, 0, 1] rfl
  have hD : va_D A (wK a cA F u107 am ar Y) := hD.sub [2, 3, 4, 5, 6, 7, 8, 9, 10, 11, 12, 13, 14, 15, 0, 1] (by decide) rfl
  have hG : s.heap.size + 10 ≤ H.size := Nat.le_trans (Nat.add_le_add_right hG 1) hG9
  refine ri_top (-1100000001) hu9 ?_
  refine lv_ldc (own := RL) (index := 17) (v := -1100000001) hx hb hown (hts (.constant RL 17 (-1100000001)) (by decide +kernel)) dL_isRefused_316 ?_
  refine lv_icmp_ne (tgt := 498) hx hb dL_isRefused_318 (by decide) (fun c_318 => (absurd (by decide) c_318 : False).elim) (fun c_318 => ?_)
  refine lv_aload_n hx hb dL_isRefused_321 rfl (lv_at hl 6 rfl) ?_
  refine lv_iconst (v := 0) hx hb dL_isRefused_322 (by decide) ?_
  refine lv_iconst (v := 0) hx hb dL_isRefused_323 (by decide) ?_
  refine lv_iload hx hb dL_isRefused_324 (lv_at hl 3 rfl) ?_
  refine lv_iconst (v := (-1)) hx hb dL_isRefused_326 (by decide) ?_
  refine lv_iconst (v := 0) hx hb dL_isRefused_327 (by decide) ?_
  refine Lq.callH (rest := []) (wr := [(am, .inl (cA, 7, .inl (fun _ => 0))), (ar, .inl (cA, 22, .inl Y))]) [0, 1, 2, 3, 4, 5, 6, 7, 8, 9, 10, 11, 12, 13] [14, 15] ⟨hx, hb, hml, hown, hts⟩ (b_L_act0_1 l hl9 D cA a F u107 0 hz.1 0 5 (-1) 0 ((if_pos (by decide +kernel)).trans (if_neg (by decide +kernel)))) (vx_cwSW 6 hts gL_isRefused_L_act rfl rfl rfl (by decide +kernel) ⟨Nat.le_of_ble_eq_true rfl, Nat.le_of_ble_eq_true rfl⟩) hK hP hD hS hA hZ rfl rfl (by decide) (by decide) (by decide) rfl rfl hl.1 (Nat.le_of_ble_eq_true rfl) dL_isRefused_328 ⟨Nat.le_of_ble_eq_true rfl, Nat.le_of_ble_eq_true rfl⟩ (fun r9 u9 H locs hu9 hP hD hS hG9 => ?_)
  have hP : va_P D vwCl (wK a cA F u107 am ar Y) H := hP.sub [2, 3, 4, 5, 6, 7, 8, 9, 10, 11, 12, 13, 14, 15, 0, 1] rfl
  have hD : va_D A (wK a cA F u107 am ar Y) := hD.sub [2, 3, 4, 5, 6, 7, 8, 9, 10, 11, 12, 13, 14, 15, 0, 1] (by decide) rfl
  have hG : s.heap.size + 11 ≤ H.size := Nat.le_trans (Nat.add_le_add_right hG 1) hG9
  refine ri_top (-1100000001) hu9 ?_
  refine lv_ldc (own := RL) (index := 17) (v := -1100000001) hx hb hown (hts (.constant RL 17 (-1100000001)) (by decide +kernel)) dL_isRefused_331 ?_
  refine lv_icmp_ne (tgt := 498) hx hb dL_isRefused_333 (by decide) (fun c_333 => (absurd (by decide) c_333 : False).elim) (fun c_333 => ?_)
  refine lv_aload_n hx hb dL_isRefused_336 rfl (lv_at hl 6 rfl) ?_
  refine lv_iconst (v := 0) hx hb dL_isRefused_337 (by decide) ?_
  refine lv_iconst (v := 0) hx hb dL_isRefused_338 (by decide) ?_
  refine lv_iconst (v := 0) hx hb dL_isRefused_339 (by decide) ?_
  refine lv_iload hx hb dL_isRefused_340 (lv_at hl 5 rfl) ?_
  refine lv_if_eq (tgt := 354) hx hb dL_isRefused_342 (by decide) (fun c_342 => ?_) (fun c_342 => (absurd (by decide) c_342 : False).elim)
  refine lv_sipush (v := 140) hx hb dL_isRefused_354 (by decide) ?_
  refine lv_iload_n hx hb dL_isRefused_357 rfl (lv_at hl 9 rfl) ?_
  refine lv_bipush (v := 30) hx hb dL_isRefused_358 (by decide) ?_
  refine lv_irem hx hb dL_isRefused_360 (by decide) ?_
  refine ri_top 1 (by decide +kernel) ?_
  refine lv_iadd hx hb dL_isRefused_361 ?_
  refine ri_top 141 (by decide +kernel) ?_
  refine lv_iconst (v := 1) hx hb dL_isRefused_362 (by decide) ?_
  refine Lq.callH (rest := []) (wr := [(am, .inl (cA, 7, .inl (fun _ => 0))), (ar, .inl (cA, 22, .inl Y))]) [0, 1, 2, 3, 4, 5, 6, 7, 8, 9, 10, 11, 12, 13] [14, 15] ⟨hx, hb, hml, hown, hts⟩ (b_L_act0_2 l hl9 D cA a F u107 0 hz.1 0 0 141 1 ((if_pos (by decide +kernel)).trans ((if_pos (by decide +kernel)).trans (if_neg (by decide +kernel))))) (vx_cwSW 6 hts gL_isRefused_L_act rfl rfl rfl (by decide +kernel) ⟨Nat.le_of_ble_eq_true rfl, Nat.le_of_ble_eq_true rfl⟩) hK hP hD hS hA hZ rfl rfl (by decide) (by decide) (by decide) rfl rfl hl.1 (Nat.le_of_ble_eq_true rfl) dL_isRefused_363 ⟨Nat.le_of_ble_eq_true rfl, Nat.le_of_ble_eq_true rfl⟩ (fun r9 u9 H locs hu9 hP hD hS hG9 => ?_)
  have hP : va_P D vwCl (wK a cA F u107 am ar Y) H := hP.sub [2, 3, 4, 5, 6, 7, 8, 9, 10, 11, 12, 13, 14, 15, 0, 1] rfl
  have hD : va_D A (wK a cA F u107 am ar Y) := hD.sub [2, 3, 4, 5, 6, 7, 8, 9, 10, 11, 12, 13, 14, 15, 0, 1] (by decide) rfl
  have hG : s.heap.size + 12 ≤ H.size := Nat.le_trans (Nat.add_le_add_right hG 1) hG9
  refine ri_top (-1100000002) hu9 ?_
  refine lv_ldc (own := RL) (index := 20) (v := -1100000002) hx hb hown (hts (.constant RL 20 (-1100000002)) (by decide +kernel)) dL_isRefused_366 ?_
  refine lv_icmp_ne (tgt := 498) hx hb dL_isRefused_368 (by decide) (fun c_368 => (absurd (by decide) c_368 : False).elim) (fun c_368 => ?_)
  refine lv_aload_n hx hb dL_isRefused_371 rfl (lv_at hl 6 rfl) ?_
  refine lv_iconst (v := 0) hx hb dL_isRefused_372 (by decide) ?_
  refine lv_iconst (v := 0) hx hb dL_isRefused_373 (by decide) ?_
  refine lv_iconst (v := 0) hx hb dL_isRefused_374 (by decide) ?_
  refine lv_iconst (v := 0) hx hb dL_isRefused_375 (by decide) ?_
  refine lv_iload hx hb dL_isRefused_376 (lv_at hl 5 rfl) ?_
  refine lv_if_eq (tgt := 385) hx hb dL_isRefused_378 (by decide) (fun c_378 => ?_) (fun c_378 => (absurd (by decide) c_378 : False).elim)
  refine lv_bipush (v := 17) hx hb dL_isRefused_385 (by decide) ?_
  refine Lq.callH (rest := []) (wr := [(am, .inl (cA, 7, .inl (fun _ => 0))), (ar, .inl (cA, 22, .inl Y))]) [0, 1, 2, 3, 4, 5, 6, 7, 8, 9, 10, 11, 12, 13] [14, 15] ⟨hx, hb, hml, hown, hts⟩ (b_L_act0_2 l hl9 D cA a F u107 0 hz.1 0 0 0 17 ((if_pos (by decide +kernel)).trans ((if_pos (by decide +kernel)).trans ((if_pos (by decide +kernel)).trans (if_neg (by decide +kernel)))))) (vx_cwSW 6 hts gL_isRefused_L_act rfl rfl rfl (by decide +kernel) ⟨Nat.le_of_ble_eq_true rfl, Nat.le_of_ble_eq_true rfl⟩) hK hP hD hS hA hZ rfl rfl (by decide) (by decide) (by decide) rfl rfl hl.1 (Nat.le_of_ble_eq_true rfl) dL_isRefused_387 ⟨Nat.le_of_ble_eq_true rfl, Nat.le_of_ble_eq_true rfl⟩ (fun r9 u9 H locs hu9 hP hD hS hG9 => ?_)
  have hP : va_P D vwCl (wK a cA F u107 am ar Y) H := hP.sub [2, 3, 4, 5, 6, 7, 8, 9, 10, 11, 12, 13, 14, 15, 0, 1] rfl
  have hD : va_D A (wK a cA F u107 am ar Y) := hD.sub [2, 3, 4, 5, 6, 7, 8, 9, 10, 11, 12, 13, 14, 15, 0, 1] (by decide) rfl
  have hG : s.heap.size + 13 ≤ H.size := Nat.le_trans (Nat.add_le_add_right hG 1) hG9
  refine ri_top (-1100000002) hu9 ?_
  refine lv_ldc (own := RL) (index := 20) (v := -1100000002) hx hb hown (hts (.constant RL 20 (-1100000002)) (by decide +kernel)) dL_isRefused_390 ?_
  refine lv_icmp_ne (tgt := 498) hx hb dL_isRefused_392 (by decide) (fun c_392 => (absurd (by decide) c_392 : False).elim) (fun c_392 => ?_)
  refine lv_aload_n hx hb dL_isRefused_395 rfl (lv_at hl 6 rfl) ?_
  refine lv_iconst (v := 1) hx hb dL_isRefused_396 (by decide) ?_
  refine lv_iload hx hb dL_isRefused_397 (lv_at hl 1 rfl) ?_
  refine lv_iconst (v := (-1)) hx hb dL_isRefused_399 (by decide) ?_
  refine lv_iconst (v := 0) hx hb dL_isRefused_400 (by decide) ?_
  refine lv_iconst (v := 0) hx hb dL_isRefused_401 (by decide) ?_
  refine Lq.callH (rest := []) (wr := [(am, .inl (cA, 7, .inl (fun _ => 0))), (ar, .inl (cA, 22, .inl Y))]) [0, 1, 2, 3, 4, 5, 6, 7, 8, 9, 10, 11, 12, 13] [14, 15] ⟨hx, hb, hml, hown, hts⟩ (b_L_act1_1 l hl9 D cA a F u107 0 hz.1 1 (-1) 0 0 (if_neg (nocI hz _))) (vx_cwSW 6 hts gL_isRefused_L_act rfl rfl rfl (by decide +kernel) ⟨Nat.le_of_ble_eq_true rfl, Nat.le_of_ble_eq_true rfl⟩) hK hP hD hS hA hZ rfl rfl (by decide) (by decide) (by decide) rfl rfl hl.1 (Nat.le_of_ble_eq_true rfl) dL_isRefused_402 ⟨Nat.le_of_ble_eq_true rfl, Nat.le_of_ble_eq_true rfl⟩ (fun r9 u9 H locs hu9 hP hD hS hG9 => ?_)
  have hP : va_P D vwCl (wK a cA F u107 am ar Y) H := hP.sub [2, 3, 4, 5, 6, 7, 8, 9, 10, 11, 12, 13, 14, 15, 0, 1] rfl
  have hD : va_D A (wK a cA F u107 am ar Y) := hD.sub [2, 3, 4, 5, 6, 7, 8, 9, 10, 11, 12, 13, 14, 15, 0, 1] (by decide) rfl
  have hG : s.heap.size + 14 ≤ H.size := Nat.le_trans (Nat.add_le_add_right hG 1) hG9
  refine ri_top (-1100000001) hu9 ?_
  refine lv_ldc (own := RL) (index := 17) (v := -1100000001) hx hb hown (hts (.constant RL 17 (-1100000001)) (by decide +kernel)) dL_isRefused_405 ?_
  refine lv_icmp_ne (tgt := 498) hx hb dL_isRefused_407 (by decide) (fun c_407 => (absurd (by decide) c_407 : False).elim) (fun c_407 => ?_)
  refine lv_aload_n hx hb dL_isRefused_410 rfl (lv_at hl 6 rfl) ?_
  refine lv_iconst (v := 2) hx hb dL_isRefused_411 (by decide) ?_
  refine lv_iload hx hb dL_isRefused_412 (lv_at hl 2 rfl) ?_
  refine lv_iconst (v := 0) hx hb dL_isRefused_414 (by decide) ?_
  refine lv_iconst (v := 0) hx hb dL_isRefused_415 (by decide) ?_
  refine lv_iconst (v := 0) hx hb dL_isRefused_416 (by decide) ?_
  refine Lq.callH (rest := []) (wr := [(am, .inl (cA, 7, .inl (fun _ => 0))), (ar, .inl (cA, 22, .inl Y))]) [0, 1, 2, 3, 4, 5, 6, 7, 8, 9, 10, 11, 12, 13] [14, 15] ⟨hx, hb, hml, hown, hts⟩ (b_L_act2_1 l hl9 D cA a F u107 0 hz.1 21 0 0 0 (if_neg (by decide +kernel))) (vx_cwSW 6 hts gL_isRefused_L_act rfl rfl rfl (by decide +kernel) ⟨Nat.le_of_ble_eq_true rfl, Nat.le_of_ble_eq_true rfl⟩) hK hP hD hS hA hZ rfl rfl (by decide) (by decide) (by decide) rfl rfl hl.1 (Nat.le_of_ble_eq_true rfl) dL_isRefused_417 ⟨Nat.le_of_ble_eq_true rfl, Nat.le_of_ble_eq_true rfl⟩ (fun r9 u9 H locs hu9 hP hD hS hG9 => ?_)
  have hP : va_P D vwCl (wK a cA F u107 am ar Y) H := hP.sub [2, 3, 4, 5, 6, 7, 8, 9, 10, 11, 12, 13, 14, 15, 0, 1] rfl
  have hD : va_D A (wK a cA F u107 am ar Y) := hD.sub [2, 3, 4, 5, 6, 7, 8, 9, 10, 11, 12, 13, 14, 15, 0, 1] (by decide) rfl
  have hG : s.heap.size + 15 ≤ H.size := Nat.le_trans (Nat.add_le_add_right hG 1) hG9
  refine ri_top (-1100000001) hu9 ?_
  refine lv_ldc (own := RL) (index := 17) (v := -1100000001) hx hb hown (hts (.constant RL 17 (-1100000001)) (by decide +kernel)) dL_isRefused_420 ?_
  refine lv_icmp_ne (tgt := 498) hx hb dL_isRefused_422 (by decide) (fun c_422 => (absurd (by decide) c_422 : False).elim) (fun c_422 => ?_)
  refine lv_aload_n hx hb dL_isRefused_425 rfl (lv_at hl 6 rfl) ?_
  refine lv_iconst (v := 3) hx hb dL_isRefused_426 (by decide) ?_
  refine lv_iload hx hb dL_isRefused_427 (lv_at hl 4 rfl) ?_
  refine lv_iconst (v := 0) hx hb dL_isRefused_429 (by decide) ?_
  refine lv_iconst (v := 0) hx hb dL_isRefused_430 (by decide) ?_
  refine lv_iconst (v := 0) hx hb dL_isRefused_431 (by decide) ?_
  refine Lq.callH (rest := []) (wr := [(am, .inl (cA, 7, .inl (fun _ => 0))), (ar, .inl (cA, 22, .inl Y))]) [0, 1, 2, 3, 4, 5, 6, 7, 8, 9, 10, 11, 12, 13] [14, 15] ⟨hx, hb, hml, hown, hts⟩ (b_L_act3_1 l hl9 D cA a F u107 0 hz.1 7 0 0 0 (if_neg (by decide +kernel))) (vx_cwSW 6 hts gL_isRefused_L_act rfl rfl rfl (by decide +kernel) ⟨Nat.le_of_ble_eq_true rfl, Nat.le_of_ble_eq_true rfl⟩) hK hP hD hS hA hZ rfl rfl (by decide) (by decide) (by decide) rfl rfl hl.1 (Nat.le_of_ble_eq_true rfl) dL_isRefused_432 ⟨Nat.le_of_ble_eq_true rfl, Nat.le_of_ble_eq_true rfl⟩ (fun r9 u9 H locs hu9 hP hD hS hG9 => ?_)
  have hP : va_P D vwCl (wK a cA F u107 am ar Y) H := hP.sub [2, 3, 4, 5, 6, 7, 8, 9, 10, 11, 12, 13, 14, 15, 0, 1] rfl
  have hD : va_D A (wK a cA F u107 am ar Y) := hD.sub [2, 3, 4, 5, 6, 7, 8, 9, 10, 11, 12, 13, 14, 15, 0, 1] (by decide) rfl
  have hG : s.heap.size + 16 ≤ H.size := Nat.le_trans (Nat.add_le_add_right hG 1) hG9
  refine ri_top (-1100000001) hu9 ?_
  refine lv_ldc (own := RL) (index := 17) (v := -1100000001) hx hb hown (hts (.constant RL 17 (-1100000001)) (by decide +kernel)) dL_isRefused_435 ?_
  refine lv_icmp_ne (tgt := 498) hx hb dL_isRefused_437 (by decide) (fun c_437 => (absurd (by decide) c_437 : False).elim) (fun c_437 => ?_)
  refine lv_aload_n hx hb dL_isRefused_440 rfl (lv_at hl 6 rfl) ?_
  refine lv_iconst (v := 3) hx hb dL_isRefused_441 (by decide) ?_
  refine lv_iconst (v := 0) hx hb dL_isRefused_442 (by decide) ?_
  refine lv_iload hx hb dL_isRefused_443 (lv_at hl 5 rfl) ?_
  refine lv_if_eq (tgt := 457) hx hb dL_isRefused_445 (by decide) (fun c_445 => ?_) (fun c_445 => (absurd (by decide) c_445 : False).elim)
  refine lv_sipush (v := 10001) hx hb dL_isRefused_457 (by decide) ?_
  refine lv_iconst (v := 0) hx hb dL_isRefused_460 (by decide) ?_
  refine lv_iconst (v := 0) hx hb dL_isRefused_461 (by decide) ?_
  refine Lq.callH (rest := []) (wr := [(am, .inl (cA, 7, .inl (fun _ => 0))), (ar, .inl (cA, 22, .inl Y))]) [0, 1, 2, 3, 4, 5, 6, 7, 8, 9, 10, 11, 12, 13] [14, 15] ⟨hx, hb, hml, hown, hts⟩ (b_L_act3_2 l hl9 D cA a F u107 0 hz.1 0 10001 0 0 ((if_pos (by decide +kernel)).trans (if_neg (by decide +kernel)))) (vx_cwSW 6 hts gL_isRefused_L_act rfl rfl rfl (by decide +kernel) ⟨Nat.le_of_ble_eq_true rfl, Nat.le_of_ble_eq_true rfl⟩) hK hP hD hS hA hZ rfl rfl (by decide) (by decide) (by decide) rfl rfl hl.1 (Nat.le_of_ble_eq_true rfl) dL_isRefused_462 ⟨Nat.le_of_ble_eq_true rfl, Nat.le_of_ble_eq_true rfl⟩ (fun r9 u9 H locs hu9 hP hD hS hG9 => ?_)
  have hP : va_P D vwCl (wK a cA F u107 am ar Y) H := hP.sub [2, 3, 4, 5, 6, 7, 8, 9, 10, 11, 12, 13, 14, 15, 0, 1] rfl
  have hD : va_D A (wK a cA F u107 am ar Y) := hD.sub [2, 3, 4, 5, 6, 7, 8, 9, 10, 11, 12, 13, 14, 15, 0, 1] (by decide) rfl
  have hG : s.heap.size + 17 ≤ H.size := Nat.le_trans (Nat.add_le_add_right hG 1) hG9
  refine ri_top (-1100000002) hu9 ?_
  refine lv_ldc (own := RL) (index := 20) (v := -1100000002) hx hb hown (hts (.constant RL 20 (-1100000002)) (by decide +kernel)) dL_isRefused_465 ?_
  refine lv_icmp_ne (tgt := 498) hx hb dL_isRefused_467 (by decide) (fun c_467 => (absurd (by decide) c_467 : False).elim) (fun c_467 => ?_)
  refine lv_aload_n hx hb dL_isRefused_470 rfl (lv_at hl 8 rfl) ?_
  refine lv_iconst (v := 0) hx hb dL_isRefused_471 (by decide) ?_
  refine ri_ald (j := 0) hx hb hK hP 14 rfl (rfl) (by decide) (by decide) dL_isRefused_472 ?_
  refine ri_top 0 rfl ?_
  refine lv_bipush (v := 80) hx hb dL_isRefused_473 (by decide) ?_
  refine lv_icmp_lt (tgt := 494) hx hb dL_isRefused_475 (by decide) (fun c_475 => ?_) (fun c_475 => (absurd (by decide) c_475 : False).elim)
  refine lv_iconst (v := 1) hx hb dL_isRefused_494 (by decide) ?_
  refine lv_goto (tgt := 499) hx hb dL_isRefused_495 (by decide) ?_
  refine lv_istore (lv' := [(11, .int 1), (9, .long 0), (8, .int 1), (7, .int 21), (6, .int 5), (5, .int 7), (4, .int 0), (0, .ref (a 16)), (1, .ref at_), (2, .ref am), (3, .int 1)]) hx hb dL_isRefused_499 hl (by decide) rfl (fun ls hl => ?_)
  refine lv_iconst (v := 0) hx hb dL_isRefused_501 (by decide) ?_
  refine lv_istore (lv' := [(12, .int 0), (11, .int 1), (9, .long 0), (8, .int 1), (7, .int 21), (6, .int 5), (5, .int 7), (4, .int 0), (0, .ref (a 16)), (1, .ref at_), (2, .ref am), (3, .int 1)]) hx hb dL_isRefused_502 hl (by decide) rfl (fun ls hl => ?_)
  exact KK _ _ _ _ hP hD hS hG (lv_sub hl [8, 9, 10, 11, 7, 6, 5, 4, 3, 2, 1, 0] rfl)

set_option maxHeartbeats 4000000 in
set_option maxRecDepth 100000 in
theorem rf1_b0 {p : Program} {l : Launch} (hl9 : l.stackTraces = false) {e : Env} {s : State} {m : MethodId} {args : Array Value} {below : List Frame} {meth : Method} {c : Code} {Q : State → Prop} {D : va_G} {cA : ClassId} {a : Nat → Nat} {F : Nat → Nat → Int32} {at_ am ar : Nat} {Y : Nat → Int32} (hz : zs F) {A : Nat → Prop} (hx : p.tables.exec = Jvm.exec) (hb : c.code = cL_isRefused) (hts : ∀ w ∈ wsL_isRefused, w.before args s = true) (hown : s.vm.findClass RL = some m.cls) (hml : c.maxLocals = 15) (hK : KA D cA s) (hA : ∀ q : Nat, s.heap.size ≤ q → A q) (hZ : ZY A s) (KK : ∀ (g : Nat → Int32) (H : Heap) (locs : List Loc) (ls : Array Slot), va_P D vwCl (wK a cA F g am ar Y) H → va_D A (wK a cA F g am ar Y) → va_S A s.heap H locs → s.heap.size + 19 ≤ H.size → lv_has ls 15 [(0, .ref (a 16)), (1, .ref at_), (2, .ref am), (3, .int 1), (4, .int 0), (5, .int 7), (6, .int 5), (7, .int 21), (8, .int 1), (9, .long 0), (11, .int 1), (12, .int 1)] → W p l e rmL_isRefused s m args below meth c H locs 19 114 Q (F0 m 504 ls [])) : ∀ (g : Nat → Int32) (H : Heap) (locs : List Loc) (ls : Array Slot), va_P D vwCl (wK a cA F g am ar Y) H → va_D A (wK a cA F g am ar Y) → va_S A s.heap H locs → s.heap.size + 17 ≤ H.size → lv_has ls 15 [(0, .ref (a 16)), (1, .ref at_), (2, .ref am), (3, .int 1), (4, .int 0), (5, .int 7), (6, .int 5), (7, .int 21), (8, .int 1), (9, .long 0), (11, .int 1), (12, .int 0)] → W p l e rmL_isRefused s m args below meth c H locs 17 102 Q (F0 m 504 ls []) := by
  intro g H locs ls hP hD hS hG hl
  refine lv_iload hx hb dL_isRefused_504 (lv_at hl 11 rfl) ?_
  refine lv_bipush (v := 12) hx hb dL_isRefused_506 (by decide) ?_
  refine lv_icmp_ge (tgt := 668) hx hb dL_isRefused_508 (by decide) (fun c_508 => (absurd c_508 (by decide) : False).elim) (fun c_508 => ?_)
  refine lv_iload hx hb dL_isRefused_511 (lv_at hl 10 rfl) ?_
  refine lv_if_eq (tgt := 668) hx hb dL_isRefused_513 (by decide) (fun c_513 => (absurd c_513 (by decide) : False).elim) (fun c_513 => ?_)
  refine lv_iload hx hb dL_isRefused_516 (lv_at hl 11 rfl) ?_
  refine lv_iconst (v := 1) hx hb dL_isRefused_518 (by decide) ?_
  refine lv_icmp_eq (tgt := 534) hx hb dL_isRefused_519 (by decide) (fun c_519 => (absurd c_519 (by decide) : False).elim) (fun c_519 => ?_)
  refine lv_iload hx hb dL_isRefused_522 (lv_at hl 11 rfl) ?_
  refine lv_iconst (v := 3) hx hb dL_isRefused_524 (by decide) ?_
  refine lv_icmp_eq (tgt := 534) hx hb dL_isRefused_525 (by decide) (fun c_525 => (absurd c_525 (by decide) : False).elim) (fun c_525 => ?_)
  refine lv_iload hx hb dL_isRefused_528 (lv_at hl 11 rfl) ?_
  refine lv_iconst (v := 4) hx hb dL_isRefused_530 (by decide) ?_
  refine lv_icmp_ne (tgt := 538) hx hb dL_isRefused_531 (by decide) (fun c_531 => ?_) (fun c_531 => (absurd c_531 (by decide) : False).elim)
  refine lv_iconst (v := 0) hx hb dL_isRefused_538 (by decide) ?_
  refine lv_istore (lv' := [(13, .int 0), (0, .ref (a 16)), (1, .ref at_), (2, .ref am), (3, .int 1), (4, .int 0), (5, .int 7), (6, .int 5), (7, .int 21), (8, .int 1), (9, .long 0), (11, .int 1), (12, .int 0)]) hx hb dL_isRefused_539 hl (by decide) rfl (fun ls hl => ?_)
  refine lv_iload hx hb dL_isRefused_541 (lv_at hl 12 rfl) ?_
  refine lv_bipush (v := 8) hx hb dL_isRefused_543 (by decide) ?_
  refine lv_icmp_eq (tgt := 555) hx hb dL_isRefused_545 (by decide) (fun c_545 => (absurd c_545 (by decide) : False).elim) (fun c_545 => ?_)
  refine lv_iload hx hb dL_isRefused_548 (lv_at hl 12 rfl) ?_
  refine lv_bipush (v := 10) hx hb dL_isRefused_550 (by decide) ?_
  refine lv_icmp_ne (tgt := 559) hx hb dL_isRefused_552 (by decide) (fun c_552 => ?_) (fun c_552 => (absurd c_552 (by decide) : False).elim)
  refine lv_iconst (v := 0) hx hb dL_isRefused_559 (by decide) ?_
  refine lv_istore (lv' := [(14, .int 0), (13, .int 0), (0, .ref (a 16)), (1, .ref at_), (2, .ref am), (3, .int 1), (4, .int 0), (5, .int 7), (6, .int 5), (7, .int 21), (8, .int 1), (9, .long 0), (11, .int 1), (12, .int 0)]) hx hb dL_isRefused_560 hl (by decide) rfl (fun ls hl => ?_)
  refine lv_aload_n hx hb dL_isRefused_562 rfl (lv_at hl 2 rfl) ?_
  refine lv_iload hx hb dL_isRefused_563 (lv_at hl 13 rfl) ?_
  refine lv_iload hx hb dL_isRefused_565 (lv_at hl 1 rfl) ?_
  refine lv_if_eq (tgt := 575) hx hb dL_isRefused_567 (by decide) (fun c_567 => ?_) (fun c_567 => (absurd (by decide) c_567 : False).elim)
  refine lv_iload hx hb dL_isRefused_575 (lv_at hl 0 rfl) ?_
  refine lv_if_eq (tgt := 585) hx hb dL_isRefused_577 (by decide) (fun c_577 => ?_) (fun c_577 => (absurd (by decide) c_577 : False).elim)
  refine lv_iload hx hb dL_isRefused_585 (lv_at hl 7 rfl) ?_
  refine lv_iconst (v := 0) hx hb dL_isRefused_587 (by decide) ?_
  refine lv_iconst (v := 0) hx hb dL_isRefused_588 (by decide) ?_
  refine Lq.callH (rest := []) (wr := [(am, .inl (cA, 7, .inl (fun _ => 0))), (ar, .inl (cA, 22, .inl Y))]) [0, 1, 2, 3, 4, 5, 6, 7, 8, 9, 10, 11, 12, 13] [14, 15] ⟨hx, hb, hml, hown, hts⟩ (b_L_of0 l hl9 D cA a F g 0 hz.1 7 0 0 (if_neg (by decide +kernel))) (vx_cwSW 5 hts gL_isRefused_L_of rfl rfl rfl (by decide +kernel) ⟨Nat.le_of_ble_eq_true rfl, Nat.le_of_ble_eq_true rfl⟩) hK hP hD hS hA hZ rfl rfl (by decide) (by decide) (by decide) rfl rfl hl.1 (Nat.le_of_ble_eq_true rfl) dL_isRefused_589 ⟨Nat.le_of_ble_eq_true rfl, Nat.le_of_ble_eq_true rfl⟩ (fun r9 u9 H locs hu9 hP hD hS hG9 => ?_)
  have hP : va_P D vwCl (wK a cA F g am ar Y) H := hP.sub [2, 3, 4, 5, 6, 7, 8, 9, 10, 11, 12, 13, 14, 15, 0, 1] rfl
  have hD : va_D A (wK a cA F g am ar Y) := hD.sub [2, 3, 4, 5, 6, 7, 8, 9, 10, 11, 12, 13, 14, 15, 0, 1] (by decide) rfl
  have hG : s.heap.size + 18 ≤ H.size := Nat.le_trans (Nat.add_le_add_right hG 1) hG9
  refine ri_top (-1100000001) hu9 ?_
  refine lv_ldc (own := RL) (index := 17) (v := -1100000001) hx hb hown (hts (.constant RL 17 (-1100000001)) (by decide +kernel)) dL_isRefused_592 ?_
  refine lv_icmp_ne (tgt := 659) hx hb dL_isRefused_594 (by decide) (fun c_594 => (absurd (by decide) c_594 : False).elim) (fun c_594 => ?_)
  refine lv_iload hx hb dL_isRefused_597 (lv_at hl 1 rfl) ?_
  refine lv_if_ne (tgt := 635) hx hb dL_isRefused_599 (by decide) (fun c_599 => (absurd (by decide) c_599 : False).elim) (fun c_599 => ?_)
  refine lv_iload hx hb dL_isRefused_602 (lv_at hl 13 rfl) ?_
  refine lv_bipush (v := 11) hx hb dL_isRefused_604 (by decide) ?_
  refine lv_icmp_eq (tgt := 635) hx hb dL_isRefused_606 (by decide) (fun c_606 => (absurd c_606 (by decide) : False).elim) (fun c_606 => ?_)
  refine lv_aload_n hx hb dL_isRefused_609 rfl (lv_at hl 2 rfl) ?_
  refine lv_iload hx hb dL_isRefused_610 (lv_at hl 13 rfl) ?_
  refine lv_iconst (v := 0) hx hb dL_isRefused_612 (by decide) ?_
  refine lv_iload hx hb dL_isRefused_613 (lv_at hl 13 rfl) ?_
  refine lv_iconst (v := 2) hx hb dL_isRefused_615 (by decide) ?_
  refine lv_icmp_ne (tgt := 623) hx hb dL_isRefused_616 (by decide) (fun c_616 => ?_) (fun c_616 => (absurd c_616 (by decide) : False).elim)
  refine lv_iload hx hb dL_isRefused_623 (lv_at hl 9 rfl) ?_
  refine lv_iload hx hb dL_isRefused_625 (lv_at hl 9 rfl) ?_
  refine Lq.callH (rest := []) (wr := [(am, .inl (cA, 7, .inl (fun _ => 0))), (ar, .inl (cA, 22, .inl Y))]) [0, 1, 2, 3, 4, 5, 6, 7, 8, 9, 10, 11, 12, 13] [14, 15] ⟨hx, hb, hml, hown, hts⟩ (b_L_of0 l hl9 D cA a F g 0 hz.1 0 21 21 ((if_pos (by decide +kernel)).trans (if_neg (by decide +kernel)))) (vx_cwSW 5 hts gL_isRefused_L_of rfl rfl rfl (by decide +kernel) ⟨Nat.le_of_ble_eq_true rfl, Nat.le_of_ble_eq_true rfl⟩) hK hP hD hS hA hZ rfl rfl (by decide) (by decide) (by decide) rfl rfl hl.1 (Nat.le_of_ble_eq_true rfl) dL_isRefused_627 ⟨Nat.le_of_ble_eq_true rfl, Nat.le_of_ble_eq_true rfl⟩ (fun r9 u9 H locs hu9 hP hD hS hG9 => ?_)
  have hP : va_P D vwCl (wK a cA F g am ar Y) H := hP.sub [2, 3, 4, 5, 6, 7, 8, 9, 10, 11, 12, 13, 14, 15, 0, 1] rfl
  have hD : va_D A (wK a cA F g am ar Y) := hD.sub [2, 3, 4, 5, 6, 7, 8, 9, 10, 11, 12, 13, 14, 15, 0, 1] (by decide) rfl
  have hG : s.heap.size + 19 ≤ H.size := Nat.le_trans (Nat.add_le_add_right hG 1) hG9
  refine ri_top (-1100000001) hu9 ?_
  refine lv_ldc (own := RL) (index := 17) (v := -1100000001) hx hb hown (hts (.constant RL 17 (-1100000001)) (by decide +kernel)) dL_isRefused_630 ?_
  refine lv_icmp_ne (tgt := 659) hx hb dL_isRefused_632 (by decide) (fun c_632 => (absurd (by decide) c_632 : False).elim) (fun c_632 => ?_)
  refine lv_iload hx hb dL_isRefused_635 (lv_at hl 13 rfl) ?_
  refine lv_iconst (v := 2) hx hb dL_isRefused_637 (by decide) ?_
  refine lv_icmp_ne (tgt := 655) hx hb dL_isRefused_638 (by decide) (fun c_638 => ?_) (fun c_638 => (absurd c_638 (by decide) : False).elim)
  refine lv_iconst (v := 1) hx hb dL_isRefused_655 (by decide) ?_
  refine lv_goto (tgt := 660) hx hb dL_isRefused_656 (by decide) ?_
  refine lv_istore (lv' := [(11, .int 1), (14, .int 0), (13, .int 0), (0, .ref (a 16)), (1, .ref at_), (2, .ref am), (3, .int 1), (4, .int 0), (5, .int 7), (6, .int 5), (7, .int 21), (8, .int 1), (9, .long 0), (12, .int 0)]) hx hb dL_isRefused_660 hl (by decide) rfl (fun ls hl => ?_)
  refine lv_iinc (v := 1) (lv' := [(12, .int 1), (11, .int 1), (14, .int 0), (13, .int 0), (0, .ref (a 16)), (1, .ref at_), (2, .ref am), (3, .int 1), (4, .int 0), (5, .int 7), (6, .int 5), (7, .int 21), (8, .int 1), (9, .long 0)]) hx hb dL_isRefused_662 hl (k := 13) rfl ((by decide +kernel)) (by decide) rfl (fun ls hl => ?_)
  refine lv_goto (tgt := 504) hx hb dL_isRefused_665 (by decide) ?_
  exact KK _ _ _ _ hP hD hS hG (lv_sub hl [4, 5, 6, 7, 8, 9, 10, 11, 12, 13, 1, 0] rfl)

set_option maxHeartbeats 4000000 in
set_option maxRecDepth 100000 in
theorem rf1_b1 {p : Program} {l : Launch} (hl9 : l.stackTraces = false) {e : Env} {s : State} {m : MethodId} {args : Array Value} {below : List Frame} {meth : Method} {c : Code} {Q : State → Prop} {D : va_G} {cA : ClassId} {a : Nat → Nat} {F : Nat → Nat → Int32} {at_ am ar : Nat} {Y : Nat → Int32} (hz : zs F) {A : Nat → Prop} (hx : p.tables.exec = Jvm.exec) (hb : c.code = cL_isRefused) (hts : ∀ w ∈ wsL_isRefused, w.before args s = true) (hown : s.vm.findClass RL = some m.cls) (hml : c.maxLocals = 15) (hK : KA D cA s) (hA : ∀ q : Nat, s.heap.size ≤ q → A q) (hZ : ZY A s) (KK : ∀ (g : Nat → Int32) (H : Heap) (locs : List Loc) (ls : Array Slot), va_P D vwCl (wK a cA F g am ar Y) H → va_D A (wK a cA F g am ar Y) → va_S A s.heap H locs → s.heap.size + 20 ≤ H.size → lv_has ls 15 [(0, .ref (a 16)), (1, .ref at_), (2, .ref am), (3, .int 1), (4, .int 0), (5, .int 7), (6, .int 5), (7, .int 21), (8, .int 1), (9, .long 0), (11, .int 1), (12, .int 2)] → W p l e rmL_isRefused s m args below meth c H locs 20 120 Q (F0 m 504 ls [])) : ∀ (g : Nat → Int32) (H : Heap) (locs : List Loc) (ls : Array Slot), va_P D vwCl (wK a cA F g am ar Y) H → va_D A (wK a cA F g am ar Y) → va_S A s.heap H locs → s.heap.size + 19 ≤ H.size → lv_has ls 15 [(0, .ref (a 16)), (1, .ref at_), (2, .ref am), (3, .int 1), (4, .int 0), (5, .int 7), (6, .int 5), (7, .int 21), (8, .int 1), (9, .long 0), (11, .int 1), (12, .int 1)] → W p l e rmL_isRefused s m args below meth c H locs 19 114 Q (F0 m 504 ls []) := by
  intro g H locs ls hP hD hS hG hl
  refine lv_iload hx hb dL_isRefused_504 (lv_at hl 11 rfl) ?_
  refine lv_bipush (v := 12) hx hb dL_isRefused_506 (by decide) ?_
  refine lv_icmp_ge (tgt := 668) hx hb dL_isRefused_508 (by decide) (fun c_508 => (absurd c_508 (by decide) : False).elim) (fun c_508 => ?_)
  refine lv_iload hx hb dL_isRefused_511 (lv_at hl 10 rfl) ?_
  refine lv_if_eq (tgt := 668) hx hb dL_isRefused_513 (by decide) (fun c_513 => (absurd c_513 (by decide) : False).elim) (fun c_513 => ?_)
  refine lv_iload hx hb dL_isRefused_516 (lv_at hl 11 rfl) ?_
  refine lv_iconst (v := 1) hx hb dL_isRefused_518 (by decide) ?_
  refine lv_icmp_eq (tgt := 534) hx hb dL_isRefused_519 (by decide) (fun c_519 => ?_) (fun c_519 => (absurd (by decide) c_519 : False).elim)
  refine lv_iconst (v := 1) hx hb dL_isRefused_534 (by decide) ?_
  refine lv_goto (tgt := 539) hx hb dL_isRefused_535 (by decide) ?_
  refine lv_istore (lv' := [(13, .int 1), (0, .ref (a 16)), (1, .ref at_), (2, .ref am), (3, .int 1), (4, .int 0), (5, .int 7), (6, .int 5), (7, .int 21), (8, .int 1), (9, .long 0), (11, .int 1), (12, .int 1)]) hx hb dL_isRefused_539 hl (by decide) rfl (fun ls hl => ?_)
  refine lv_iload hx hb dL_isRefused_541 (lv_at hl 12 rfl) ?_
  refine lv_bipush (v := 8) hx hb dL_isRefused_543 (by decide) ?_
  refine lv_icmp_eq (tgt := 555) hx hb dL_isRefused_545 (by decide) (fun c_545 => (absurd c_545 (by decide) : False).elim) (fun c_545 => ?_)
  refine lv_iload hx hb dL_isRefused_548 (lv_at hl 12 rfl) ?_
  refine lv_bipush (v := 10) hx hb dL_isRefused_550 (by decide) ?_
  refine lv_icmp_ne (tgt := 559) hx hb dL_isRefused_552 (by decide) (fun c_552 => ?_) (fun c_552 => (absurd c_552 (by decide) : False).elim)
  refine lv_iconst (v := 0) hx hb dL_isRefused_559 (by decide) ?_
  refine lv_istore (lv' := [(14, .int 0), (13, .int 1), (0, .ref (a 16)), (1, .ref at_), (2, .ref am), (3, .int 1), (4, .int 0), (5, .int 7), (6, .int 5), (7, .int 21), (8, .int 1), (9, .long 0), (11, .int 1), (12, .int 1)]) hx hb dL_isRefused_560 hl (by decide) rfl (fun ls hl => ?_)
  refine lv_aload_n hx hb dL_isRefused_562 rfl (lv_at hl 2 rfl) ?_
  refine lv_iload hx hb dL_isRefused_563 (lv_at hl 13 rfl) ?_
  refine lv_iload hx hb dL_isRefused_565 (lv_at hl 1 rfl) ?_
  refine lv_if_eq (tgt := 575) hx hb dL_isRefused_567 (by decide) (fun c_567 => (absurd c_567 (by decide) : False).elim) (fun c_567 => ?_)
  refine lv_iload hx hb dL_isRefused_570 (lv_at hl 10 rfl) ?_
  refine lv_goto (tgt := 587) hx hb dL_isRefused_572 (by decide) ?_
  refine lv_iconst (v := 0) hx hb dL_isRefused_587 (by decide) ?_
  refine lv_iconst (v := 0) hx hb dL_isRefused_588 (by decide) ?_
  refine Lq.callH (rest := []) (wr := [(am, .inl (cA, 7, .inl (fun _ => 0))), (ar, .inl (cA, 22, .inl Y))]) [0, 1, 2, 3, 4, 5, 6, 7, 8, 9, 10, 11, 12, 13] [14, 15] ⟨hx, hb, hml, hown, hts⟩ (b_L_of1 l hl9 D cA a F g 0 hz.1 1 0 0 (if_neg (nocI hz _))) (vx_cwSW 5 hts gL_isRefused_L_of rfl rfl rfl (by decide +kernel) ⟨Nat.le_of_ble_eq_true rfl, Nat.le_of_ble_eq_true rfl⟩) hK hP hD hS hA hZ rfl rfl (by decide) (by decide) (by decide) rfl rfl hl.1 (Nat.le_of_ble_eq_true rfl) dL_isRefused_589 ⟨Nat.le_of_ble_eq_true rfl, Nat.le_of_ble_eq_true rfl⟩ (fun r9 u9 H locs hu9 hP hD hS hG9 => ?_)
  have hP : va_P D vwCl (wK a cA F g am ar Y) H := hP.sub [2, 3, 4, 5, 6, 7, 8, 9, 10, 11, 12, 13, 14, 15, 0, 1] rfl
  have hD : va_D A (wK a cA F g am ar Y) := hD.sub [2, 3, 4, 5, 6, 7, 8, 9, 10, 11, 12, 13, 14, 15, 0, 1] (by decide) rfl
  have hG : s.heap.size + 20 ≤ H.size := Nat.le_trans (Nat.add_le_add_right hG 1) hG9
  refine ri_top (-1100000001) hu9 ?_
  refine lv_ldc (own := RL) (index := 17) (v := -1100000001) hx hb hown (hts (.constant RL 17 (-1100000001)) (by decide +kernel)) dL_isRefused_592 ?_
  refine lv_icmp_ne (tgt := 659) hx hb dL_isRefused_594 (by decide) (fun c_594 => (absurd (by decide) c_594 : False).elim) (fun c_594 => ?_)
  refine lv_iload hx hb dL_isRefused_597 (lv_at hl 1 rfl) ?_
  refine lv_if_ne (tgt := 635) hx hb dL_isRefused_599 (by decide) (fun c_599 => ?_) (fun c_599 => (absurd c_599 (by decide) : False).elim)
  refine lv_iload hx hb dL_isRefused_635 (lv_at hl 13 rfl) ?_
  refine lv_iconst (v := 2) hx hb dL_isRefused_637 (by decide) ?_
  refine lv_icmp_ne (tgt := 655) hx hb dL_isRefused_638 (by decide) (fun c_638 => ?_) (fun c_638 => (absurd c_638 (by decide) : False).elim)
  refine lv_iconst (v := 1) hx hb dL_isRefused_655 (by decide) ?_
  refine lv_goto (tgt := 660) hx hb dL_isRefused_656 (by decide) ?_
  refine lv_istore (lv' := [(11, .int 1), (14, .int 0), (13, .int 1), (0, .ref (a 16)), (1, .ref at_), (2, .ref am), (3, .int 1), (4, .int 0), (5, .int 7), (6, .int 5), (7, .int 21), (8, .int 1), (9, .long 0), (12, .int 1)]) hx hb dL_isRefused_660 hl (by decide) rfl (fun ls hl => ?_)
  refine lv_iinc (v := 2) (lv' := [(12, .int 2), (11, .int 1), (14, .int 0), (13, .int 1), (0, .ref (a 16)), (1, .ref at_), (2, .ref am), (3, .int 1), (4, .int 0), (5, .int 7), (6, .int 5), (7, .int 21), (8, .int 1), (9, .long 0)]) hx hb dL_isRefused_662 hl (k := 13) rfl ((by decide +kernel)) (by decide) rfl (fun ls hl => ?_)
  refine lv_goto (tgt := 504) hx hb dL_isRefused_665 (by decide) ?_
  exact KK _ _ _ _ hP hD hS hG (lv_sub hl [4, 5, 6, 7, 8, 9, 10, 11, 12, 13, 1, 0] rfl)

set_option maxHeartbeats 4000000 in
set_option maxRecDepth 100000 in
theorem rf1_b2 {p : Program} {l : Launch} (hl9 : l.stackTraces = false) {e : Env} {s : State} {m : MethodId} {args : Array Value} {below : List Frame} {meth : Method} {c : Code} {Q : State → Prop} {D : va_G} {cA : ClassId} {a : Nat → Nat} {F : Nat → Nat → Int32} {at_ am ar : Nat} {Y : Nat → Int32} (hz : zs F) {A : Nat → Prop} (hx : p.tables.exec = Jvm.exec) (hb : c.code = cL_isRefused) (hts : ∀ w ∈ wsL_isRefused, w.before args s = true) (hown : s.vm.findClass RL = some m.cls) (hml : c.maxLocals = 15) (hK : KA D cA s) (hA : ∀ q : Nat, s.heap.size ≤ q → A q) (hZ : ZY A s) (KK : ∀ (g : Nat → Int32) (H : Heap) (locs : List Loc) (ls : Array Slot), va_P D vwCl (wK a cA F g am ar Y) H → va_D A (wK a cA F g am ar Y) → va_S A s.heap H locs → s.heap.size + 23 ≤ H.size → lv_has ls 15 [(0, .ref (a 16)), (1, .ref at_), (2, .ref am), (3, .int 1), (4, .int 0), (5, .int 7), (6, .int 5), (7, .int 21), (8, .int 1), (9, .long 0), (11, .int 1), (12, .int 3)] → W p l e rmL_isRefused s m args below meth c H locs 23 138 Q (F0 m 504 ls [])) : ∀ (g : Nat → Int32) (H : Heap) (locs : List Loc) (ls : Array Slot), va_P D vwCl (wK a cA F g am ar Y) H → va_D A (wK a cA F g am ar Y) → va_S A s.heap H locs → s.heap.size + 20 ≤ H.size → lv_has ls 15 [(0, .ref (a 16)), (1, .ref at_), (2, .ref am), (3, .int 1), (4, .int 0), (5, .int 7), (6, .int 5), (7, .int 21), (8, .int 1), (9, .long 0), (11, .int 1), (12, .int 2)] → W p l e rmL_isRefused s m args below meth c H locs 20 120 Q (F0 m 504 ls []) := by
  intro g H locs ls hP hD hS hG hl
  refine lv_iload hx hb dL_isRefused_504 (lv_at hl 11 rfl) ?_
  refine lv_bipush (v := 12) hx hb dL_isRefused_506 (by decide) ?_
  refine lv_icmp_ge (tgt := 668) hx hb dL_isRefused_508 (by decide) (fun c_508 => (absurd c_508 (by decide) : False).elim) (fun c_508 => ?_)
  refine lv_iload hx hb dL_isRefused_511 (lv_at hl 10 rfl) ?_
  refine lv_if_eq (tgt := 668) hx hb dL_isRefused_513 (by decide) (fun c_513 => (absurd c_513 (by decide) : False).elim) (fun c_513 => ?_)
  refine lv_iload hx hb dL_isRefused_516 (lv_at hl 11 rfl) ?_
  refine lv_iconst (v := 1) hx hb dL_isRefused_518 (by decide) ?_
  refine lv_icmp_eq (tgt := 534) hx hb dL_isRefused_519 (by decide) (fun c_519 => (absurd c_519 (by decide) : False).elim) (fun c_519 => ?_)
  refine lv_iload hx hb dL_isRefused_522 (lv_at hl 11 rfl) ?_
  refine lv_iconst (v := 3) hx hb dL_isRefused_524 (by decide) ?_
  refine lv_icmp_eq (tgt := 534) hx hb dL_isRefused_525 (by decide) (fun c_525 => (absurd c_525 (by decide) : False).elim) (fun c_525 => ?_)
  refine lv_iload hx hb dL_isRefused_528 (lv_at hl 11 rfl) ?_
  refine lv_iconst (v := 4) hx hb dL_isRefused_530 (by decide) ?_
  refine lv_icmp_ne (tgt := 538) hx hb dL_isRefused_531 (by decide) (fun c_531 => ?_) (fun c_531 => (absurd c_531 (by decide) : False).elim)
  refine lv_iconst (v := 0) hx hb dL_isRefused_538 (by decide) ?_
  refine lv_istore (lv' := [(13, .int 0), (0, .ref (a 16)), (1, .ref at_), (2, .ref am), (3, .int 1), (4, .int 0), (5, .int 7), (6, .int 5), (7, .int 21), (8, .int 1), (9, .long 0), (11, .int 1), (12, .int 2)]) hx hb dL_isRefused_539 hl (by decide) rfl (fun ls hl => ?_)
  refine lv_iload hx hb dL_isRefused_541 (lv_at hl 12 rfl) ?_
  refine lv_bipush (v := 8) hx hb dL_isRefused_543 (by decide) ?_
  refine lv_icmp_eq (tgt := 555) hx hb dL_isRefused_545 (by decide) (fun c_545 => (absurd c_545 (by decide) : False).elim) (fun c_545 => ?_)
  refine lv_iload hx hb dL_isRefused_548 (lv_at hl 12 rfl) ?_
  refine lv_bipush (v := 10) hx hb dL_isRefused_550 (by decide) ?_
  refine lv_icmp_ne (tgt := 559) hx hb dL_isRefused_552 (by decide) (fun c_552 => ?_) (fun c_552 => (absurd c_552 (by decide) : False).elim)
  refine lv_iconst (v := 0) hx hb dL_isRefused_559 (by decide) ?_
  refine lv_istore (lv' := [(14, .int 0), (13, .int 0), (0, .ref (a 16)), (1, .ref at_), (2, .ref am), (3, .int 1), (4, .int 0), (5, .int 7), (6, .int 5), (7, .int 21), (8, .int 1), (9, .long 0), (11, .int 1), (12, .int 2)]) hx hb dL_isRefused_560 hl (by decide) rfl (fun ls hl => ?_)
  refine lv_aload_n hx hb dL_isRefused_562 rfl (lv_at hl 2 rfl) ?_
  refine lv_iload hx hb dL_isRefused_563 (lv_at hl 13 rfl) ?_
  refine lv_iload hx hb dL_isRefused_565 (lv_at hl 1 rfl) ?_
  refine lv_if_eq (tgt := 575) hx hb dL_isRefused_567 (by decide) (fun c_567 => ?_) (fun c_567 => (absurd (by decide) c_567 : False).elim)
  refine lv_iload hx hb dL_isRefused_575 (lv_at hl 0 rfl) ?_
  refine lv_if_eq (tgt := 585) hx hb dL_isRefused_577 (by decide) (fun c_577 => ?_) (fun c_577 => (absurd (by decide) c_577 : False).elim)
  refine lv_iload hx hb dL_isRefused_585 (lv_at hl 7 rfl) ?_
  refine lv_iconst (v := 0) hx hb dL_isRefused_587 (by decide) ?_
  refine lv_iconst (v := 0) hx hb dL_isRefused_588 (by decide) ?_
  refine Lq.callH (rest := []) (wr := [(am, .inl (cA, 7, .inl (fun _ => 0))), (ar, .inl (cA, 22, .inl Y))]) [0, 1, 2, 3, 4, 5, 6, 7, 8, 9, 10, 11, 12, 13] [14, 15] ⟨hx, hb, hml, hown, hts⟩ (b_L_of2 l hl9 D cA a F g 0 hz.1 7 0 0 (if_neg (by decide +kernel))) (vx_cwSW 5 hts gL_isRefused_L_of rfl rfl rfl (by decide +kernel) ⟨Nat.le_of_ble_eq_true rfl, Nat.le_of_ble_eq_true rfl⟩) hK hP hD hS hA hZ rfl rfl (by decide) (by decide) (by decide) rfl rfl hl.1 (Nat.le_of_ble_eq_true rfl) dL_isRefused_589 ⟨Nat.le_of_ble_eq_true rfl, Nat.le_of_ble_eq_true rfl⟩ (fun r9 u9 H locs hu9 hP hD hS hG9 => ?_)
  have hP : va_P D vwCl (wK a cA F g am ar Y) H := hP.sub [2, 3, 4, 5, 6, 7, 8, 9, 10, 11, 12, 13, 14, 15, 0, 1] rfl
  have hD : va_D A (wK a cA F g am ar Y) := hD.sub [2, 3, 4, 5, 6, 7, 8, 9, 10, 11, 12, 13, 14, 15, 0, 1] (by decide) rfl
  have hG : s.heap.size + 21 ≤ H.size := Nat.le_trans (Nat.add_le_add_right hG 1) hG9
  refine ri_top (-1100000001) hu9 ?_
  refine lv_ldc (own := RL) (index := 17) (v := -1100000001) hx hb hown (hts (.constant RL 17 (-1100000001)) (by decide +kernel)) dL_isRefused_592 ?_
  refine lv_icmp_ne (tgt := 659) hx hb dL_isRefused_594 (by decide) (fun c_594 => (absurd (by decide) c_594 : False).elim) (fun c_594 => ?_)
  refine lv_iload hx hb dL_isRefused_597 (lv_at hl 1 rfl) ?_
  refine lv_if_ne (tgt := 635) hx hb dL_isRefused_599 (by decide) (fun c_599 => (absurd (by decide) c_599 : False).elim) (fun c_599 => ?_)
  refine lv_iload hx hb dL_isRefused_602 (lv_at hl 13 rfl) ?_
  refine lv_bipush (v := 11) hx hb dL_isRefused_604 (by decide) ?_
  refine lv_icmp_eq (tgt := 635) hx hb dL_isRefused_606 (by decide) (fun c_606 => (absurd c_606 (by decide) : False).elim) (fun c_606 => ?_)
  refine lv_aload_n hx hb dL_isRefused_609 rfl (lv_at hl 2 rfl) ?_
  refine lv_iload hx hb dL_isRefused_610 (lv_at hl 13 rfl) ?_
  refine lv_iconst (v := 0) hx hb dL_isRefused_612 (by decide) ?_
  refine lv_iload hx hb dL_isRefused_613 (lv_at hl 13 rfl) ?_
  refine lv_iconst (v := 2) hx hb dL_isRefused_615 (by decide) ?_
  refine lv_icmp_ne (tgt := 623) hx hb dL_isRefused_616 (by decide) (fun c_616 => (absurd (by decide) c_616 : False).elim) (fun c_616 => ?_)
  refine lv_iconst (v := 0) hx hb dL_isRefused_619 (by decide) ?_
  refine lv_goto (tgt := 625) hx hb dL_isRefused_620 (by decide) ?_
  refine lv_iload hx hb dL_isRefused_625 (lv_at hl 9 rfl) ?_
  refine Lq.callH (rest := []) (wr := [(am, .inl (cA, 7, .inl (fun _ => 0))), (ar, .inl (cA, 22, .inl Y))]) [0, 1, 2, 3, 4, 5, 6, 7, 8, 9, 10, 11, 12, 13] [14, 15] ⟨hx, hb, hml, hown, hts⟩ (b_L_of2 l hl9 D cA a F g 0 hz.1 0 0 21 ((if_pos (by decide +kernel)).trans ((if_pos (by decide +kernel)).trans (if_neg (by decide +kernel))))) (vx_cwSW 5 hts gL_isRefused_L_of rfl rfl rfl (by decide +kernel) ⟨Nat.le_of_ble_eq_true rfl, Nat.le_of_ble_eq_true rfl⟩) hK hP hD hS hA hZ rfl rfl (by decide) (by decide) (by decide) rfl rfl hl.1 (Nat.le_of_ble_eq_true rfl) dL_isRefused_627 ⟨Nat.le_of_ble_eq_true rfl, Nat.le_of_ble_eq_true rfl⟩ (fun r9 u9 H locs hu9 hP hD hS hG9 => ?_)
  have hP : va_P D vwCl (wK a cA F g am ar Y) H := hP.sub [2, 3, 4, 5, 6, 7, 8, 9, 10, 11, 12, 13, 14, 15, 0, 1] rfl
  have hD : va_D A (wK a cA F g am ar Y) := hD.sub [2, 3, 4, 5, 6, 7, 8, 9, 10, 11, 12, 13, 14, 15, 0, 1] (by decide) rfl
  have hG : s.heap.size + 22 ≤ H.size := Nat.le_trans (Nat.add_le_add_right hG 1) hG9
  refine ri_top (-1100000001) hu9 ?_
  refine lv_ldc (own := RL) (index := 17) (v := -1100000001) hx hb hown (hts (.constant RL 17 (-1100000001)) (by decide +kernel)) dL_isRefused_630 ?_
  refine lv_icmp_ne (tgt := 659) hx hb dL_isRefused_632 (by decide) (fun c_632 => (absurd (by decide) c_632 : False).elim) (fun c_632 => ?_)
  refine lv_iload hx hb dL_isRefused_635 (lv_at hl 13 rfl) ?_
  refine lv_iconst (v := 2) hx hb dL_isRefused_637 (by decide) ?_
  refine lv_icmp_ne (tgt := 655) hx hb dL_isRefused_638 (by decide) (fun c_638 => (absurd (by decide) c_638 : False).elim) (fun c_638 => ?_)
  refine lv_aload_n hx hb dL_isRefused_641 rfl (lv_at hl 2 rfl) ?_
  refine lv_iconst (v := 2) hx hb dL_isRefused_642 (by decide) ?_
  refine lv_iconst (v := 0) hx hb dL_isRefused_643 (by decide) ?_
  refine lv_iload hx hb dL_isRefused_644 (lv_at hl 8 rfl) ?_
  refine lv_iconst (v := 0) hx hb dL_isRefused_646 (by decide) ?_
  refine Lq.callH (rest := []) (wr := [(am, .inl (cA, 7, .inl (fun _ => 0))), (ar, .inl (cA, 22, .inl Y))]) [0, 1, 2, 3, 4, 5, 6, 7, 8, 9, 10, 11, 12, 13] [14, 15] ⟨hx, hb, hml, hown, hts⟩ (b_L_of2 l hl9 D cA a F g 0 hz.1 0 5 0 ((if_pos (by decide +kernel)).trans (if_neg (by decide +kernel)))) (vx_cwSW 5 hts gL_isRefused_L_of rfl rfl rfl (by decide +kernel) ⟨Nat.le_of_ble_eq_true rfl, Nat.le_of_ble_eq_true rfl⟩) hK hP hD hS hA hZ rfl rfl (by decide) (by decide) (by decide) rfl rfl hl.1 (Nat.le_of_ble_eq_true rfl) dL_isRefused_647 ⟨Nat.le_of_ble_eq_true rfl, Nat.le_of_ble_eq_true rfl⟩ (fun r9 u9 H locs hu9 hP hD hS hG9 => ?_)
  have hP : va_P D vwCl (wK a cA F g am ar Y) H := hP.sub [2, 3, 4, 5, 6, 7, 8, 9, 10, 11, 12, 13, 14, 15, 0, 1] rfl
  have hD : va_D A (wK a cA F g am ar Y) := hD.sub [2, 3, 4, 5, 6, 7, 8, 9, 10, 11, 12, 13, 14, 15, 0, 1] (by decide) rfl
  have hG : s.heap.size + 23 ≤ H.size := Nat.le_trans (Nat.add_le_add_right hG 1) hG9
  refine ri_top (-1100000001) hu9 ?_
  refine lv_ldc (own := RL) (index := 17) (v := -1100000001) hx hb hown (hts (.constant RL 17 (-1100000001)) (by decide +kernel)) dL_isRefused_650 ?_
  refine lv_icmp_ne (tgt := 659) hx hb dL_isRefused_652 (by decide) (fun c_652 => (absurd (by decide) c_652 : False).elim) (fun c_652 => ?_)
  refine lv_iconst (v := 1) hx hb dL_isRefused_655 (by decide) ?_
  refine lv_goto (tgt := 660) hx hb dL_isRefused_656 (by decide) ?_
  refine lv_istore (lv' := [(11, .int 1), (14, .int 0), (13, .int 0), (0, .ref (a 16)), (1, .ref at_), (2, .ref am), (3, .int 1), (4, .int 0), (5, .int 7), (6, .int 5), (7, .int 21), (8, .int 1), (9, .long 0), (12, .int 2)]) hx hb dL_isRefused_660 hl (by decide) rfl (fun ls hl => ?_)
  refine lv_iinc (v := 3) (lv' := [(12, .int 3), (11, .int 1), (14, .int 0), (13, .int 0), (0, .ref (a 16)), (1, .ref at_), (2, .ref am), (3, .int 1), (4, .int 0), (5, .int 7), (6, .int 5), (7, .int 21), (8, .int 1), (9, .long 0)]) hx hb dL_isRefused_662 hl (k := 13) rfl ((by decide +kernel)) (by decide) rfl (fun ls hl => ?_)
  refine lv_goto (tgt := 504) hx hb dL_isRefused_665 (by decide) ?_
  exact KK _ _ _ _ hP hD hS hG (lv_sub hl [4, 5, 6, 7, 8, 9, 10, 11, 12, 13, 1, 0] rfl)

set_option maxHeartbeats 4000000 in
set_option maxRecDepth 100000 in
theorem rf1_b3 {p : Program} {l : Launch} (hl9 : l.stackTraces = false) {e : Env} {s : State} {m : MethodId} {args : Array Value} {below : List Frame} {meth : Method} {c : Code} {Q : State → Prop} {D : va_G} {cA : ClassId} {a : Nat → Nat} {F : Nat → Nat → Int32} {at_ am ar : Nat} {Y : Nat → Int32} (hz : zs F) {A : Nat → Prop} (hx : p.tables.exec = Jvm.exec) (hb : c.code = cL_isRefused) (hts : ∀ w ∈ wsL_isRefused, w.before args s = true) (hown : s.vm.findClass RL = some m.cls) (hml : c.maxLocals = 15) (hK : KA D cA s) (hA : ∀ q : Nat, s.heap.size ≤ q → A q) (hZ : ZY A s) (KK : ∀ (g : Nat → Int32) (H : Heap) (locs : List Loc) (ls : Array Slot), va_P D vwCl (wK a cA F g am ar Y) H → va_D A (wK a cA F g am ar Y) → va_S A s.heap H locs → s.heap.size + 24 ≤ H.size → lv_has ls 15 [(0, .ref (a 16)), (1, .ref at_), (2, .ref am), (3, .int 1), (4, .int 0), (5, .int 7), (6, .int 5), (7, .int 21), (8, .int 1), (9, .long 0), (11, .int 1), (12, .int 4)] → W p l e rmL_isRefused s m args below meth c H locs 24 144 Q (F0 m 504 ls [])) : ∀ (g : Nat → Int32) (H : Heap) (locs : List Loc) (ls : Array Slot), va_P D vwCl (wK a cA F g am ar Y) H → va_D A (wK a cA F g am ar Y) → va_S A s.heap H locs → s.heap.size + 23 ≤ H.size → lv_has ls 15 [(0, .ref (a 16)), (1, .ref at_), (2, .ref am), (3, .int 1), (4, .int 0), (5, .int 7), (6, .int 5), (7, .int 21), (8, .int 1), (9, .long 0), (11, .int 1), (12, .int 3)] → W p l e rmL_isRefused s m args below meth c H locs 23 138 Q (F0 m 504 ls []) := by
  intro g H locs ls hP hD hS hG hl
  refine lv_iload hx hb dL_isRefused_504 (lv_at hl 11 rfl) ?_
  refine lv_bipush (v := 12) hx hb dL_isRefused_506 (by decide) ?_
  refine lv_icmp_ge (tgt := 668) hx hb dL_isRefused_508 (by decide) (fun c_508 => (absurd c_508 (by decide) : False).elim) (fun c_508 => ?_)
  refine lv_iload hx hb dL_isRefused_511 (lv_at hl 10 rfl) ?_
  refine lv_if_eq (tgt := 668) hx hb dL_isRefused_513 (by decide) (fun c_513 => (absurd c_513 (by decide) : False).elim) (fun c_513 => ?_)
  refine lv_iload hx hb dL_isRefused_516 (lv_at hl 11 rfl) ?_
  refine lv_iconst (v := 1) hx hb dL_isRefused_518 (by decide) ?_
  refine lv_icmp_eq (tgt := 534) hx hb dL_isRefused_519 (by decide) (fun c_519 => (absurd c_519 (by decide) : False).elim) (fun c_519 => ?_)
  refine lv_iload hx hb dL_isRefused_522 (lv_at hl 11 rfl) ?_
  refine lv_iconst (v := 3) hx hb dL_isRefused_524 (by decide) ?_
  refine lv_icmp_eq (tgt := 534) hx hb dL_isRefused_525 (by decide) (fun c_525 => ?_) (fun c_525 => (absurd (by decide) c_525 : False).elim)
  refine lv_iconst (v := 1) hx hb dL_isRefused_534 (by decide) ?_
  refine lv_goto (tgt := 539) hx hb dL_isRefused_535 (by decide) ?_
  refine lv_istore (lv' := [(13, .int 1), (0, .ref (a 16)), (1, .ref at_), (2, .ref am), (3, .int 1), (4, .int 0), (5, .int 7), (6, .int 5), (7, .int 21), (8, .int 1), (9, .long 0), (11, .int 1), (12, .int 3)]) hx hb dL_isRefused_539 hl (by decide) rfl (fun ls hl => ?_)
  refine lv_iload hx hb dL_isRefused_541 (lv_at hl 12 rfl) ?_
  refine lv_bipush (v := 8) hx hb dL_isRefused_543 (by decide) ?_
  refine lv_icmp_eq (tgt := 555) hx hb dL_isRefused_545 (by decide) (fun c_545 => (absurd c_545 (by decide) : False).elim) (fun c_545 => ?_)
  refine lv_iload hx hb dL_isRefused_548 (lv_at hl 12 rfl) ?_
  refine lv_bipush (v := 10) hx hb dL_isRefused_550 (by decide) ?_
  refine lv_icmp_ne (tgt := 559) hx hb dL_isRefused_552 (by decide) (fun c_552 => ?_) (fun c_552 => (absurd c_552 (by decide) : False).elim)
  refine lv_iconst (v := 0) hx hb dL_isRefused_559 (by decide) ?_
  refine lv_istore (lv' := [(14, .int 0), (13, .int 1), (0, .ref (a 16)), (1, .ref at_), (2, .ref am), (3, .int 1), (4, .int 0), (5, .int 7), (6, .int 5), (7, .int 21), (8, .int 1), (9, .long 0), (11, .int 1), (12, .int 3)]) hx hb dL_isRefused_560 hl (by decide) rfl (fun ls hl => ?_)
  refine lv_aload_n hx hb dL_isRefused_562 rfl (lv_at hl 2 rfl) ?_
  refine lv_iload hx hb dL_isRefused_563 (lv_at hl 13 rfl) ?_
  refine lv_iload hx hb dL_isRefused_565 (lv_at hl 1 rfl) ?_
  refine lv_if_eq (tgt := 575) hx hb dL_isRefused_567 (by decide) (fun c_567 => (absurd c_567 (by decide) : False).elim) (fun c_567 => ?_)
  refine lv_iload hx hb dL_isRefused_570 (lv_at hl 10 rfl) ?_
  refine lv_goto (tgt := 587) hx hb dL_isRefused_572 (by decide) ?_
  refine lv_iconst (v := 0) hx hb dL_isRefused_587 (by decide) ?_
  refine lv_iconst (v := 0) hx hb dL_isRefused_588 (by decide) ?_
  refine Lq.callH (rest := []) (wr := [(am, .inl (cA, 7, .inl (fun _ => 0))), (ar, .inl (cA, 22, .inl Y))]) [0, 1, 2, 3, 4, 5, 6, 7, 8, 9, 10, 11, 12, 13] [14, 15] ⟨hx, hb, hml, hown, hts⟩ (b_L_of3 l hl9 D cA a F g 0 hz.1 1 0 0 (if_neg (nocI hz _))) (vx_cwSW 5 hts gL_isRefused_L_of rfl rfl rfl (by decide +kernel) ⟨Nat.le_of_ble_eq_true rfl, Nat.le_of_ble_eq_true rfl⟩) hK hP hD hS hA hZ rfl rfl (by decide) (by decide) (by decide) rfl rfl hl.1 (Nat.le_of_ble_eq_true rfl) dL_isRefused_589 ⟨Nat.le_of_ble_eq_true rfl, Nat.le_of_ble_eq_true rfl⟩ (fun r9 u9 H locs hu9 hP hD hS hG9 => ?_)
  have hP : va_P D vwCl (wK a cA F g am ar Y) H := hP.sub [2, 3, 4, 5, 6, 7, 8, 9, 10, 11, 12, 13, 14, 15, 0, 1] rfl
  have hD : va_D A (wK a cA F g am ar Y) := hD.sub [2, 3, 4, 5, 6, 7, 8, 9, 10, 11, 12, 13, 14, 15, 0, 1] (by decide) rfl
  have hG : s.heap.size + 24 ≤ H.size := Nat.le_trans (Nat.add_le_add_right hG 1) hG9
  refine ri_top (-1100000001) hu9 ?_
  refine lv_ldc (own := RL) (index := 17) (v := -1100000001) hx hb hown (hts (.constant RL 17 (-1100000001)) (by decide +kernel)) dL_isRefused_592 ?_
  refine lv_icmp_ne (tgt := 659) hx hb dL_isRefused_594 (by decide) (fun c_594 => (absurd (by decide) c_594 : False).elim) (fun c_594 => ?_)
  refine lv_iload hx hb dL_isRefused_597 (lv_at hl 1 rfl) ?_
  refine lv_if_ne (tgt := 635) hx hb dL_isRefused_599 (by decide) (fun c_599 => ?_) (fun c_599 => (absurd c_599 (by decide) : False).elim)
  refine lv_iload hx hb dL_isRefused_635 (lv_at hl 13 rfl) ?_
  refine lv_iconst (v := 2) hx hb dL_isRefused_637 (by decide) ?_
  refine lv_icmp_ne (tgt := 655) hx hb dL_isRefused_638 (by decide) (fun c_638 => ?_) (fun c_638 => (absurd c_638 (by decide) : False).elim)
  refine lv_iconst (v := 1) hx hb dL_isRefused_655 (by decide) ?_
  refine lv_goto (tgt := 660) hx hb dL_isRefused_656 (by decide) ?_
  refine lv_istore (lv' := [(11, .int 1), (14, .int 0), (13, .int 1), (0, .ref (a 16)), (1, .ref at_), (2, .ref am), (3, .int 1), (4, .int 0), (5, .int 7), (6, .int 5), (7, .int 21), (8, .int 1), (9, .long 0), (12, .int 3)]) hx hb dL_isRefused_660 hl (by decide) rfl (fun ls hl => ?_)
  refine lv_iinc (v := 4) (lv' := [(12, .int 4), (11, .int 1), (14, .int 0), (13, .int 1), (0, .ref (a 16)), (1, .ref at_), (2, .ref am), (3, .int 1), (4, .int 0), (5, .int 7), (6, .int 5), (7, .int 21), (8, .int 1), (9, .long 0)]) hx hb dL_isRefused_662 hl (k := 13) rfl ((by decide +kernel)) (by decide) rfl (fun ls hl => ?_)
  refine lv_goto (tgt := 504) hx hb dL_isRefused_665 (by decide) ?_
  exact KK _ _ _ _ hP hD hS hG (lv_sub hl [4, 5, 6, 7, 8, 9, 10, 11, 12, 13, 1, 0] rfl)

set_option maxHeartbeats 4000000 in
set_option maxRecDepth 100000 in
theorem rf1_b4 {p : Program} {l : Launch} (hl9 : l.stackTraces = false) {e : Env} {s : State} {m : MethodId} {args : Array Value} {below : List Frame} {meth : Method} {c : Code} {Q : State → Prop} {D : va_G} {cA : ClassId} {a : Nat → Nat} {F : Nat → Nat → Int32} {at_ am ar : Nat} {Y : Nat → Int32} (hz : zs F) {A : Nat → Prop} (hx : p.tables.exec = Jvm.exec) (hb : c.code = cL_isRefused) (hts : ∀ w ∈ wsL_isRefused, w.before args s = true) (hown : s.vm.findClass RL = some m.cls) (hml : c.maxLocals = 15) (hK : KA D cA s) (hA : ∀ q : Nat, s.heap.size ≤ q → A q) (hZ : ZY A s) (KK : ∀ (g : Nat → Int32) (H : Heap) (locs : List Loc) (ls : Array Slot), va_P D vwCl (wK a cA F g am ar Y) H → va_D A (wK a cA F g am ar Y) → va_S A s.heap H locs → s.heap.size + 25 ≤ H.size → lv_has ls 15 [(0, .ref (a 16)), (1, .ref at_), (2, .ref am), (3, .int 1), (4, .int 0), (5, .int 7), (6, .int 5), (7, .int 21), (8, .int 1), (9, .long 0), (11, .int 1), (12, .int 5)] → W p l e rmL_isRefused s m args below meth c H locs 25 150 Q (F0 m 504 ls [])) : ∀ (g : Nat → Int32) (H : Heap) (locs : List Loc) (ls : Array Slot), va_P D vwCl (wK a cA F g am ar Y) H → va_D A (wK a cA F g am ar Y) → va_S A s.heap H locs → s.heap.size + 24 ≤ H.size → lv_has ls 15 [(0, .ref (a 16)), (1, .ref at_), (2, .ref am), (3, .int 1), (4, .int 0), (5, .int 7), (6, .int 5), (7, .int 21), (8, .int 1), (9, .long 0), (11, .int 1), (12, .int 4)] → W p l e rmL_isRefused s m args below meth c H locs 24 144 Q (F0 m 504 ls []) := by
  intro g H locs ls hP hD hS hG hl
  refine lv_iload hx hb dL_isRefused_504 (lv_at hl 11 rfl) ?_
  refine lv_bipush (v := 12) hx hb dL_isRefused_506 (by decide) ?_
  refine lv_icmp_ge (tgt := 668) hx hb dL_isRefused_508 (by decide) (fun c_508 => (absurd c_508 (by decide) : False).elim) (fun c_508 => ?_)
  refine lv_iload hx hb dL_isRefused_511 (lv_at hl 10 rfl) ?_
  refine lv_if_eq (tgt := 668) hx hb dL_isRefused_513 (by decide) (fun c_513 => (absurd c_513 (by decide) : False).elim) (fun c_513 => ?_)
  refine lv_iload hx hb dL_isRefused_516 (lv_at hl 11 rfl) ?_
  refine lv_iconst (v := 1) hx hb dL_isRefused_518 (by decide) ?_
  refine lv_icmp_eq (tgt := 534) hx hb dL_isRefused_519 (by decide) (fun c_519 => (absurd c_519 (by decide) : False).elim) (fun c_519 => ?_)
  refine lv_iload hx hb dL_isRefused_522 (lv_at hl 11 rfl) ?_
  refine lv_iconst (v := 3) hx hb dL_isRefused_524 (by decide) ?_
  refine lv_icmp_eq (tgt := 534) hx hb dL_isRefused_525 (by decide) (fun c_525 => (absurd c_525 (by decide) : False).elim) (fun c_525 => ?_)
  refine lv_iload hx hb dL_isRefused_528 (lv_at hl 11 rfl) ?_
  refine lv_iconst (v := 4) hx hb dL_isRefused_530 (by decide) ?_
  refine lv_icmp_ne (tgt := 538) hx hb dL_isRefused_531 (by decide) (fun c_531 => (absurd (by decide) c_531 : False).elim) (fun c_531 => ?_)
  refine lv_iconst (v := 1) hx hb dL_isRefused_534 (by decide) ?_
  refine lv_goto (tgt := 539) hx hb dL_isRefused_535 (by decide) ?_
  refine lv_istore (lv' := [(13, .int 1), (0, .ref (a 16)), (1, .ref at_), (2, .ref am), (3, .int 1), (4, .int 0), (5, .int 7), (6, .int 5), (7, .int 21), (8, .int 1), (9, .long 0), (11, .int 1), (12, .int 4)]) hx hb dL_isRefused_539 hl (by decide) rfl (fun ls hl => ?_)
  refine lv_iload hx hb dL_isRefused_541 (lv_at hl 12 rfl) ?_
  refine lv_bipush (v := 8) hx hb dL_isRefused_543 (by decide) ?_
  refine lv_icmp_eq (tgt := 555) hx hb dL_isRefused_545 (by decide) (fun c_545 => (absurd c_545 (by decide) : False).elim) (fun c_545 => ?_)
  refine lv_iload hx hb dL_isRefused_548 (lv_at hl 12 rfl) ?_
  refine lv_bipush (v := 10) hx hb dL_isRefused_550 (by decide) ?_
  refine lv_icmp_ne (tgt := 559) hx hb dL_isRefused_552 (by decide) (fun c_552 => ?_) (fun c_552 => (absurd c_552 (by decide) : False).elim)
  refine lv_iconst (v := 0) hx hb dL_isRefused_559 (by decide) ?_
  refine lv_istore (lv' := [(14, .int 0), (13, .int 1), (0, .ref (a 16)), (1, .ref at_), (2, .ref am), (3, .int 1), (4, .int 0), (5, .int 7), (6, .int 5), (7, .int 21), (8, .int 1), (9, .long 0), (11, .int 1), (12, .int 4)]) hx hb dL_isRefused_560 hl (by decide) rfl (fun ls hl => ?_)
  refine lv_aload_n hx hb dL_isRefused_562 rfl (lv_at hl 2 rfl) ?_
  refine lv_iload hx hb dL_isRefused_563 (lv_at hl 13 rfl) ?_
  refine lv_iload hx hb dL_isRefused_565 (lv_at hl 1 rfl) ?_
  refine lv_if_eq (tgt := 575) hx hb dL_isRefused_567 (by decide) (fun c_567 => (absurd c_567 (by decide) : False).elim) (fun c_567 => ?_)
  refine lv_iload hx hb dL_isRefused_570 (lv_at hl 10 rfl) ?_
  refine lv_goto (tgt := 587) hx hb dL_isRefused_572 (by decide) ?_
  refine lv_iconst (v := 0) hx hb dL_isRefused_587 (by decide) ?_
  refine lv_iconst (v := 0) hx hb dL_isRefused_588 (by decide) ?_
  refine Lq.callH (rest := []) (wr := [(am, .inl (cA, 7, .inl (fun _ => 0))), (ar, .inl (cA, 22, .inl Y))]) [0, 1, 2, 3, 4, 5, 6, 7, 8, 9, 10, 11, 12, 13] [14, 15] ⟨hx, hb, hml, hown, hts⟩ (b_L_of4 l hl9 D cA a F g 0 hz.1 1 0 0 (if_neg (nocI hz _))) (vx_cwSW 5 hts gL_isRefused_L_of rfl rfl rfl (by decide +kernel) ⟨Nat.le_of_ble_eq_true rfl, Nat.le_of_ble_eq_true rfl⟩) hK hP hD hS hA hZ rfl rfl (by decide) (by decide) (by decide) rfl rfl hl.1 (Nat.le_of_ble_eq_true rfl) dL_isRefused_589 ⟨Nat.le_of_ble_eq_true rfl, Nat.le_of_ble_eq_true rfl⟩ (fun r9 u9 H locs hu9 hP hD hS hG9 => ?_)
  have hP : va_P D vwCl (wK a cA F g am ar Y) H := hP.sub [2, 3, 4, 5, 6, 7, 8, 9, 10, 11, 12, 13, 14, 15, 0, 1] rfl
  have hD : va_D A (wK a cA F g am ar Y) := hD.sub [2, 3, 4, 5, 6, 7, 8, 9, 10, 11, 12, 13, 14, 15, 0, 1] (by decide) rfl
  have hG : s.heap.size + 25 ≤ H.size := Nat.le_trans (Nat.add_le_add_right hG 1) hG9
  refine ri_top (-1100000001) hu9 ?_
  refine lv_ldc (own := RL) (index := 17) (v := -1100000001) hx hb hown (hts (.constant RL 17 (-1100000001)) (by decide +kernel)) dL_isRefused_592 ?_
  refine lv_icmp_ne (tgt := 659) hx hb dL_isRefused_594 (by decide) (fun c_594 => (absurd (by decide) c_594 : False).elim) (fun c_594 => ?_)
  refine lv_iload hx hb dL_isRefused_597 (lv_at hl 1 rfl) ?_
  refine lv_if_ne (tgt := 635) hx hb dL_isRefused_599 (by decide) (fun c_599 => ?_) (fun c_599 => (absurd c_599 (by decide) : False).elim)
  refine lv_iload hx hb dL_isRefused_635 (lv_at hl 13 rfl) ?_
  refine lv_iconst (v := 2) hx hb dL_isRefused_637 (by decide) ?_
  refine lv_icmp_ne (tgt := 655) hx hb dL_isRefused_638 (by decide) (fun c_638 => ?_) (fun c_638 => (absurd c_638 (by decide) : False).elim)
  refine lv_iconst (v := 1) hx hb dL_isRefused_655 (by decide) ?_
  refine lv_goto (tgt := 660) hx hb dL_isRefused_656 (by decide) ?_
  refine lv_istore (lv' := [(11, .int 1), (14, .int 0), (13, .int 1), (0, .ref (a 16)), (1, .ref at_), (2, .ref am), (3, .int 1), (4, .int 0), (5, .int 7), (6, .int 5), (7, .int 21), (8, .int 1), (9, .long 0), (12, .int 4)]) hx hb dL_isRefused_660 hl (by decide) rfl (fun ls hl => ?_)
  refine lv_iinc (v := 5) (lv' := [(12, .int 5), (11, .int 1), (14, .int 0), (13, .int 1), (0, .ref (a 16)), (1, .ref at_), (2, .ref am), (3, .int 1), (4, .int 0), (5, .int 7), (6, .int 5), (7, .int 21), (8, .int 1), (9, .long 0)]) hx hb dL_isRefused_662 hl (k := 13) rfl ((by decide +kernel)) (by decide) rfl (fun ls hl => ?_)
  refine lv_goto (tgt := 504) hx hb dL_isRefused_665 (by decide) ?_
  exact KK _ _ _ _ hP hD hS hG (lv_sub hl [4, 5, 6, 7, 8, 9, 10, 11, 12, 13, 1, 0] rfl)

set_option maxHeartbeats 4000000 in
set_option maxRecDepth 100000 in
theorem rf1_b5 {p : Program} {l : Launch} (hl9 : l.stackTraces = false) {e : Env} {s : State} {m : MethodId} {args : Array Value} {below : List Frame} {meth : Method} {c : Code} {Q : State → Prop} {D : va_G} {cA : ClassId} {a : Nat → Nat} {F : Nat → Nat → Int32} {at_ am ar : Nat} {Y : Nat → Int32} (hz : zs F) {A : Nat → Prop} (hx : p.tables.exec = Jvm.exec) (hb : c.code = cL_isRefused) (hts : ∀ w ∈ wsL_isRefused, w.before args s = true) (hown : s.vm.findClass RL = some m.cls) (hml : c.maxLocals = 15) (hK : KA D cA s) (hA : ∀ q : Nat, s.heap.size ≤ q → A q) (hZ : ZY A s) (KK : ∀ (g : Nat → Int32) (H : Heap) (locs : List Loc) (ls : Array Slot), va_P D vwCl (wK a cA F g am ar Y) H → va_D A (wK a cA F g am ar Y) → va_S A s.heap H locs → s.heap.size + 27 ≤ H.size → lv_has ls 15 [(0, .ref (a 16)), (1, .ref at_), (2, .ref am), (3, .int 1), (4, .int 0), (5, .int 7), (6, .int 5), (7, .int 21), (8, .int 1), (9, .long 0), (11, .int 1), (12, .int 6)] → W p l e rmL_isRefused s m args below meth c H locs 27 162 Q (F0 m 504 ls [])) : ∀ (g : Nat → Int32) (H : Heap) (locs : List Loc) (ls : Array Slot), va_P D vwCl (wK a cA F g am ar Y) H → va_D A (wK a cA F g am ar Y) → va_S A s.heap H locs → s.heap.size + 25 ≤ H.size → lv_has ls 15 [(0, .ref (a 16)), (1, .ref at_), (2, .ref am), (3, .int 1), (4, .int 0), (5, .int 7), (6, .int 5), (7, .int 21), (8, .int 1), (9, .long 0), (11, .int 1), (12, .int 5)] → W p l e rmL_isRefused s m args below meth c H locs 25 150 Q (F0 m 504 ls []) := by
  intro g H locs ls hP hD hS hG hl
  refine lv_iload hx hb dL_isRefused_504 (lv_at hl 11 rfl) ?_
  refine lv_bipush (v := 12) hx hb dL_isRefused_506 (by decide) ?_
  refine lv_icmp_ge (tgt := 668) hx hb dL_isRefused_508 (by decide) (fun c_508 => (absurd c_508 (by decide) : False).elim) (fun c_508 => ?_)
  refine lv_iload hx hb dL_isRefused_511 (lv_at hl 10 rfl) ?_
  refine lv_if_eq (tgt := 668) hx hb dL_isRefused_513 (by decide) (fun c_513 => (absurd c_513 (by decide) : False).elim) (fun c_513 => ?_)
  refine lv_iload hx hb dL_isRefused_516 (lv_at hl 11 rfl) ?_
  refine lv_iconst (v := 1) hx hb dL_isRefused_518 (by decide) ?_
  refine lv_icmp_eq (tgt := 534) hx hb dL_isRefused_519 (by decide) (fun c_519 => (absurd c_519 (by decide) : False).elim) (fun c_519 => ?_)
  refine lv_iload hx hb dL_isRefused_522 (lv_at hl 11 rfl) ?_
  refine lv_iconst (v := 3) hx hb dL_isRefused_524 (by decide) ?_
  refine lv_icmp_eq (tgt := 534) hx hb dL_isRefused_525 (by decide) (fun c_525 => (absurd c_525 (by decide) : False).elim) (fun c_525 => ?_)
  refine lv_iload hx hb dL_isRefused_528 (lv_at hl 11 rfl) ?_
  refine lv_iconst (v := 4) hx hb dL_isRefused_530 (by decide) ?_
  refine lv_icmp_ne (tgt := 538) hx hb dL_isRefused_531 (by decide) (fun c_531 => ?_) (fun c_531 => (absurd c_531 (by decide) : False).elim)
  refine lv_iconst (v := 0) hx hb dL_isRefused_538 (by decide) ?_
  refine lv_istore (lv' := [(13, .int 0), (0, .ref (a 16)), (1, .ref at_), (2, .ref am), (3, .int 1), (4, .int 0), (5, .int 7), (6, .int 5), (7, .int 21), (8, .int 1), (9, .long 0), (11, .int 1), (12, .int 5)]) hx hb dL_isRefused_539 hl (by decide) rfl (fun ls hl => ?_)
  refine lv_iload hx hb dL_isRefused_541 (lv_at hl 12 rfl) ?_
  refine lv_bipush (v := 8) hx hb dL_isRefused_543 (by decide) ?_
  refine lv_icmp_eq (tgt := 555) hx hb dL_isRefused_545 (by decide) (fun c_545 => (absurd c_545 (by decide) : False).elim) (fun c_545 => ?_)
  refine lv_iload hx hb dL_isRefused_548 (lv_at hl 12 rfl) ?_
  refine lv_bipush (v := 10) hx hb dL_isRefused_550 (by decide) ?_
  refine lv_icmp_ne (tgt := 559) hx hb dL_isRefused_552 (by decide) (fun c_552 => ?_) (fun c_552 => (absurd c_552 (by decide) : False).elim)
  refine lv_iconst (v := 0) hx hb dL_isRefused_559 (by decide) ?_
  refine lv_istore (lv' := [(14, .int 0), (13, .int 0), (0, .ref (a 16)), (1, .ref at_), (2, .ref am), (3, .int 1), (4, .int 0), (5, .int 7), (6, .int 5), (7, .int 21), (8, .int 1), (9, .long 0), (11, .int 1), (12, .int 5)]) hx hb dL_isRefused_560 hl (by decide) rfl (fun ls hl => ?_)
  refine lv_aload_n hx hb dL_isRefused_562 rfl (lv_at hl 2 rfl) ?_
  refine lv_iload hx hb dL_isRefused_563 (lv_at hl 13 rfl) ?_
  refine lv_iload hx hb dL_isRefused_565 (lv_at hl 1 rfl) ?_
  refine lv_if_eq (tgt := 575) hx hb dL_isRefused_567 (by decide) (fun c_567 => ?_) (fun c_567 => (absurd (by decide) c_567 : False).elim)
  refine lv_iload hx hb dL_isRefused_575 (lv_at hl 0 rfl) ?_
  refine lv_if_eq (tgt := 585) hx hb dL_isRefused_577 (by decide) (fun c_577 => ?_) (fun c_577 => (absurd (by decide) c_577 : False).elim)
  refine lv_iload hx hb dL_isRefused_585 (lv_at hl 7 rfl) ?_
  refine lv_iconst (v := 0) hx hb dL_isRefused_587 (by decide) ?_
  refine lv_iconst (v := 0) hx hb dL_isRefused_588 (by decide) ?_
  refine Lq.callH (rest := []) (wr := [(am, .inl (cA, 7, .inl (fun _ => 0))), (ar, .inl (cA, 22, .inl Y))]) [0, 1, 2, 3, 4, 5, 6, 7, 8, 9, 10, 11, 12, 13] [14, 15] ⟨hx, hb, hml, hown, hts⟩ (b_L_of5 l hl9 D cA a F g 0 hz.1 7 0 0 (if_neg (by decide +kernel))) (vx_cwSW 5 hts gL_isRefused_L_of rfl rfl rfl (by decide +kernel) ⟨Nat.le_of_ble_eq_true rfl, Nat.le_of_ble_eq_true rfl⟩) hK hP hD hS hA hZ rfl rfl (by decide) (by decide) (by decide) rfl rfl hl.1 (Nat.le_of_ble_eq_true rfl) dL_isRefused_589 ⟨Nat.le_of_ble_eq_true rfl, Nat.le_of_ble_eq_true rfl⟩ (fun r9 u9 H locs hu9 hP hD hS hG9 => ?_)
  have hP : va_P D vwCl (wK a cA F g am ar Y) H := hP.sub [2, 3, 4, 5, 6, 7, 8, 9, 10, 11, 12, 13, 14, 15, 0, 1] rfl
  have hD : va_D A (wK a cA F g am ar Y) := hD.sub [2, 3, 4, 5, 6, 7, 8, 9, 10, 11, 12, 13, 14, 15, 0, 1] (by decide) rfl
  have hG : s.heap.size + 26 ≤ H.size := Nat.le_trans (Nat.add_le_add_right hG 1) hG9
  refine ri_top (-1100000001) hu9 ?_
  refine lv_ldc (own := RL) (index := 17) (v := -1100000001) hx hb hown (hts (.constant RL 17 (-1100000001)) (by decide +kernel)) dL_isRefused_592 ?_
  refine lv_icmp_ne (tgt := 659) hx hb dL_isRefused_594 (by decide) (fun c_594 => (absurd (by decide) c_594 : False).elim) (fun c_594 => ?_)
  refine lv_iload hx hb dL_isRefused_597 (lv_at hl 1 rfl) ?_
  refine lv_if_ne (tgt := 635) hx hb dL_isRefused_599 (by decide) (fun c_599 => (absurd (by decide) c_599 : False).elim) (fun c_599 => ?_)
  refine lv_iload hx hb dL_isRefused_602 (lv_at hl 13 rfl) ?_
  refine lv_bipush (v := 11) hx hb dL_isRefused_604 (by decide) ?_
  refine lv_icmp_eq (tgt := 635) hx hb dL_isRefused_606 (by decide) (fun c_606 => (absurd c_606 (by decide) : False).elim) (fun c_606 => ?_)
  refine lv_aload_n hx hb dL_isRefused_609 rfl (lv_at hl 2 rfl) ?_
  refine lv_iload hx hb dL_isRefused_610 (lv_at hl 13 rfl) ?_
  refine lv_iconst (v := 0) hx hb dL_isRefused_612 (by decide) ?_
  refine lv_iload hx hb dL_isRefused_613 (lv_at hl 13 rfl) ?_
  refine lv_iconst (v := 2) hx hb dL_isRefused_615 (by decide) ?_
  refine lv_icmp_ne (tgt := 623) hx hb dL_isRefused_616 (by decide) (fun c_616 => ?_) (fun c_616 => (absurd c_616 (by decide) : False).elim)
  refine lv_iload hx hb dL_isRefused_623 (lv_at hl 9 rfl) ?_
  refine lv_iload hx hb dL_isRefused_625 (lv_at hl 9 rfl) ?_
  refine Lq.callH (rest := []) (wr := [(am, .inl (cA, 7, .inl (fun _ => 0))), (ar, .inl (cA, 22, .inl Y))]) [0, 1, 2, 3, 4, 5, 6, 7, 8, 9, 10, 11, 12, 13] [14, 15] ⟨hx, hb, hml, hown, hts⟩ (b_L_of5 l hl9 D cA a F g 0 hz.1 0 21 21 ((if_pos (by decide +kernel)).trans (if_neg (by decide +kernel)))) (vx_cwSW 5 hts gL_isRefused_L_of rfl rfl rfl (by decide +kernel) ⟨Nat.le_of_ble_eq_true rfl, Nat.le_of_ble_eq_true rfl⟩) hK hP hD hS hA hZ rfl rfl (by decide) (by decide) (by decide) rfl rfl hl.1 (Nat.le_of_ble_eq_true rfl) dL_isRefused_627 ⟨Nat.le_of_ble_eq_true rfl, Nat.le_of_ble_eq_true rfl⟩ (fun r9 u9 H locs hu9 hP hD hS hG9 => ?_)
  have hP : va_P D vwCl (wK a cA F g am ar Y) H := hP.sub [2, 3, 4, 5, 6, 7, 8, 9, 10, 11, 12, 13, 14, 15, 0, 1] rfl
  have hD : va_D A (wK a cA F g am ar Y) := hD.sub [2, 3, 4, 5, 6, 7, 8, 9, 10, 11, 12, 13, 14, 15, 0, 1] (by decide) rfl
  have hG : s.heap.size + 27 ≤ H.size := Nat.le_trans (Nat.add_le_add_right hG 1) hG9
  refine ri_top (-1100000001) hu9 ?_
  refine lv_ldc (own := RL) (index := 17) (v := -1100000001) hx hb hown (hts (.constant RL 17 (-1100000001)) (by decide +kernel)) dL_isRefused_630 ?_
  refine lv_icmp_ne (tgt := 659) hx hb dL_isRefused_632 (by decide) (fun c_632 => (absurd (by decide) c_632 : False).elim) (fun c_632 => ?_)
  refine lv_iload hx hb dL_isRefused_635 (lv_at hl 13 rfl) ?_
  refine lv_iconst (v := 2) hx hb dL_isRefused_637 (by decide) ?_
  refine lv_icmp_ne (tgt := 655) hx hb dL_isRefused_638 (by decide) (fun c_638 => ?_) (fun c_638 => (absurd c_638 (by decide) : False).elim)
  refine lv_iconst (v := 1) hx hb dL_isRefused_655 (by decide) ?_
  refine lv_goto (tgt := 660) hx hb dL_isRefused_656 (by decide) ?_
  refine lv_istore (lv' := [(11, .int 1), (14, .int 0), (13, .int 0), (0, .ref (a 16)), (1, .ref at_), (2, .ref am), (3, .int 1), (4, .int 0), (5, .int 7), (6, .int 5), (7, .int 21), (8, .int 1), (9, .long 0), (12, .int 5)]) hx hb dL_isRefused_660 hl (by decide) rfl (fun ls hl => ?_)
  refine lv_iinc (v := 6) (lv' := [(12, .int 6), (11, .int 1), (14, .int 0), (13, .int 0), (0, .ref (a 16)), (1, .ref at_), (2, .ref am), (3, .int 1), (4, .int 0), (5, .int 7), (6, .int 5), (7, .int 21), (8, .int 1), (9, .long 0)]) hx hb dL_isRefused_662 hl (k := 13) rfl ((by decide +kernel)) (by decide) rfl (fun ls hl => ?_)
  refine lv_goto (tgt := 504) hx hb dL_isRefused_665 (by decide) ?_
  exact KK _ _ _ _ hP hD hS hG (lv_sub hl [4, 5, 6, 7, 8, 9, 10, 11, 12, 13, 1, 0] rfl)

set_option maxHeartbeats 4000000 in
set_option maxRecDepth 100000 in
theorem rf1_b6 {p : Program} {l : Launch} (hl9 : l.stackTraces = false) {e : Env} {s : State} {m : MethodId} {args : Array Value} {below : List Frame} {meth : Method} {c : Code} {Q : State → Prop} {D : va_G} {cA : ClassId} {a : Nat → Nat} {F : Nat → Nat → Int32} {at_ am ar : Nat} {Y : Nat → Int32} (hz : zs F) {A : Nat → Prop} (hx : p.tables.exec = Jvm.exec) (hb : c.code = cL_isRefused) (hts : ∀ w ∈ wsL_isRefused, w.before args s = true) (hown : s.vm.findClass RL = some m.cls) (hml : c.maxLocals = 15) (hK : KA D cA s) (hA : ∀ q : Nat, s.heap.size ≤ q → A q) (hZ : ZY A s) (KK : ∀ (g : Nat → Int32) (H : Heap) (locs : List Loc) (ls : Array Slot), va_P D vwCl (wK a cA F g am ar Y) H → va_D A (wK a cA F g am ar Y) → va_S A s.heap H locs → s.heap.size + 29 ≤ H.size → lv_has ls 15 [(0, .ref (a 16)), (1, .ref at_), (2, .ref am), (3, .int 1), (4, .int 0), (5, .int 7), (6, .int 5), (7, .int 21), (8, .int 1), (9, .long 0), (11, .int 1), (12, .int 7)] → W p l e rmL_isRefused s m args below meth c H locs 29 174 Q (F0 m 504 ls [])) : ∀ (g : Nat → Int32) (H : Heap) (locs : List Loc) (ls : Array Slot), va_P D vwCl (wK a cA F g am ar Y) H → va_D A (wK a cA F g am ar Y) → va_S A s.heap H locs → s.heap.size + 27 ≤ H.size → lv_has ls 15 [(0, .ref (a 16)), (1, .ref at_), (2, .ref am), (3, .int 1), (4, .int 0), (5, .int 7), (6, .int 5), (7, .int 21), (8, .int 1), (9, .long 0), (11, .int 1), (12, .int 6)] → W p l e rmL_isRefused s m args below meth c H locs 27 162 Q (F0 m 504 ls []) := by
  intro g H locs ls hP hD hS hG hl
  refine lv_iload hx hb dL_isRefused_504 (lv_at hl 11 rfl) ?_
  refine lv_bipush (v := 12) hx hb dL_isRefused_506 (by decide) ?_
  refine lv_icmp_ge (tgt := 668) hx hb dL_isRefused_508 (by decide) (fun c_508 => (absurd c_508 (by decide) : False).elim) (fun c_508 => ?_)
  refine lv_iload hx hb dL_isRefused_511 (lv_at hl 10 rfl) ?_
  refine lv_if_eq (tgt := 668) hx hb dL_isRefused_513 (by decide) (fun c_513 => (absurd c_513 (by decide) : False).elim) (fun c_513 => ?_)
  refine lv_iload hx hb dL_isRefused_516 (lv_at hl 11 rfl) ?_
  refine lv_iconst (v := 1) hx hb dL_isRefused_518 (by decide) ?_
  refine lv_icmp_eq (tgt := 534) hx hb dL_isRefused_519 (by decide) (fun c_519 => (absurd c_519 (by decide) : False).elim) (fun c_519 => ?_)
  refine lv_iload hx hb dL_isRefused_522 (lv_at hl 11 rfl) ?_
  refine lv_iconst (v := 3) hx hb dL_isRefused_524 (by decide) ?_
  refine lv_icmp_eq (tgt := 534) hx hb dL_isRefused_525 (by decide) (fun c_525 => (absurd c_525 (by decide) : False).elim) (fun c_525 => ?_)
  refine lv_iload hx hb dL_isRefused_528 (lv_at hl 11 rfl) ?_
  refine lv_iconst (v := 4) hx hb dL_isRefused_530 (by decide) ?_
  refine lv_icmp_ne (tgt := 538) hx hb dL_isRefused_531 (by decide) (fun c_531 => ?_) (fun c_531 => (absurd c_531 (by decide) : False).elim)
  refine lv_iconst (v := 0) hx hb dL_isRefused_538 (by decide) ?_
  refine lv_istore (lv' := [(13, .int 0), (0, .ref (a 16)), (1, .ref at_), (2, .ref am), (3, .int 1), (4, .int 0), (5, .int 7), (6, .int 5), (7, .int 21), (8, .int 1), (9, .long 0), (11, .int 1), (12, .int 6)]) hx hb dL_isRefused_539 hl (by decide) rfl (fun ls hl => ?_)
  refine lv_iload hx hb dL_isRefused_541 (lv_at hl 12 rfl) ?_
  refine lv_bipush (v := 8) hx hb dL_isRefused_543 (by decide) ?_
  refine lv_icmp_eq (tgt := 555) hx hb dL_isRefused_545 (by decide) (fun c_545 => (absurd c_545 (by decide) : False).elim) (fun c_545 => ?_)
  refine lv_iload hx hb dL_isRefused_548 (lv_at hl 12 rfl) ?_
  refine lv_bipush (v := 10) hx hb dL_isRefused_550 (by decide) ?_
  refine lv_icmp_ne (tgt := 559) hx hb dL_isRefused_552 (by decide) (fun c_552 => ?_) (fun c_552 => (absurd c_552 (by decide) : False).elim)
  refine lv_iconst (v := 0) hx hb dL_isRefused_559 (by decide) ?_
  refine lv_istore (lv' := [(14, .int 0), (13, .int 0), (0, .ref (a 16)), (1, .ref at_), (2, .ref am), (3, .int 1), (4, .int 0), (5, .int 7), (6, .int 5), (7, .int 21), (8, .int 1), (9, .long 0), (11, .int 1), (12, .int 6)]) hx hb dL_isRefused_560 hl (by decide) rfl (fun ls hl => ?_)
  refine lv_aload_n hx hb dL_isRefused_562 rfl (lv_at hl 2 rfl) ?_
  refine lv_iload hx hb dL_isRefused_563 (lv_at hl 13 rfl) ?_
  refine lv_iload hx hb dL_isRefused_565 (lv_at hl 1 rfl) ?_
  refine lv_if_eq (tgt := 575) hx hb dL_isRefused_567 (by decide) (fun c_567 => ?_) (fun c_567 => (absurd (by decide) c_567 : False).elim)
  refine lv_iload hx hb dL_isRefused_575 (lv_at hl 0 rfl) ?_
  refine lv_if_eq (tgt := 585) hx hb dL_isRefused_577 (by decide) (fun c_577 => ?_) (fun c_577 => (absurd (by decide) c_577 : False).elim)
  refine lv_iload hx hb dL_isRefused_585 (lv_at hl 7 rfl) ?_
  refine lv_iconst (v := 0) hx hb dL_isRefused_587 (by decide) ?_
  refine lv_iconst (v := 0) hx hb dL_isRefused_588 (by decide) ?_
  refine Lq.callH (rest := []) (wr := [(am, .inl (cA, 7, .inl (fun _ => 0))), (ar, .inl (cA, 22, .inl Y))]) [0, 1, 2, 3, 4, 5, 6, 7, 8, 9, 10, 11, 12, 13] [14, 15] ⟨hx, hb, hml, hown, hts⟩ (b_L_of6 l hl9 D cA a F g 0 hz.1 7 0 0 (if_neg (by decide +kernel))) (vx_cwSW 5 hts gL_isRefused_L_of rfl rfl rfl (by decide +kernel) ⟨Nat.le_of_ble_eq_true rfl, Nat.le_of_ble_eq_true rfl⟩) hK hP hD hS hA hZ rfl rfl (by decide) (by decide) (by decide) rfl rfl hl.1 (Nat.le_of_ble_eq_true rfl) dL_isRefused_589 ⟨Nat.le_of_ble_eq_true rfl, Nat.le_of_ble_eq_true rfl⟩ (fun r9 u9 H locs hu9 hP hD hS hG9 => ?_)
  have hP : va_P D vwCl (wK a cA F g am ar Y) H := hP.sub [2, 3, 4, 5, 6, 7, 8, 9, 10, 11, 12, 13, 14, 15, 0, 1] rfl
  have hD : va_D A (wK a cA F g am ar Y) := hD.sub [2, 3, 4, 5, 6, 7, 8, 9, 10, 11, 12, 13, 14, 15, 0, 1] (by decide) rfl
  have hG : s.heap.size + 28 ≤ H.size := Nat.le_trans (Nat.add_le_add_right hG 1) hG9
  refine ri_top (-1100000001) hu9 ?_
  refine lv_ldc (own := RL) (index := 17) (v := -1100000001) hx hb hown (hts (.constant RL 17 (-1100000001)) (by decide +kernel)) dL_isRefused_592 ?_
  refine lv_icmp_ne (tgt := 659) hx hb dL_isRefused_594 (by decide) (fun c_594 => (absurd (by decide) c_594 : False).elim) (fun c_594 => ?_)
  refine lv_iload hx hb dL_isRefused_597 (lv_at hl 1 rfl) ?_
  refine lv_if_ne (tgt := 635) hx hb dL_isRefused_599 (by decide) (fun c_599 => (absurd (by decide) c_599 : False).elim) (fun c_599 => ?_)
  refine lv_iload hx hb dL_isRefused_602 (lv_at hl 13 rfl) ?_
  refine lv_bipush (v := 11) hx hb dL_isRefused_604 (by decide) ?_
  refine lv_icmp_eq (tgt := 635) hx hb dL_isRefused_606 (by decide) (fun c_606 => (absurd c_606 (by decide) : False).elim) (fun c_606 => ?_)
  refine lv_aload_n hx hb dL_isRefused_609 rfl (lv_at hl 2 rfl) ?_
  refine lv_iload hx hb dL_isRefused_610 (lv_at hl 13 rfl) ?_
  refine lv_iconst (v := 0) hx hb dL_isRefused_612 (by decide) ?_
  refine lv_iload hx hb dL_isRefused_613 (lv_at hl 13 rfl) ?_
  refine lv_iconst (v := 2) hx hb dL_isRefused_615 (by decide) ?_
  refine lv_icmp_ne (tgt := 623) hx hb dL_isRefused_616 (by decide) (fun c_616 => ?_) (fun c_616 => (absurd c_616 (by decide) : False).elim)
  refine lv_iload hx hb dL_isRefused_623 (lv_at hl 9 rfl) ?_
  refine lv_iload hx hb dL_isRefused_625 (lv_at hl 9 rfl) ?_
  refine Lq.callH (rest := []) (wr := [(am, .inl (cA, 7, .inl (fun _ => 0))), (ar, .inl (cA, 22, .inl Y))]) [0, 1, 2, 3, 4, 5, 6, 7, 8, 9, 10, 11, 12, 13] [14, 15] ⟨hx, hb, hml, hown, hts⟩ (b_L_of6 l hl9 D cA a F g 0 hz.1 0 21 21 ((if_pos (by decide +kernel)).trans (if_neg (by decide +kernel)))) (vx_cwSW 5 hts gL_isRefused_L_of rfl rfl rfl (by decide +kernel) ⟨Nat.le_of_ble_eq_true rfl, Nat.le_of_ble_eq_true rfl⟩) hK hP hD hS hA hZ rfl rfl (by decide) (by decide) (by decide) rfl rfl hl.1 (Nat.le_of_ble_eq_true rfl) dL_isRefused_627 ⟨Nat.le_of_ble_eq_true rfl, Nat.le_of_ble_eq_true rfl⟩ (fun r9 u9 H locs hu9 hP hD hS hG9 => ?_)
  have hP : va_P D vwCl (wK a cA F g am ar Y) H := hP.sub [2, 3, 4, 5, 6, 7, 8, 9, 10, 11, 12, 13, 14, 15, 0, 1] rfl
  have hD : va_D A (wK a cA F g am ar Y) := hD.sub [2, 3, 4, 5, 6, 7, 8, 9, 10, 11, 12, 13, 14, 15, 0, 1] (by decide) rfl
  have hG : s.heap.size + 29 ≤ H.size := Nat.le_trans (Nat.add_le_add_right hG 1) hG9
  refine ri_top (-1100000001) hu9 ?_
  refine lv_ldc (own := RL) (index := 17) (v := -1100000001) hx hb hown (hts (.constant RL 17 (-1100000001)) (by decide +kernel)) dL_isRefused_630 ?_
  refine lv_icmp_ne (tgt := 659) hx hb dL_isRefused_632 (by decide) (fun c_632 => (absurd (by decide) c_632 : False).elim) (fun c_632 => ?_)
  refine lv_iload hx hb dL_isRefused_635 (lv_at hl 13 rfl) ?_
  refine lv_iconst (v := 2) hx hb dL_isRefused_637 (by decide) ?_
  refine lv_icmp_ne (tgt := 655) hx hb dL_isRefused_638 (by decide) (fun c_638 => ?_) (fun c_638 => (absurd c_638 (by decide) : False).elim)
  refine lv_iconst (v := 1) hx hb dL_isRefused_655 (by decide) ?_
  refine lv_goto (tgt := 660) hx hb dL_isRefused_656 (by decide) ?_
  refine lv_istore (lv' := [(11, .int 1), (14, .int 0), (13, .int 0), (0, .ref (a 16)), (1, .ref at_), (2, .ref am), (3, .int 1), (4, .int 0), (5, .int 7), (6, .int 5), (7, .int 21), (8, .int 1), (9, .long 0), (12, .int 6)]) hx hb dL_isRefused_660 hl (by decide) rfl (fun ls hl => ?_)
  refine lv_iinc (v := 7) (lv' := [(12, .int 7), (11, .int 1), (14, .int 0), (13, .int 0), (0, .ref (a 16)), (1, .ref at_), (2, .ref am), (3, .int 1), (4, .int 0), (5, .int 7), (6, .int 5), (7, .int 21), (8, .int 1), (9, .long 0)]) hx hb dL_isRefused_662 hl (k := 13) rfl ((by decide +kernel)) (by decide) rfl (fun ls hl => ?_)
  refine lv_goto (tgt := 504) hx hb dL_isRefused_665 (by decide) ?_
  exact KK _ _ _ _ hP hD hS hG (lv_sub hl [4, 5, 6, 7, 8, 9, 10, 11, 12, 13, 1, 0] rfl)

set_option maxHeartbeats 4000000 in
set_option maxRecDepth 100000 in
theorem rf1_b7 {p : Program} {l : Launch} (hl9 : l.stackTraces = false) {e : Env} {s : State} {m : MethodId} {args : Array Value} {below : List Frame} {meth : Method} {c : Code} {Q : State → Prop} {D : va_G} {cA : ClassId} {a : Nat → Nat} {F : Nat → Nat → Int32} {at_ am ar : Nat} {Y : Nat → Int32} (hz : zs F) {A : Nat → Prop} (hx : p.tables.exec = Jvm.exec) (hb : c.code = cL_isRefused) (hts : ∀ w ∈ wsL_isRefused, w.before args s = true) (hown : s.vm.findClass RL = some m.cls) (hml : c.maxLocals = 15) (hK : KA D cA s) (hA : ∀ q : Nat, s.heap.size ≤ q → A q) (hZ : ZY A s) (KK : ∀ (g : Nat → Int32) (H : Heap) (locs : List Loc) (ls : Array Slot), va_P D vwCl (wK a cA F g am ar Y) H → va_D A (wK a cA F g am ar Y) → va_S A s.heap H locs → s.heap.size + 31 ≤ H.size → lv_has ls 15 [(0, .ref (a 16)), (1, .ref at_), (2, .ref am), (3, .int 1), (4, .int 0), (5, .int 7), (6, .int 5), (7, .int 21), (8, .int 1), (9, .long 0), (11, .int 1), (12, .int 8)] → W p l e rmL_isRefused s m args below meth c H locs 31 186 Q (F0 m 504 ls [])) : ∀ (g : Nat → Int32) (H : Heap) (locs : List Loc) (ls : Array Slot), va_P D vwCl (wK a cA F g am ar Y) H → va_D A (wK a cA F g am ar Y) → va_S A s.heap H locs → s.heap.size + 29 ≤ H.size → lv_has ls 15 [(0, .ref (a 16)), (1, .ref at_), (2, .ref am), (3, .int 1), (4, .int 0), (5, .int 7), (6, .int 5), (7, .int 21), (8, .int 1), (9, .long 0), (11, .int 1), (12, .int 7)] → W p l e rmL_isRefused s m args below meth c H locs 29 174 Q (F0 m 504 ls []) := by
  intro g H locs ls hP hD hS hG hl
  refine lv_iload hx hb dL_isRefused_504 (lv_at hl 11 rfl) ?_
  refine lv_bipush (v := 12) hx hb dL_isRefused_506 (by decide) ?_
  refine lv_icmp_ge (tgt := 668) hx hb dL_isRefused_508 (by decide) (fun c_508 => (absurd c_508 (by decide) : False).elim) (fun c_508 => ?_)
  refine lv_iload hx hb dL_isRefused_511 (lv_at hl 10 rfl) ?_
  refine lv_if_eq (tgt := 668) hx hb dL_isRefused_513 (by decide) (fun c_513 => (absurd c_513 (by decide) : False).elim) (fun c_513 => ?_)
  refine lv_iload hx hb dL_isRefused_516 (lv_at hl 11 rfl) ?_
  refine lv_iconst (v := 1) hx hb dL_isRefused_518 (by decide) ?_
  refine lv_icmp_eq (tgt := 534) hx hb dL_isRefused_519 (by decide) (fun c_519 => (absurd c_519 (by decide) : False).elim) (fun c_519 => ?_)
  refine lv_iload hx hb dL_isRefused_522 (lv_at hl 11 rfl) ?_
  refine lv_iconst (v := 3) hx hb dL_isRefused_524 (by decide) ?_
  refine lv_icmp_eq (tgt := 534) hx hb dL_isRefused_525 (by decide) (fun c_525 => (absurd c_525 (by decide) : False).elim) (fun c_525 => ?_)
  refine lv_iload hx hb dL_isRefused_528 (lv_at hl 11 rfl) ?_
  refine lv_iconst (v := 4) hx hb dL_isRefused_530 (by decide) ?_
  refine lv_icmp_ne (tgt := 538) hx hb dL_isRefused_531 (by decide) (fun c_531 => ?_) (fun c_531 => (absurd c_531 (by decide) : False).elim)
  refine lv_iconst (v := 0) hx hb dL_isRefused_538 (by decide) ?_
  refine lv_istore (lv' := [(13, .int 0), (0, .ref (a 16)), (1, .ref at_), (2, .ref am), (3, .int 1), (4, .int 0), (5, .int 7), (6, .int 5), (7, .int 21), (8, .int 1), (9, .long 0), (11, .int 1), (12, .int 7)]) hx hb dL_isRefused_539 hl (by decide) rfl (fun ls hl => ?_)
  refine lv_iload hx hb dL_isRefused_541 (lv_at hl 12 rfl) ?_
  refine lv_bipush (v := 8) hx hb dL_isRefused_543 (by decide) ?_
  refine lv_icmp_eq (tgt := 555) hx hb dL_isRefused_545 (by decide) (fun c_545 => (absurd c_545 (by decide) : False).elim) (fun c_545 => ?_)
  refine lv_iload hx hb dL_isRefused_548 (lv_at hl 12 rfl) ?_
  refine lv_bipush (v := 10) hx hb dL_isRefused_550 (by decide) ?_
  refine lv_icmp_ne (tgt := 559) hx hb dL_isRefused_552 (by decide) (fun c_552 => ?_) (fun c_552 => (absurd c_552 (by decide) : False).elim)
  refine lv_iconst (v := 0) hx hb dL_isRefused_559 (by decide) ?_
  refine lv_istore (lv' := [(14, .int 0), (13, .int 0), (0, .ref (a 16)), (1, .ref at_), (2, .ref am), (3, .int 1), (4, .int 0), (5, .int 7), (6, .int 5), (7, .int 21), (8, .int 1), (9, .long 0), (11, .int 1), (12, .int 7)]) hx hb dL_isRefused_560 hl (by decide) rfl (fun ls hl => ?_)
  refine lv_aload_n hx hb dL_isRefused_562 rfl (lv_at hl 2 rfl) ?_
  refine lv_iload hx hb dL_isRefused_563 (lv_at hl 13 rfl) ?_
  refine lv_iload hx hb dL_isRefused_565 (lv_at hl 1 rfl) ?_
  refine lv_if_eq (tgt := 575) hx hb dL_isRefused_567 (by decide) (fun c_567 => ?_) (fun c_567 => (absurd (by decide) c_567 : False).elim)
  refine lv_iload hx hb dL_isRefused_575 (lv_at hl 0 rfl) ?_
  refine lv_if_eq (tgt := 585) hx hb dL_isRefused_577 (by decide) (fun c_577 => ?_) (fun c_577 => (absurd (by decide) c_577 : False).elim)
  refine lv_iload hx hb dL_isRefused_585 (lv_at hl 7 rfl) ?_
  refine lv_iconst (v := 0) hx hb dL_isRefused_587 (by decide) ?_
  refine lv_iconst (v := 0) hx hb dL_isRefused_588 (by decide) ?_
  refine Lq.callH (rest := []) (wr := [(am, .inl (cA, 7, .inl (fun _ => 0))), (ar, .inl (cA, 22, .inl Y))]) [0, 1, 2, 3, 4, 5, 6, 7, 8, 9, 10, 11, 12, 13] [14, 15] ⟨hx, hb, hml, hown, hts⟩ (b_L_of7 l hl9 D cA a F g 0 hz.1 7 0 0 (if_neg (by decide +kernel))) (vx_cwSW 5 hts gL_isRefused_L_of rfl rfl rfl (by decide +kernel) ⟨Nat.le_of_ble_eq_true rfl, Nat.le_of_ble_eq_true rfl⟩) hK hP hD hS hA hZ rfl rfl (by decide) (by decide) (by decide) rfl rfl hl.1 (Nat.le_of_ble_eq_true rfl) dL_isRefused_589 ⟨Nat.le_of_ble_eq_true rfl, Nat.le_of_ble_eq_true rfl⟩ (fun r9 u9 H locs hu9 hP hD hS hG9 => ?_)
  have hP : va_P D vwCl (wK a cA F g am ar Y) H := hP.sub [2, 3, 4, 5, 6, 7, 8, 9, 10, 11, 12, 13, 14, 15, 0, 1] rfl
  have hD : va_D A (wK a cA F g am ar Y) := hD.sub [2, 3, 4, 5, 6, 7, 8, 9, 10, 11, 12, 13, 14, 15, 0, 1] (by decide) rfl
  have hG : s.heap.size + 30 ≤ H.size := Nat.le_trans (Nat.add_le_add_right hG 1) hG9
  refine ri_top (-1100000001) hu9 ?_
  refine lv_ldc (own := RL) (index := 17) (v := -1100000001) hx hb hown (hts (.constant RL 17 (-1100000001)) (by decide +kernel)) dL_isRefused_592 ?_
  refine lv_icmp_ne (tgt := 659) hx hb dL_isRefused_594 (by decide) (fun c_594 => (absurd (by decide) c_594 : False).elim) (fun c_594 => ?_)
  refine lv_iload hx hb dL_isRefused_597 (lv_at hl 1 rfl) ?_
  refine lv_if_ne (tgt := 635) hx hb dL_isRefused_599 (by decide) (fun c_599 => (absurd (by decide) c_599 : False).elim) (fun c_599 => ?_)
  refine lv_iload hx hb dL_isRefused_602 (lv_at hl 13 rfl) ?_
  refine lv_bipush (v := 11) hx hb dL_isRefused_604 (by decide) ?_
  refine lv_icmp_eq (tgt := 635) hx hb dL_isRefused_606 (by decide) (fun c_606 => (absurd c_606 (by decide) : False).elim) (fun c_606 => ?_)
  refine lv_aload_n hx hb dL_isRefused_609 rfl (lv_at hl 2 rfl) ?_
  refine lv_iload hx hb dL_isRefused_610 (lv_at hl 13 rfl) ?_
  refine lv_iconst (v := 0) hx hb dL_isRefused_612 (by decide) ?_
  refine lv_iload hx hb dL_isRefused_613 (lv_at hl 13 rfl) ?_
  refine lv_iconst (v := 2) hx hb dL_isRefused_615 (by decide) ?_
  refine lv_icmp_ne (tgt := 623) hx hb dL_isRefused_616 (by decide) (fun c_616 => ?_) (fun c_616 => (absurd c_616 (by decide) : False).elim)
  refine lv_iload hx hb dL_isRefused_623 (lv_at hl 9 rfl) ?_
  refine lv_iload hx hb dL_isRefused_625 (lv_at hl 9 rfl) ?_
  refine Lq.callH (rest := []) (wr := [(am, .inl (cA, 7, .inl (fun _ => 0))), (ar, .inl (cA, 22, .inl Y))]) [0, 1, 2, 3, 4, 5, 6, 7, 8, 9, 10, 11, 12, 13] [14, 15] ⟨hx, hb, hml, hown, hts⟩ (b_L_of7 l hl9 D cA a F g 0 hz.1 0 21 21 ((if_pos (by decide +kernel)).trans (if_neg (by decide +kernel)))) (vx_cwSW 5 hts gL_isRefused_L_of rfl rfl rfl (by decide +kernel) ⟨Nat.le_of_ble_eq_true rfl, Nat.le_of_ble_eq_true rfl⟩) hK hP hD hS hA hZ rfl rfl (by decide) (by decide) (by decide) rfl rfl hl.1 (Nat.le_of_ble_eq_true rfl) dL_isRefused_627 ⟨Nat.le_of_ble_eq_true rfl, Nat.le_of_ble_eq_true rfl⟩ (fun r9 u9 H locs hu9 hP hD hS hG9 => ?_)
  have hP : va_P D vwCl (wK a cA F g am ar Y) H := hP.sub [2, 3, 4, 5, 6, 7, 8, 9, 10, 11, 12, 13, 14, 15, 0, 1] rfl
  have hD : va_D A (wK a cA F g am ar Y) := hD.sub [2, 3, 4, 5, 6, 7, 8, 9, 10, 11, 12, 13, 14, 15, 0, 1] (by decide) rfl
  have hG : s.heap.size + 31 ≤ H.size := Nat.le_trans (Nat.add_le_add_right hG 1) hG9
  refine ri_top (-1100000001) hu9 ?_
  refine lv_ldc (own := RL) (index := 17) (v := -1100000001) hx hb hown (hts (.constant RL 17 (-1100000001)) (by decide +kernel)) dL_isRefused_630 ?_
  refine lv_icmp_ne (tgt := 659) hx hb dL_isRefused_632 (by decide) (fun c_632 => (absurd (by decide) c_632 : False).elim) (fun c_632 => ?_)
  refine lv_iload hx hb dL_isRefused_635 (lv_at hl 13 rfl) ?_
  refine lv_iconst (v := 2) hx hb dL_isRefused_637 (by decide) ?_
  refine lv_icmp_ne (tgt := 655) hx hb dL_isRefused_638 (by decide) (fun c_638 => ?_) (fun c_638 => (absurd c_638 (by decide) : False).elim)
  refine lv_iconst (v := 1) hx hb dL_isRefused_655 (by decide) ?_
  refine lv_goto (tgt := 660) hx hb dL_isRefused_656 (by decide) ?_
  refine lv_istore (lv' := [(11, .int 1), (14, .int 0), (13, .int 0), (0, .ref (a 16)), (1, .ref at_), (2, .ref am), (3, .int 1), (4, .int 0), (5, .int 7), (6, .int 5), (7, .int 21), (8, .int 1), (9, .long 0), (12, .int 7)]) hx hb dL_isRefused_660 hl (by decide) rfl (fun ls hl => ?_)
  refine lv_iinc (v := 8) (lv' := [(12, .int 8), (11, .int 1), (14, .int 0), (13, .int 0), (0, .ref (a 16)), (1, .ref at_), (2, .ref am), (3, .int 1), (4, .int 0), (5, .int 7), (6, .int 5), (7, .int 21), (8, .int 1), (9, .long 0)]) hx hb dL_isRefused_662 hl (k := 13) rfl ((by decide +kernel)) (by decide) rfl (fun ls hl => ?_)
  refine lv_goto (tgt := 504) hx hb dL_isRefused_665 (by decide) ?_
  exact KK _ _ _ _ hP hD hS hG (lv_sub hl [4, 5, 6, 7, 8, 9, 10, 11, 12, 13, 1, 0] rfl)

set_option maxHeartbeats 4000000 in
set_option maxRecDepth 100000 in
theorem rf1_b8 {p : Program} {l : Launch} (hl9 : l.stackTraces = false) {e : Env} {s : State} {m : MethodId} {args : Array Value} {below : List Frame} {meth : Method} {c : Code} {Q : State → Prop} {D : va_G} {cA : ClassId} {a : Nat → Nat} {F : Nat → Nat → Int32} {at_ am ar : Nat} {Y : Nat → Int32} (hz : zs F) {A : Nat → Prop} (hx : p.tables.exec = Jvm.exec) (hb : c.code = cL_isRefused) (hts : ∀ w ∈ wsL_isRefused, w.before args s = true) (hown : s.vm.findClass RL = some m.cls) (hml : c.maxLocals = 15) (hK : KA D cA s) (hA : ∀ q : Nat, s.heap.size ≤ q → A q) (hZ : ZY A s) (KK : ∀ (g : Nat → Int32) (H : Heap) (locs : List Loc) (ls : Array Slot), va_P D vwCl (wK a cA F g am ar Y) H → va_D A (wK a cA F g am ar Y) → va_S A s.heap H locs → s.heap.size + 33 ≤ H.size → lv_has ls 15 [(0, .ref (a 16)), (1, .ref at_), (2, .ref am), (3, .int 1), (4, .int 0), (5, .int 7), (6, .int 5), (7, .int 21), (8, .int 1), (9, .long 0), (11, .int 1), (12, .int 9)] → W p l e rmL_isRefused s m args below meth c H locs 33 198 Q (F0 m 504 ls [])) : ∀ (g : Nat → Int32) (H : Heap) (locs : List Loc) (ls : Array Slot), va_P D vwCl (wK a cA F g am ar Y) H → va_D A (wK a cA F g am ar Y) → va_S A s.heap H locs → s.heap.size + 31 ≤ H.size → lv_has ls 15 [(0, .ref (a 16)), (1, .ref at_), (2, .ref am), (3, .int 1), (4, .int 0), (5, .int 7), (6, .int 5), (7, .int 21), (8, .int 1), (9, .long 0), (11, .int 1), (12, .int 8)] → W p l e rmL_isRefused s m args below meth c H locs 31 186 Q (F0 m 504 ls []) := by
  intro g H locs ls hP hD hS hG hl
  refine lv_iload hx hb dL_isRefused_504 (lv_at hl 11 rfl) ?_
  refine lv_bipush (v := 12) hx hb dL_isRefused_506 (by decide) ?_
  refine lv_icmp_ge (tgt := 668) hx hb dL_isRefused_508 (by decide) (fun c_508 => (absurd c_508 (by decide) : False).elim) (fun c_508 => ?_)
  refine lv_iload hx hb dL_isRefused_511 (lv_at hl 10 rfl) ?_
  refine lv_if_eq (tgt := 668) hx hb dL_isRefused_513 (by decide) (fun c_513 => (absurd c_513 (by decide) : False).elim) (fun c_513 => ?_)
  refine lv_iload hx hb dL_isRefused_516 (lv_at hl 11 rfl) ?_
  refine lv_iconst (v := 1) hx hb dL_isRefused_518 (by decide) ?_
  refine lv_icmp_eq (tgt := 534) hx hb dL_isRefused_519 (by decide) (fun c_519 => (absurd c_519 (by decide) : False).elim) (fun c_519 => ?_)
  refine lv_iload hx hb dL_isRefused_522 (lv_at hl 11 rfl) ?_
  refine lv_iconst (v := 3) hx hb dL_isRefused_524 (by decide) ?_
  refine lv_icmp_eq (tgt := 534) hx hb dL_isRefused_525 (by decide) (fun c_525 => (absurd c_525 (by decide) : False).elim) (fun c_525 => ?_)
  refine lv_iload hx hb dL_isRefused_528 (lv_at hl 11 rfl) ?_
  refine lv_iconst (v := 4) hx hb dL_isRefused_530 (by decide) ?_
  refine lv_icmp_ne (tgt := 538) hx hb dL_isRefused_531 (by decide) (fun c_531 => ?_) (fun c_531 => (absurd c_531 (by decide) : False).elim)
  refine lv_iconst (v := 0) hx hb dL_isRefused_538 (by decide) ?_
  refine lv_istore (lv' := [(13, .int 0), (0, .ref (a 16)), (1, .ref at_), (2, .ref am), (3, .int 1), (4, .int 0), (5, .int 7), (6, .int 5), (7, .int 21), (8, .int 1), (9, .long 0), (11, .int 1), (12, .int 8)]) hx hb dL_isRefused_539 hl (by decide) rfl (fun ls hl => ?_)
  refine lv_iload hx hb dL_isRefused_541 (lv_at hl 12 rfl) ?_
  refine lv_bipush (v := 8) hx hb dL_isRefused_543 (by decide) ?_
  refine lv_icmp_eq (tgt := 555) hx hb dL_isRefused_545 (by decide) (fun c_545 => ?_) (fun c_545 => (absurd (by decide) c_545 : False).elim)
  refine lv_iconst (v := 1) hx hb dL_isRefused_555 (by decide) ?_
  refine lv_goto (tgt := 560) hx hb dL_isRefused_556 (by decide) ?_
  refine lv_istore (lv' := [(14, .int 1), (13, .int 0), (0, .ref (a 16)), (1, .ref at_), (2, .ref am), (3, .int 1), (4, .int 0), (5, .int 7), (6, .int 5), (7, .int 21), (8, .int 1), (9, .long 0), (11, .int 1), (12, .int 8)]) hx hb dL_isRefused_560 hl (by decide) rfl (fun ls hl => ?_)
  refine lv_aload_n hx hb dL_isRefused_562 rfl (lv_at hl 2 rfl) ?_
  refine lv_iload hx hb dL_isRefused_563 (lv_at hl 13 rfl) ?_
  refine lv_iload hx hb dL_isRefused_565 (lv_at hl 1 rfl) ?_
  refine lv_if_eq (tgt := 575) hx hb dL_isRefused_567 (by decide) (fun c_567 => ?_) (fun c_567 => (absurd (by decide) c_567 : False).elim)
  refine lv_iload hx hb dL_isRefused_575 (lv_at hl 0 rfl) ?_
  refine lv_if_eq (tgt := 585) hx hb dL_isRefused_577 (by decide) (fun c_577 => (absurd c_577 (by decide) : False).elim) (fun c_577 => ?_)
  refine lv_iload hx hb dL_isRefused_580 (lv_at hl 8 rfl) ?_
  refine lv_goto (tgt := 587) hx hb dL_isRefused_582 (by decide) ?_
  refine lv_iconst (v := 0) hx hb dL_isRefused_587 (by decide) ?_
  refine lv_iconst (v := 0) hx hb dL_isRefused_588 (by decide) ?_
  refine Lq.callH (rest := []) (wr := [(am, .inl (cA, 7, .inl (fun _ => 0))), (ar, .inl (cA, 22, .inl Y))]) [0, 1, 2, 3, 4, 5, 6, 7, 8, 9, 10, 11, 12, 13] [14, 15] ⟨hx, hb, hml, hown, hts⟩ (b_L_of8 l hl9 D cA a F g 0 hz.1 5 0 0 (if_neg (by decide +kernel))) (vx_cwSW 5 hts gL_isRefused_L_of rfl rfl rfl (by decide +kernel) ⟨Nat.le_of_ble_eq_true rfl, Nat.le_of_ble_eq_true rfl⟩) hK hP hD hS hA hZ rfl rfl (by decide) (by decide) (by decide) rfl rfl hl.1 (Nat.le_of_ble_eq_true rfl) dL_isRefused_589 ⟨Nat.le_of_ble_eq_true rfl, Nat.le_of_ble_eq_true rfl⟩ (fun r9 u9 H locs hu9 hP hD hS hG9 => ?_)
  have hP : va_P D vwCl (wK a cA F g am ar Y) H := hP.sub [2, 3, 4, 5, 6, 7, 8, 9, 10, 11, 12, 13, 14, 15, 0, 1] rfl
  have hD : va_D A (wK a cA F g am ar Y) := hD.sub [2, 3, 4, 5, 6, 7, 8, 9, 10, 11, 12, 13, 14, 15, 0, 1] (by decide) rfl
  have hG : s.heap.size + 32 ≤ H.size := Nat.le_trans (Nat.add_le_add_right hG 1) hG9
  refine ri_top (-1100000001) hu9 ?_
  refine lv_ldc (own := RL) (index := 17) (v := -1100000001) hx hb hown (hts (.constant RL 17 (-1100000001)) (by decide +kernel)) dL_isRefused_592 ?_
  refine lv_icmp_ne (tgt := 659) hx hb dL_isRefused_594 (by decide) (fun c_594 => (absurd (by decide) c_594 : False).elim) (fun c_594 => ?_)
  refine lv_iload hx hb dL_isRefused_597 (lv_at hl 1 rfl) ?_
  refine lv_if_ne (tgt := 635) hx hb dL_isRefused_599 (by decide) (fun c_599 => (absurd (by decide) c_599 : False).elim) (fun c_599 => ?_)
  refine lv_iload hx hb dL_isRefused_602 (lv_at hl 13 rfl) ?_
  refine lv_bipush (v := 11) hx hb dL_isRefused_604 (by decide) ?_
  refine lv_icmp_eq (tgt := 635) hx hb dL_isRefused_606 (by decide) (fun c_606 => (absurd c_606 (by decide) : False).elim) (fun c_606 => ?_)
  refine lv_aload_n hx hb dL_isRefused_609 rfl (lv_at hl 2 rfl) ?_
  refine lv_iload hx hb dL_isRefused_610 (lv_at hl 13 rfl) ?_
  refine lv_iconst (v := 0) hx hb dL_isRefused_612 (by decide) ?_
  refine lv_iload hx hb dL_isRefused_613 (lv_at hl 13 rfl) ?_
  refine lv_iconst (v := 2) hx hb dL_isRefused_615 (by decide) ?_
  refine lv_icmp_ne (tgt := 623) hx hb dL_isRefused_616 (by decide) (fun c_616 => ?_) (fun c_616 => (absurd c_616 (by decide) : False).elim)
  refine lv_iload hx hb dL_isRefused_623 (lv_at hl 9 rfl) ?_
  refine lv_iload hx hb dL_isRefused_625 (lv_at hl 9 rfl) ?_
  refine Lq.callH (rest := []) (wr := [(am, .inl (cA, 7, .inl (fun _ => 0))), (ar, .inl (cA, 22, .inl Y))]) [0, 1, 2, 3, 4, 5, 6, 7, 8, 9, 10, 11, 12, 13] [14, 15] ⟨hx, hb, hml, hown, hts⟩ (b_L_of8 l hl9 D cA a F g 0 hz.1 0 21 21 ((if_pos (by decide +kernel)).trans (if_neg (by decide +kernel)))) (vx_cwSW 5 hts gL_isRefused_L_of rfl rfl rfl (by decide +kernel) ⟨Nat.le_of_ble_eq_true rfl, Nat.le_of_ble_eq_true rfl⟩) hK hP hD hS hA hZ rfl rfl (by decide) (by decide) (by decide) rfl rfl hl.1 (Nat.le_of_ble_eq_true rfl) dL_isRefused_627 ⟨Nat.le_of_ble_eq_true rfl, Nat.le_of_ble_eq_true rfl⟩ (fun r9 u9 H locs hu9 hP hD hS hG9 => ?_)
  have hP : va_P D vwCl (wK a cA F g am ar Y) H := hP.sub [2, 3, 4, 5, 6, 7, 8, 9, 10, 11, 12, 13, 14, 15, 0, 1] rfl
  have hD : va_D A (wK a cA F g am ar Y) := hD.sub [2, 3, 4, 5, 6, 7, 8, 9, 10, 11, 12, 13, 14, 15, 0, 1] (by decide) rfl
  have hG : s.heap.size + 33 ≤ H.size := Nat.le_trans (Nat.add_le_add_right hG 1) hG9
  refine ri_top (-1100000001) hu9 ?_
  refine lv_ldc (own := RL) (index := 17) (v := -1100000001) hx hb hown (hts (.constant RL 17 (-1100000001)) (by decide +kernel)) dL_isRefused_630 ?_
  refine lv_icmp_ne (tgt := 659) hx hb dL_isRefused_632 (by decide) (fun c_632 => (absurd (by decide) c_632 : False).elim) (fun c_632 => ?_)
  refine lv_iload hx hb dL_isRefused_635 (lv_at hl 13 rfl) ?_
  refine lv_iconst (v := 2) hx hb dL_isRefused_637 (by decide) ?_
  refine lv_icmp_ne (tgt := 655) hx hb dL_isRefused_638 (by decide) (fun c_638 => ?_) (fun c_638 => (absurd c_638 (by decide) : False).elim)
  refine lv_iconst (v := 1) hx hb dL_isRefused_655 (by decide) ?_
  refine lv_goto (tgt := 660) hx hb dL_isRefused_656 (by decide) ?_
  refine lv_istore (lv' := [(11, .int 1), (14, .int 1), (13, .int 0), (0, .ref (a 16)), (1, .ref at_), (2, .ref am), (3, .int 1), (4, .int 0), (5, .int 7), (6, .int 5), (7, .int 21), (8, .int 1), (9, .long 0), (12, .int 8)]) hx hb dL_isRefused_660 hl (by decide) rfl (fun ls hl => ?_)
  refine lv_iinc (v := 9) (lv' := [(12, .int 9), (11, .int 1), (14, .int 1), (13, .int 0), (0, .ref (a 16)), (1, .ref at_), (2, .ref am), (3, .int 1), (4, .int 0), (5, .int 7), (6, .int 5), (7, .int 21), (8, .int 1), (9, .long 0)]) hx hb dL_isRefused_662 hl (k := 13) rfl ((by decide +kernel)) (by decide) rfl (fun ls hl => ?_)
  refine lv_goto (tgt := 504) hx hb dL_isRefused_665 (by decide) ?_
  exact KK _ _ _ _ hP hD hS hG (lv_sub hl [4, 5, 6, 7, 8, 9, 10, 11, 12, 13, 1, 0] rfl)

set_option maxHeartbeats 4000000 in
set_option maxRecDepth 100000 in
theorem rf1_b9 {p : Program} {l : Launch} (hl9 : l.stackTraces = false) {e : Env} {s : State} {m : MethodId} {args : Array Value} {below : List Frame} {meth : Method} {c : Code} {Q : State → Prop} {D : va_G} {cA : ClassId} {a : Nat → Nat} {F : Nat → Nat → Int32} {at_ am ar : Nat} {Y : Nat → Int32} (hz : zs F) {A : Nat → Prop} (hx : p.tables.exec = Jvm.exec) (hb : c.code = cL_isRefused) (hts : ∀ w ∈ wsL_isRefused, w.before args s = true) (hown : s.vm.findClass RL = some m.cls) (hml : c.maxLocals = 15) (hK : KA D cA s) (hA : ∀ q : Nat, s.heap.size ≤ q → A q) (hZ : ZY A s) (KK : ∀ (g : Nat → Int32) (H : Heap) (locs : List Loc) (ls : Array Slot), va_P D vwCl (wK a cA F g am ar Y) H → va_D A (wK a cA F g am ar Y) → va_S A s.heap H locs → s.heap.size + 35 ≤ H.size → lv_has ls 15 [(0, .ref (a 16)), (1, .ref at_), (2, .ref am), (3, .int 1), (4, .int 0), (5, .int 7), (6, .int 5), (7, .int 21), (8, .int 1), (9, .long 0), (11, .int 1), (12, .int 10)] → W p l e rmL_isRefused s m args below meth c H locs 35 210 Q (F0 m 504 ls [])) : ∀ (g : Nat → Int32) (H : Heap) (locs : List Loc) (ls : Array Slot), va_P D vwCl (wK a cA F g am ar Y) H → va_D A (wK a cA F g am ar Y) → va_S A s.heap H locs → s.heap.size + 33 ≤ H.size → lv_has ls 15 [(0, .ref (a 16)), (1, .ref at_), (2, .ref am), (3, .int 1), (4, .int 0), (5, .int 7), (6, .int 5), (7, .int 21), (8, .int 1), (9, .long 0), (11, .int 1), (12, .int 9)] → W p l e rmL_isRefused s m args below meth c H locs 33 198 Q (F0 m 504 ls []) := by
  intro g H locs ls hP hD hS hG hl
  refine lv_iload hx hb dL_isRefused_504 (lv_at hl 11 rfl) ?_
  refine lv_bipush (v := 12) hx hb dL_isRefused_506 (by decide) ?_
  refine lv_icmp_ge (tgt := 668) hx hb dL_isRefused_508 (by decide) (fun c_508 => (absurd c_508 (by decide) : False).elim) (fun c_508 => ?_)
  refine lv_iload hx hb dL_isRefused_511 (lv_at hl 10 rfl) ?_
  refine lv_if_eq (tgt := 668) hx hb dL_isRefused_513 (by decide) (fun c_513 => (absurd c_513 (by decide) : False).elim) (fun c_513 => ?_)
  refine lv_iload hx hb dL_isRefused_516 (lv_at hl 11 rfl) ?_
  refine lv_iconst (v := 1) hx hb dL_isRefused_518 (by decide) ?_
  refine lv_icmp_eq (tgt := 534) hx hb dL_isRefused_519 (by decide) (fun c_519 => (absurd c_519 (by decide) : False).elim) (fun c_519 => ?_)
  refine lv_iload hx hb dL_isRefused_522 (lv_at hl 11 rfl) ?_
  refine lv_iconst (v := 3) hx hb dL_isRefused_524 (by decide) ?_
  refine lv_icmp_eq (tgt := 534) hx hb dL_isRefused_525 (by decide) (fun c_525 => (absurd c_525 (by decide) : False).elim) (fun c_525 => ?_)
  refine lv_iload hx hb dL_isRefused_528 (lv_at hl 11 rfl) ?_
  refine lv_iconst (v := 4) hx hb dL_isRefused_530 (by decide) ?_
  refine lv_icmp_ne (tgt := 538) hx hb dL_isRefused_531 (by decide) (fun c_531 => ?_) (fun c_531 => (absurd c_531 (by decide) : False).elim)
  refine lv_iconst (v := 0) hx hb dL_isRefused_538 (by decide) ?_
  refine lv_istore (lv' := [(13, .int 0), (0, .ref (a 16)), (1, .ref at_), (2, .ref am), (3, .int 1), (4, .int 0), (5, .int 7), (6, .int 5), (7, .int 21), (8, .int 1), (9, .long 0), (11, .int 1), (12, .int 9)]) hx hb dL_isRefused_539 hl (by decide) rfl (fun ls hl => ?_)
  refine lv_iload hx hb dL_isRefused_541 (lv_at hl 12 rfl) ?_
  refine lv_bipush (v := 8) hx hb dL_isRefused_543 (by decide) ?_
  refine lv_icmp_eq (tgt := 555) hx hb dL_isRefused_545 (by decide) (fun c_545 => (absurd c_545 (by decide) : False).elim) (fun c_545 => ?_)
  refine lv_iload hx hb dL_isRefused_548 (lv_at hl 12 rfl) ?_
  refine lv_bipush (v := 10) hx hb dL_isRefused_550 (by decide) ?_
  refine lv_icmp_ne (tgt := 559) hx hb dL_isRefused_552 (by decide) (fun c_552 => ?_) (fun c_552 => (absurd c_552 (by decide) : False).elim)
  refine lv_iconst (v := 0) hx hb dL_isRefused_559 (by decide) ?_
  refine lv_istore (lv' := [(14, .int 0), (13, .int 0), (0, .ref (a 16)), (1, .ref at_), (2, .ref am), (3, .int 1), (4, .int 0), (5, .int 7), (6, .int 5), (7, .int 21), (8, .int 1), (9, .long 0), (11, .int 1), (12, .int 9)]) hx hb dL_isRefused_560 hl (by decide) rfl (fun ls hl => ?_)
  refine lv_aload_n hx hb dL_isRefused_562 rfl (lv_at hl 2 rfl) ?_
  refine lv_iload hx hb dL_isRefused_563 (lv_at hl 13 rfl) ?_
  refine lv_iload hx hb dL_isRefused_565 (lv_at hl 1 rfl) ?_
  refine lv_if_eq (tgt := 575) hx hb dL_isRefused_567 (by decide) (fun c_567 => ?_) (fun c_567 => (absurd (by decide) c_567 : False).elim)
  refine lv_iload hx hb dL_isRefused_575 (lv_at hl 0 rfl) ?_
  refine lv_if_eq (tgt := 585) hx hb dL_isRefused_577 (by decide) (fun c_577 => ?_) (fun c_577 => (absurd (by decide) c_577 : False).elim)
  refine lv_iload hx hb dL_isRefused_585 (lv_at hl 7 rfl) ?_
  refine lv_iconst (v := 0) hx hb dL_isRefused_587 (by decide) ?_
  refine lv_iconst (v := 0) hx hb dL_isRefused_588 (by decide) ?_
  refine Lq.callH (rest := []) (wr := [(am, .inl (cA, 7, .inl (fun _ => 0))), (ar, .inl (cA, 22, .inl Y))]) [0, 1, 2, 3, 4, 5, 6, 7, 8, 9, 10, 11, 12, 13] [14, 15] ⟨hx, hb, hml, hown, hts⟩ (b_L_of9 l hl9 D cA a F g 0 hz.1 7 0 0 (if_neg (by decide +kernel))) (vx_cwSW 5 hts gL_isRefused_L_of rfl rfl rfl (by decide +kernel) ⟨Nat.le_of_ble_eq_true rfl, Nat.le_of_ble_eq_true rfl⟩) hK hP hD hS hA hZ rfl rfl (by decide) (by decide) (by decide) rfl rfl hl.1 (Nat.le_of_ble_eq_true rfl) dL_isRefused_589 ⟨Nat.le_of_ble_eq_true rfl, Nat.le_of_ble_eq_true rfl⟩ (fun r9 u9 H locs hu9 hP hD hS hG9 => ?_)
  have hP : va_P D vwCl (wK a cA F g am ar Y) H := hP.sub [2, 3, 4, 5, 6, 7, 8, 9, 10, 11, 12, 13, 14, 15, 0, 1] rfl
  have hD : va_D A (wK a cA F g am ar Y) := hD.sub [2, 3, 4, 5, 6, 7, 8, 9, 10, 11, 12, 13, 14, 15, 0, 1] (by decide) rfl
  have hG : s.heap.size + 34 ≤ H.size := Nat.le_trans (Nat.add_le_add_right hG 1) hG9
  refine ri_top (-1100000001) hu9 ?_
  refine lv_ldc (own := RL) (index := 17) (v := -1100000001) hx hb hown (hts (.constant RL 17 (-1100000001)) (by decide +kernel)) dL_isRefused_592 ?_
  refine lv_icmp_ne (tgt := 659) hx hb dL_isRefused_594 (by decide) (fun c_594 => (absurd (by decide) c_594 : False).elim) (fun c_594 => ?_)
  refine lv_iload hx hb dL_isRefused_597 (lv_at hl 1 rfl) ?_
  refine lv_if_ne (tgt := 635) hx hb dL_isRefused_599 (by decide) (fun c_599 => (absurd (by decide) c_599 : False).elim) (fun c_599 => ?_)
  refine lv_iload hx hb dL_isRefused_602 (lv_at hl 13 rfl) ?_
  refine lv_bipush (v := 11) hx hb dL_isRefused_604 (by decide) ?_
  refine lv_icmp_eq (tgt := 635) hx hb dL_isRefused_606 (by decide) (fun c_606 => (absurd c_606 (by decide) : False).elim) (fun c_606 => ?_)
  refine lv_aload_n hx hb dL_isRefused_609 rfl (lv_at hl 2 rfl) ?_
  refine lv_iload hx hb dL_isRefused_610 (lv_at hl 13 rfl) ?_
  refine lv_iconst (v := 0) hx hb dL_isRefused_612 (by decide) ?_
  refine lv_iload hx hb dL_isRefused_613 (lv_at hl 13 rfl) ?_
  refine lv_iconst (v := 2) hx hb dL_isRefused_615 (by decide) ?_
  refine lv_icmp_ne (tgt := 623) hx hb dL_isRefused_616 (by decide) (fun c_616 => ?_) (fun c_616 => (absurd c_616 (by decide) : False).elim)
  refine lv_iload hx hb dL_isRefused_623 (lv_at hl 9 rfl) ?_
  refine lv_iload hx hb dL_isRefused_625 (lv_at hl 9 rfl) ?_
  refine Lq.callH (rest := []) (wr := [(am, .inl (cA, 7, .inl (fun _ => 0))), (ar, .inl (cA, 22, .inl Y))]) [0, 1, 2, 3, 4, 5, 6, 7, 8, 9, 10, 11, 12, 13] [14, 15] ⟨hx, hb, hml, hown, hts⟩ (b_L_of9 l hl9 D cA a F g 0 hz.1 0 21 21 ((if_pos (by decide +kernel)).trans (if_neg (by decide +kernel)))) (vx_cwSW 5 hts gL_isRefused_L_of rfl rfl rfl (by decide +kernel) ⟨Nat.le_of_ble_eq_true rfl, Nat.le_of_ble_eq_true rfl⟩) hK hP hD hS hA hZ rfl rfl (by decide) (by decide) (by decide) rfl rfl hl.1 (Nat.le_of_ble_eq_true rfl) dL_isRefused_627 ⟨Nat.le_of_ble_eq_true rfl, Nat.le_of_ble_eq_true rfl⟩ (fun r9 u9 H locs hu9 hP hD hS hG9 => ?_)
  have hP : va_P D vwCl (wK a cA F g am ar Y) H := hP.sub [2, 3, 4, 5, 6, 7, 8, 9, 10, 11, 12, 13, 14, 15, 0, 1] rfl
  have hD : va_D A (wK a cA F g am ar Y) := hD.sub [2, 3, 4, 5, 6, 7, 8, 9, 10, 11, 12, 13, 14, 15, 0, 1] (by decide) rfl
  have hG : s.heap.size + 35 ≤ H.size := Nat.le_trans (Nat.add_le_add_right hG 1) hG9
  refine ri_top (-1100000001) hu9 ?_
  refine lv_ldc (own := RL) (index := 17) (v := -1100000001) hx hb hown (hts (.constant RL 17 (-1100000001)) (by decide +kernel)) dL_isRefused_630 ?_
  refine lv_icmp_ne (tgt := 659) hx hb dL_isRefused_632 (by decide) (fun c_632 => (absurd (by decide) c_632 : False).elim) (fun c_632 => ?_)
  refine lv_iload hx hb dL_isRefused_635 (lv_at hl 13 rfl) ?_
  refine lv_iconst (v := 2) hx hb dL_isRefused_637 (by decide) ?_
  refine lv_icmp_ne (tgt := 655) hx hb dL_isRefused_638 (by decide) (fun c_638 => ?_) (fun c_638 => (absurd c_638 (by decide) : False).elim)
  refine lv_iconst (v := 1) hx hb dL_isRefused_655 (by decide) ?_
  refine lv_goto (tgt := 660) hx hb dL_isRefused_656 (by decide) ?_
  refine lv_istore (lv' := [(11, .int 1), (14, .int 0), (13, .int 0), (0, .ref (a 16)), (1, .ref at_), (2, .ref am), (3, .int 1), (4, .int 0), (5, .int 7), (6, .int 5), (7, .int 21), (8, .int 1), (9, .long 0), (12, .int 9)]) hx hb dL_isRefused_660 hl (by decide) rfl (fun ls hl => ?_)
  refine lv_iinc (v := 10) (lv' := [(12, .int 10), (11, .int 1), (14, .int 0), (13, .int 0), (0, .ref (a 16)), (1, .ref at_), (2, .ref am), (3, .int 1), (4, .int 0), (5, .int 7), (6, .int 5), (7, .int 21), (8, .int 1), (9, .long 0)]) hx hb dL_isRefused_662 hl (k := 13) rfl ((by decide +kernel)) (by decide) rfl (fun ls hl => ?_)
  refine lv_goto (tgt := 504) hx hb dL_isRefused_665 (by decide) ?_
  exact KK _ _ _ _ hP hD hS hG (lv_sub hl [4, 5, 6, 7, 8, 9, 10, 11, 12, 13, 1, 0] rfl)

set_option maxHeartbeats 4000000 in
set_option maxRecDepth 100000 in
theorem rf1_b10 {p : Program} {l : Launch} (hl9 : l.stackTraces = false) {e : Env} {s : State} {m : MethodId} {args : Array Value} {below : List Frame} {meth : Method} {c : Code} {Q : State → Prop} {D : va_G} {cA : ClassId} {a : Nat → Nat} {F : Nat → Nat → Int32} {at_ am ar : Nat} {Y : Nat → Int32} (hz : zs F) {A : Nat → Prop} (hx : p.tables.exec = Jvm.exec) (hb : c.code = cL_isRefused) (hts : ∀ w ∈ wsL_isRefused, w.before args s = true) (hown : s.vm.findClass RL = some m.cls) (hml : c.maxLocals = 15) (hK : KA D cA s) (hA : ∀ q : Nat, s.heap.size ≤ q → A q) (hZ : ZY A s) (KK : ∀ (g : Nat → Int32) (H : Heap) (locs : List Loc) (ls : Array Slot), va_P D vwCl (wK a cA F g am ar Y) H → va_D A (wK a cA F g am ar Y) → va_S A s.heap H locs → s.heap.size + 37 ≤ H.size → lv_has ls 15 [(0, .ref (a 16)), (1, .ref at_), (2, .ref am), (3, .int 1), (4, .int 0), (5, .int 7), (6, .int 5), (7, .int 21), (8, .int 1), (9, .long 0), (11, .int 1), (12, .int 11)] → W p l e rmL_isRefused s m args below meth c H locs 37 222 Q (F0 m 504 ls [])) : ∀ (g : Nat → Int32) (H : Heap) (locs : List Loc) (ls : Array Slot), va_P D vwCl (wK a cA F g am ar Y) H → va_D A (wK a cA F g am ar Y) → va_S A s.heap H locs → s.heap.size + 35 ≤ H.size → lv_has ls 15 [(0, .ref (a 16)), (1, .ref at_), (2, .ref am), (3, .int 1), (4, .int 0), (5, .int 7), (6, .int 5), (7, .int 21), (8, .int 1), (9, .long 0), (11, .int 1), (12, .int 10)] → W p l e rmL_isRefused s m args below meth c H locs 35 210 Q (F0 m 504 ls []) := by
  intro g H locs ls hP hD hS hG hl
  refine lv_iload hx hb dL_isRefused_504 (lv_at hl 11 rfl) ?_
  refine lv_bipush (v := 12) hx hb dL_isRefused_506 (by decide) ?_
  refine lv_icmp_ge (tgt := 668) hx hb dL_isRefused_508 (by decide) (fun c_508 => (absurd c_508 (by decide) : False).elim) (fun c_508 => ?_)
  refine lv_iload hx hb dL_isRefused_511 (lv_at hl 10 rfl) ?_
  refine lv_if_eq (tgt := 668) hx hb dL_isRefused_513 (by decide) (fun c_513 => (absurd c_513 (by decide) : False).elim) (fun c_513 => ?_)
  refine lv_iload hx hb dL_isRefused_516 (lv_at hl 11 rfl) ?_
  refine lv_iconst (v := 1) hx hb dL_isRefused_518 (by decide) ?_
  refine lv_icmp_eq (tgt := 534) hx hb dL_isRefused_519 (by decide) (fun c_519 => (absurd c_519 (by decide) : False).elim) (fun c_519 => ?_)
  refine lv_iload hx hb dL_isRefused_522 (lv_at hl 11 rfl) ?_
  refine lv_iconst (v := 3) hx hb dL_isRefused_524 (by decide) ?_
  refine lv_icmp_eq (tgt := 534) hx hb dL_isRefused_525 (by decide) (fun c_525 => (absurd c_525 (by decide) : False).elim) (fun c_525 => ?_)
  refine lv_iload hx hb dL_isRefused_528 (lv_at hl 11 rfl) ?_
  refine lv_iconst (v := 4) hx hb dL_isRefused_530 (by decide) ?_
  refine lv_icmp_ne (tgt := 538) hx hb dL_isRefused_531 (by decide) (fun c_531 => ?_) (fun c_531 => (absurd c_531 (by decide) : False).elim)
  refine lv_iconst (v := 0) hx hb dL_isRefused_538 (by decide) ?_
  refine lv_istore (lv' := [(13, .int 0), (0, .ref (a 16)), (1, .ref at_), (2, .ref am), (3, .int 1), (4, .int 0), (5, .int 7), (6, .int 5), (7, .int 21), (8, .int 1), (9, .long 0), (11, .int 1), (12, .int 10)]) hx hb dL_isRefused_539 hl (by decide) rfl (fun ls hl => ?_)
  refine lv_iload hx hb dL_isRefused_541 (lv_at hl 12 rfl) ?_
  refine lv_bipush (v := 8) hx hb dL_isRefused_543 (by decide) ?_
  refine lv_icmp_eq (tgt := 555) hx hb dL_isRefused_545 (by decide) (fun c_545 => (absurd c_545 (by decide) : False).elim) (fun c_545 => ?_)
  refine lv_iload hx hb dL_isRefused_548 (lv_at hl 12 rfl) ?_
  refine lv_bipush (v := 10) hx hb dL_isRefused_550 (by decide) ?_
  refine lv_icmp_ne (tgt := 559) hx hb dL_isRefused_552 (by decide) (fun c_552 => (absurd (by decide) c_552 : False).elim) (fun c_552 => ?_)
  refine lv_iconst (v := 1) hx hb dL_isRefused_555 (by decide) ?_
  refine lv_goto (tgt := 560) hx hb dL_isRefused_556 (by decide) ?_
  refine lv_istore (lv' := [(14, .int 1), (13, .int 0), (0, .ref (a 16)), (1, .ref at_), (2, .ref am), (3, .int 1), (4, .int 0), (5, .int 7), (6, .int 5), (7, .int 21), (8, .int 1), (9, .long 0), (11, .int 1), (12, .int 10)]) hx hb dL_isRefused_560 hl (by decide) rfl (fun ls hl => ?_)
  refine lv_aload_n hx hb dL_isRefused_562 rfl (lv_at hl 2 rfl) ?_
  refine lv_iload hx hb dL_isRefused_563 (lv_at hl 13 rfl) ?_
  refine lv_iload hx hb dL_isRefused_565 (lv_at hl 1 rfl) ?_
  refine lv_if_eq (tgt := 575) hx hb dL_isRefused_567 (by decide) (fun c_567 => ?_) (fun c_567 => (absurd (by decide) c_567 : False).elim)
  refine lv_iload hx hb dL_isRefused_575 (lv_at hl 0 rfl) ?_
  refine lv_if_eq (tgt := 585) hx hb dL_isRefused_577 (by decide) (fun c_577 => (absurd c_577 (by decide) : False).elim) (fun c_577 => ?_)
  refine lv_iload hx hb dL_isRefused_580 (lv_at hl 8 rfl) ?_
  refine lv_goto (tgt := 587) hx hb dL_isRefused_582 (by decide) ?_
  refine lv_iconst (v := 0) hx hb dL_isRefused_587 (by decide) ?_
  refine lv_iconst (v := 0) hx hb dL_isRefused_588 (by decide) ?_
  refine Lq.callH (rest := []) (wr := [(am, .inl (cA, 7, .inl (fun _ => 0))), (ar, .inl (cA, 22, .inl Y))]) [0, 1, 2, 3, 4, 5, 6, 7, 8, 9, 10, 11, 12, 13] [14, 15] ⟨hx, hb, hml, hown, hts⟩ (b_L_of10 l hl9 D cA a F g 0 hz.1 5 0 0 (if_neg (by decide +kernel))) (vx_cwSW 5 hts gL_isRefused_L_of rfl rfl rfl (by decide +kernel) ⟨Nat.le_of_ble_eq_true rfl, Nat.le_of_ble_eq_true rfl⟩) hK hP hD hS hA hZ rfl rfl (by decide) (by decide) (by decide) rfl rfl hl.1 (Nat.le_of_ble_eq_true rfl) dL_isRefused_589 ⟨Nat.le_of_ble_eq_true rfl, Nat.le_of_ble_eq_true rfl⟩ (fun r9 u9 H locs hu9 hP hD hS hG9 => ?_)
  have hP : va_P D vwCl (wK a cA F g am ar Y) H := hP.sub [2, 3, 4, 5, 6, 7, 8, 9, 10, 11, 12, 13, 14, 15, 0, 1] rfl
  have hD : va_D A (wK a cA F g am ar Y) := hD.sub [2, 3, 4, 5, 6, 7, 8, 9, 10, 11, 12, 13, 14, 15, 0, 1] (by decide) rfl
  have hG : s.heap.size + 36 ≤ H.size := Nat.le_trans (Nat.add_le_add_right hG 1) hG9
  refine ri_top (-1100000001) hu9 ?_
  refine lv_ldc (own := RL) (index := 17) (v := -1100000001) hx hb hown (hts (.constant RL 17 (-1100000001)) (by decide +kernel)) dL_isRefused_592 ?_
  refine lv_icmp_ne (tgt := 659) hx hb dL_isRefused_594 (by decide) (fun c_594 => (absurd (by decide) c_594 : False).elim) (fun c_594 => ?_)
  refine lv_iload hx hb dL_isRefused_597 (lv_at hl 1 rfl) ?_
  refine lv_if_ne (tgt := 635) hx hb dL_isRefused_599 (by decide) (fun c_599 => (absurd (by decide) c_599 : False).elim) (fun c_599 => ?_)
  refine lv_iload hx hb dL_isRefused_602 (lv_at hl 13 rfl) ?_
  refine lv_bipush (v := 11) hx hb dL_isRefused_604 (by decide) ?_
  refine lv_icmp_eq (tgt := 635) hx hb dL_isRefused_606 (by decide) (fun c_606 => (absurd c_606 (by decide) : False).elim) (fun c_606 => ?_)
  refine lv_aload_n hx hb dL_isRefused_609 rfl (lv_at hl 2 rfl) ?_
  refine lv_iload hx hb dL_isRefused_610 (lv_at hl 13 rfl) ?_
  refine lv_iconst (v := 0) hx hb dL_isRefused_612 (by decide) ?_
  refine lv_iload hx hb dL_isRefused_613 (lv_at hl 13 rfl) ?_
  refine lv_iconst (v := 2) hx hb dL_isRefused_615 (by decide) ?_
  refine lv_icmp_ne (tgt := 623) hx hb dL_isRefused_616 (by decide) (fun c_616 => ?_) (fun c_616 => (absurd c_616 (by decide) : False).elim)
  refine lv_iload hx hb dL_isRefused_623 (lv_at hl 9 rfl) ?_
  refine lv_iload hx hb dL_isRefused_625 (lv_at hl 9 rfl) ?_
  refine Lq.callH (rest := []) (wr := [(am, .inl (cA, 7, .inl (fun _ => 0))), (ar, .inl (cA, 22, .inl Y))]) [0, 1, 2, 3, 4, 5, 6, 7, 8, 9, 10, 11, 12, 13] [14, 15] ⟨hx, hb, hml, hown, hts⟩ (b_L_of10 l hl9 D cA a F g 0 hz.1 0 21 21 ((if_pos (by decide +kernel)).trans (if_neg (by decide +kernel)))) (vx_cwSW 5 hts gL_isRefused_L_of rfl rfl rfl (by decide +kernel) ⟨Nat.le_of_ble_eq_true rfl, Nat.le_of_ble_eq_true rfl⟩) hK hP hD hS hA hZ rfl rfl (by decide) (by decide) (by decide) rfl rfl hl.1 (Nat.le_of_ble_eq_true rfl) dL_isRefused_627 ⟨Nat.le_of_ble_eq_true rfl, Nat.le_of_ble_eq_true rfl⟩ (fun r9 u9 H locs hu9 hP hD hS hG9 => ?_)
  have hP : va_P D vwCl (wK a cA F g am ar Y) H := hP.sub [2, 3, 4, 5, 6, 7, 8, 9, 10, 11, 12, 13, 14, 15, 0, 1] rfl
  have hD : va_D A (wK a cA F g am ar Y) := hD.sub [2, 3, 4, 5, 6, 7, 8, 9, 10, 11, 12, 13, 14, 15, 0, 1] (by decide) rfl
  have hG : s.heap.size + 37 ≤ H.size := Nat.le_trans (Nat.add_le_add_right hG 1) hG9
  refine ri_top (-1100000001) hu9 ?_
  refine lv_ldc (own := RL) (index := 17) (v := -1100000001) hx hb hown (hts (.constant RL 17 (-1100000001)) (by decide +kernel)) dL_isRefused_630 ?_
  refine lv_icmp_ne (tgt := 659) hx hb dL_isRefused_632 (by decide) (fun c_632 => (absurd (by decide) c_632 : False).elim) (fun c_632 => ?_)
  refine lv_iload hx hb dL_isRefused_635 (lv_at hl 13 rfl) ?_
  refine lv_iconst (v := 2) hx hb dL_isRefused_637 (by decide) ?_
  refine lv_icmp_ne (tgt := 655) hx hb dL_isRefused_638 (by decide) (fun c_638 => ?_) (fun c_638 => (absurd c_638 (by decide) : False).elim)
  refine lv_iconst (v := 1) hx hb dL_isRefused_655 (by decide) ?_
  refine lv_goto (tgt := 660) hx hb dL_isRefused_656 (by decide) ?_
  refine lv_istore (lv' := [(11, .int 1), (14, .int 1), (13, .int 0), (0, .ref (a 16)), (1, .ref at_), (2, .ref am), (3, .int 1), (4, .int 0), (5, .int 7), (6, .int 5), (7, .int 21), (8, .int 1), (9, .long 0), (12, .int 10)]) hx hb dL_isRefused_660 hl (by decide) rfl (fun ls hl => ?_)
  refine lv_iinc (v := 11) (lv' := [(12, .int 11), (11, .int 1), (14, .int 1), (13, .int 0), (0, .ref (a 16)), (1, .ref at_), (2, .ref am), (3, .int 1), (4, .int 0), (5, .int 7), (6, .int 5), (7, .int 21), (8, .int 1), (9, .long 0)]) hx hb dL_isRefused_662 hl (k := 13) rfl ((by decide +kernel)) (by decide) rfl (fun ls hl => ?_)
  refine lv_goto (tgt := 504) hx hb dL_isRefused_665 (by decide) ?_
  exact KK _ _ _ _ hP hD hS hG (lv_sub hl [4, 5, 6, 7, 8, 9, 10, 11, 12, 13, 1, 0] rfl)

set_option maxHeartbeats 4000000 in
set_option maxRecDepth 100000 in
theorem rf1_b11 {p : Program} {l : Launch} (hl9 : l.stackTraces = false) {e : Env} {s : State} {m : MethodId} {args : Array Value} {below : List Frame} {meth : Method} {c : Code} {Q : State → Prop} {D : va_G} {cA : ClassId} {a : Nat → Nat} {F : Nat → Nat → Int32} {at_ am ar : Nat} {Y : Nat → Int32} (hz : zs F) {A : Nat → Prop} (hx : p.tables.exec = Jvm.exec) (hb : c.code = cL_isRefused) (hts : ∀ w ∈ wsL_isRefused, w.before args s = true) (hown : s.vm.findClass RL = some m.cls) (hml : c.maxLocals = 15) (hK : KA D cA s) (hA : ∀ q : Nat, s.heap.size ≤ q → A q) (hZ : ZY A s) (KK : ∀ (g : Nat → Int32) (H : Heap) (locs : List Loc) (ls : Array Slot), va_P D vwCl (wK a cA F g am ar Y) H → va_D A (wK a cA F g am ar Y) → va_S A s.heap H locs → s.heap.size + 38 ≤ H.size → lv_has ls 15 [(0, .ref (a 16)), (1, .ref at_), (2, .ref am), (3, .int 1), (4, .int 0), (5, .int 7), (6, .int 5), (7, .int 21), (8, .int 1), (9, .long 0), (11, .int 1), (12, .int 12)] → W p l e rmL_isRefused s m args below meth c H locs 38 228 Q (F0 m 504 ls [])) : ∀ (g : Nat → Int32) (H : Heap) (locs : List Loc) (ls : Array Slot), va_P D vwCl (wK a cA F g am ar Y) H → va_D A (wK a cA F g am ar Y) → va_S A s.heap H locs → s.heap.size + 37 ≤ H.size → lv_has ls 15 [(0, .ref (a 16)), (1, .ref at_), (2, .ref am), (3, .int 1), (4, .int 0), (5, .int 7), (6, .int 5), (7, .int 21), (8, .int 1), (9, .long 0), (11, .int 1), (12, .int 11)] → W p l e rmL_isRefused s m args below meth c H locs 37 222 Q (F0 m 504 ls []) := by
  intro g H locs ls hP hD hS hG hl
  refine lv_iload hx hb dL_isRefused_504 (lv_at hl 11 rfl) ?_
  refine lv_bipush (v := 12) hx hb dL_isRefused_506 (by decide) ?_
  refine lv_icmp_ge (tgt := 668) hx hb dL_isRefused_508 (by decide) (fun c_508 => (absurd c_508 (by decide) : False).elim) (fun c_508 => ?_)
  refine lv_iload hx hb dL_isRefused_511 (lv_at hl 10 rfl) ?_
  refine lv_if_eq (tgt := 668) hx hb dL_isRefused_513 (by decide) (fun c_513 => (absurd c_513 (by decide) : False).elim) (fun c_513 => ?_)
  refine lv_iload hx hb dL_isRefused_516 (lv_at hl 11 rfl) ?_
  refine lv_iconst (v := 1) hx hb dL_isRefused_518 (by decide) ?_
  refine lv_icmp_eq (tgt := 534) hx hb dL_isRefused_519 (by decide) (fun c_519 => (absurd c_519 (by decide) : False).elim) (fun c_519 => ?_)
  refine lv_iload hx hb dL_isRefused_522 (lv_at hl 11 rfl) ?_
  refine lv_iconst (v := 3) hx hb dL_isRefused_524 (by decide) ?_
  refine lv_icmp_eq (tgt := 534) hx hb dL_isRefused_525 (by decide) (fun c_525 => (absurd c_525 (by decide) : False).elim) (fun c_525 => ?_)
  refine lv_iload hx hb dL_isRefused_528 (lv_at hl 11 rfl) ?_
  refine lv_iconst (v := 4) hx hb dL_isRefused_530 (by decide) ?_
  refine lv_icmp_ne (tgt := 538) hx hb dL_isRefused_531 (by decide) (fun c_531 => ?_) (fun c_531 => (absurd c_531 (by decide) : False).elim)
  refine lv_iconst (v := 0) hx hb dL_isRefused_538 (by decide) ?_
  refine lv_istore (lv' := [(13, .int 0), (0, .ref (a 16)), (1, .ref at_), (2, .ref am), (3, .int 1), (4, .int 0), (5, .int 7), (6, .int 5), (7, .int 21), (8, .int 1), (9, .long 0), (11, .int 1), (12, .int 11)]) hx hb dL_isRefused_539 hl (by decide) rfl (fun ls hl => ?_)
  refine lv_iload hx hb dL_isRefused_541 (lv_at hl 12 rfl) ?_
  refine lv_bipush (v := 8) hx hb dL_isRefused_543 (by decide) ?_
  refine lv_icmp_eq (tgt := 555) hx hb dL_isRefused_545 (by decide) (fun c_545 => (absurd c_545 (by decide) : False).elim) (fun c_545 => ?_)
  refine lv_iload hx hb dL_isRefused_548 (lv_at hl 12 rfl) ?_
  refine lv_bipush (v := 10) hx hb dL_isRefused_550 (by decide) ?_
  refine lv_icmp_ne (tgt := 559) hx hb dL_isRefused_552 (by decide) (fun c_552 => ?_) (fun c_552 => (absurd c_552 (by decide) : False).elim)
  refine lv_iconst (v := 0) hx hb dL_isRefused_559 (by decide) ?_
  refine lv_istore (lv' := [(14, .int 0), (13, .int 0), (0, .ref (a 16)), (1, .ref at_), (2, .ref am), (3, .int 1), (4, .int 0), (5, .int 7), (6, .int 5), (7, .int 21), (8, .int 1), (9, .long 0), (11, .int 1), (12, .int 11)]) hx hb dL_isRefused_560 hl (by decide) rfl (fun ls hl => ?_)
  refine lv_aload_n hx hb dL_isRefused_562 rfl (lv_at hl 2 rfl) ?_
  refine lv_iload hx hb dL_isRefused_563 (lv_at hl 13 rfl) ?_
  refine lv_iload hx hb dL_isRefused_565 (lv_at hl 1 rfl) ?_
  refine lv_if_eq (tgt := 575) hx hb dL_isRefused_567 (by decide) (fun c_567 => ?_) (fun c_567 => (absurd (by decide) c_567 : False).elim)
  refine lv_iload hx hb dL_isRefused_575 (lv_at hl 0 rfl) ?_
  refine lv_if_eq (tgt := 585) hx hb dL_isRefused_577 (by decide) (fun c_577 => ?_) (fun c_577 => (absurd (by decide) c_577 : False).elim)
  refine lv_iload hx hb dL_isRefused_585 (lv_at hl 7 rfl) ?_
  refine lv_iconst (v := 0) hx hb dL_isRefused_587 (by decide) ?_
  refine lv_iconst (v := 0) hx hb dL_isRefused_588 (by decide) ?_
  refine Lq.callH (rest := []) (wr := [(am, .inl (cA, 7, .inl (fun _ => 0))), (ar, .inl (cA, 22, .inl Y))]) [0, 1, 2, 3, 4, 5, 6, 7, 8, 9, 10, 11, 12, 13] [14, 15] ⟨hx, hb, hml, hown, hts⟩ (b_L_of11 l hl9 D cA a F g 0 hz.1 7 0 0 (if_neg (by decide +kernel))) (vx_cwSW 5 hts gL_isRefused_L_of rfl rfl rfl (by decide +kernel) ⟨Nat.le_of_ble_eq_true rfl, Nat.le_of_ble_eq_true rfl⟩) hK hP hD hS hA hZ rfl rfl (by decide) (by decide) (by decide) rfl rfl hl.1 (Nat.le_of_ble_eq_true rfl) dL_isRefused_589 ⟨Nat.le_of_ble_eq_true rfl, Nat.le_of_ble_eq_true rfl⟩ (fun r9 u9 H locs hu9 hP hD hS hG9 => ?_)
  have hP : va_P D vwCl (wK a cA F g am ar Y) H := hP.sub [2, 3, 4, 5, 6, 7, 8, 9, 10, 11, 12, 13, 14, 15, 0, 1] rfl
  have hD : va_D A (wK a cA F g am ar Y) := hD.sub [2, 3, 4, 5, 6, 7, 8, 9, 10, 11, 12, 13, 14, 15, 0, 1] (by decide) rfl
  have hG : s.heap.size + 38 ≤ H.size := Nat.le_trans (Nat.add_le_add_right hG 1) hG9
  refine ri_top (-1100000001) hu9 ?_
  refine lv_ldc (own := RL) (index := 17) (v := -1100000001) hx hb hown (hts (.constant RL 17 (-1100000001)) (by decide +kernel)) dL_isRefused_592 ?_
  refine lv_icmp_ne (tgt := 659) hx hb dL_isRefused_594 (by decide) (fun c_594 => (absurd (by decide) c_594 : False).elim) (fun c_594 => ?_)
  refine lv_iload hx hb dL_isRefused_597 (lv_at hl 1 rfl) ?_
  refine lv_if_ne (tgt := 635) hx hb dL_isRefused_599 (by decide) (fun c_599 => (absurd (by decide) c_599 : False).elim) (fun c_599 => ?_)
  refine lv_iload hx hb dL_isRefused_602 (lv_at hl 13 rfl) ?_
  refine lv_bipush (v := 11) hx hb dL_isRefused_604 (by decide) ?_
  refine lv_icmp_eq (tgt := 635) hx hb dL_isRefused_606 (by decide) (fun c_606 => ?_) (fun c_606 => (absurd (by decide) c_606 : False).elim)
  refine lv_iload hx hb dL_isRefused_635 (lv_at hl 13 rfl) ?_
  refine lv_iconst (v := 2) hx hb dL_isRefused_637 (by decide) ?_
  refine lv_icmp_ne (tgt := 655) hx hb dL_isRefused_638 (by decide) (fun c_638 => ?_) (fun c_638 => (absurd c_638 (by decide) : False).elim)
  refine lv_iconst (v := 1) hx hb dL_isRefused_655 (by decide) ?_
  refine lv_goto (tgt := 660) hx hb dL_isRefused_656 (by decide) ?_
  refine lv_istore (lv' := [(11, .int 1), (14, .int 0), (13, .int 0), (0, .ref (a 16)), (1, .ref at_), (2, .ref am), (3, .int 1), (4, .int 0), (5, .int 7), (6, .int 5), (7, .int 21), (8, .int 1), (9, .long 0), (12, .int 11)]) hx hb dL_isRefused_660 hl (by decide) rfl (fun ls hl => ?_)
  refine lv_iinc (v := 12) (lv' := [(12, .int 12), (11, .int 1), (14, .int 0), (13, .int 0), (0, .ref (a 16)), (1, .ref at_), (2, .ref am), (3, .int 1), (4, .int 0), (5, .int 7), (6, .int 5), (7, .int 21), (8, .int 1), (9, .long 0)]) hx hb dL_isRefused_662 hl (k := 13) rfl ((by decide +kernel)) (by decide) rfl (fun ls hl => ?_)
  refine lv_goto (tgt := 504) hx hb dL_isRefused_665 (by decide) ?_
  exact KK _ _ _ _ hP hD hS hG (lv_sub hl [4, 5, 6, 7, 8, 9, 10, 11, 12, 13, 1, 0] rfl)

set_option maxHeartbeats 4000000 in
set_option maxRecDepth 100000 in
theorem rf1_c {p : Program} {l : Launch} (hl9 : l.stackTraces = false) {e : Env} {s : State} {m : MethodId} {args : Array Value} {below : List Frame} {meth : Method} {c : Code} {Q : State → Prop} {D : va_G} {cA : ClassId} {a : Nat → Nat} {F : Nat → Nat → Int32} {at_ am ar : Nat} {Y : Nat → Int32} (hz : zs F) {A : Nat → Prop} (hx : p.tables.exec = Jvm.exec) (hb : c.code = cL_isRefused) (hts : ∀ w ∈ wsL_isRefused, w.before args s = true) (hown : s.vm.findClass RL = some m.cls) (hml : c.maxLocals = 15) (hK : KA D cA s) (hA : ∀ q : Nat, s.heap.size ≤ q → A q) (hZ : ZY A s) (KK : ∀ (g : Nat → Int32) (H : Heap) (locs : List Loc) (ls : Array Slot), va_P D vwCl (wK a cA F g am ar Y) H → va_D A (wK a cA F g am ar Y) → va_S A s.heap H locs → s.heap.size + 38 ≤ H.size → lv_has ls 15 [(0, .ref (a 16)), (1, .ref at_), (2, .ref am), (3, .int 1), (4, .int 0), (5, .int 7), (6, .int 5), (7, .int 21), (8, .int 1), (9, .long 0), (11, .int 1), (12, .int 0)] → W p l e rmL_isRefused s m args below meth c H locs 38 228 Q (F0 m 725 ls [])) : ∀ (g : Nat → Int32) (H : Heap) (locs : List Loc) (ls : Array Slot), va_P D vwCl (wK a cA F g am ar Y) H → va_D A (wK a cA F g am ar Y) → va_S A s.heap H locs → s.heap.size + 38 ≤ H.size → lv_has ls 15 [(0, .ref (a 16)), (1, .ref at_), (2, .ref am), (3, .int 1), (4, .int 0), (5, .int 7), (6, .int 5), (7, .int 21), (8, .int 1), (9, .long 0), (11, .int 1), (12, .int 12)] → W p l e rmL_isRefused s m args below meth c H locs 38 228 Q (F0 m 504 ls []) := by
  intro g H locs ls hP hD hS hG hl
  refine lv_iload hx hb dL_isRefused_504 (lv_at hl 11 rfl) ?_
  refine lv_bipush (v := 12) hx hb dL_isRefused_506 (by decide) ?_
  refine lv_icmp_ge (tgt := 668) hx hb dL_isRefused_508 (by decide) (fun c_508 => ?_) (fun c_508 => (absurd (by decide) c_508 : False).elim)
  refine lv_iconst (v := 0) hx hb dL_isRefused_668 (by decide) ?_
  refine lv_istore (lv' := [(12, .int 0), (0, .ref (a 16)), (1, .ref at_), (2, .ref am), (3, .int 1), (4, .int 0), (5, .int 7), (6, .int 5), (7, .int 21), (8, .int 1), (9, .long 0), (11, .int 1)]) hx hb dL_isRefused_669 hl (by decide) rfl (fun ls hl => ?_)
  refine lv_iload hx hb dL_isRefused_671 (lv_at hl 0 rfl) ?_
  refine lv_aload_n hx hb dL_isRefused_673 rfl (lv_at hl 3 rfl) ?_
  refine lv_iconst (v := 0) hx hb dL_isRefused_674 (by decide) ?_
  refine ri_ald (j := 0) hx hb hK hP 14 rfl (rfl) (by decide) (by decide) dL_isRefused_675 ?_
  refine ri_top 0 rfl ?_
  refine lv_icmp_ge (tgt := 722) hx hb dL_isRefused_676 (by decide) (fun c_676 => ?_) (fun c_676 => (absurd (by decide) c_676 : False).elim)
  refine lv_iconst (v := 0) hx hb dL_isRefused_722 (by decide) ?_
  refine lv_istore (lv' := [(12, .int 0), (0, .ref (a 16)), (1, .ref at_), (2, .ref am), (3, .int 1), (4, .int 0), (5, .int 7), (6, .int 5), (7, .int 21), (8, .int 1), (9, .long 0), (11, .int 1)]) hx hb dL_isRefused_723 hl (by decide) rfl (fun ls hl => ?_)
  exact KK _ _ _ _ hP hD hS hG (lv_sub hl [1, 2, 3, 4, 5, 6, 7, 8, 9, 10, 11, 0] rfl)

set_option maxHeartbeats 4000000 in
set_option maxRecDepth 100000 in
theorem rf1_d0 {p : Program} {l : Launch} (hl9 : l.stackTraces = false) {e : Env} {s : State} {m : MethodId} {args : Array Value} {below : List Frame} {meth : Method} {c : Code} {Q : State → Prop} {D : va_G} {cA : ClassId} {a : Nat → Nat} {F : Nat → Nat → Int32} {at_ am ar : Nat} {Y : Nat → Int32} (hz : zs F) {A : Nat → Prop} (hx : p.tables.exec = Jvm.exec) (hb : c.code = cL_isRefused) (hts : ∀ w ∈ wsL_isRefused, w.before args s = true) (hown : s.vm.findClass RL = some m.cls) (hml : c.maxLocals = 15) (hK : KA D cA s) (hA : ∀ q : Nat, s.heap.size ≤ q → A q) (hZ : ZY A s) (KK : ∀ (g : Nat → Int32) (H : Heap) (locs : List Loc) (ls : Array Slot), va_P D vwCl (wK a cA F g am ar Y) H → va_D A (wK a cA F g am ar Y) → va_S A s.heap H locs → s.heap.size + 39 ≤ H.size → lv_has ls 15 [(0, .ref (a 16)), (1, .ref at_), (2, .ref am), (3, .int 1), (4, .int 0), (5, .int 7), (6, .int 5), (7, .int 21), (8, .int 1), (9, .long 0), (11, .int 1), (12, .int 1)] → W p l e rmL_isRefused s m args below meth c H locs 39 234 Q (F0 m 725 ls [])) : ∀ (g : Nat → Int32) (H : Heap) (locs : List Loc) (ls : Array Slot), va_P D vwCl (wK a cA F g am ar Y) H → va_D A (wK a cA F g am ar Y) → va_S A s.heap H locs → s.heap.size + 38 ≤ H.size → lv_has ls 15 [(0, .ref (a 16)), (1, .ref at_), (2, .ref am), (3, .int 1), (4, .int 0), (5, .int 7), (6, .int 5), (7, .int 21), (8, .int 1), (9, .long 0), (11, .int 1), (12, .int 0)] → W p l e rmL_isRefused s m args below meth c H locs 38 228 Q (F0 m 725 ls []) := by
  intro g H locs ls hP hD hS hG hl
  refine lv_iload hx hb dL_isRefused_725 (lv_at hl 11 rfl) ?_
  refine lv_bipush (v := 6) hx hb dL_isRefused_727 (by decide) ?_
  refine lv_icmp_ge (tgt := 784) hx hb dL_isRefused_729 (by decide) (fun c_729 => (absurd c_729 (by decide) : False).elim) (fun c_729 => ?_)
  refine lv_iload hx hb dL_isRefused_732 (lv_at hl 10 rfl) ?_
  refine lv_if_eq (tgt := 784) hx hb dL_isRefused_734 (by decide) (fun c_734 => (absurd c_734 (by decide) : False).elim) (fun c_734 => ?_)
  refine lv_aload_n hx hb dL_isRefused_737 rfl (lv_at hl 0 rfl) ?_
  refine lv_iload hx hb dL_isRefused_738 (lv_at hl 11 rfl) ?_
  refine Rd.callV (rest := []) (q0 := 0) (ci := 0) ⟨hx, hb, hml, hown, hts⟩ (c_X0_holiday l D cA a F g 0 hz.1 0 (by decide)) (cwV 1 hts gL_isRefused_X0_holiday rfl rfl rfl (by decide +kernel) ⟨Nat.le_of_ble_eq_true rfl, Nat.le_of_ble_eq_true rfl⟩) hK (hP.sub [0, 1, 2, 3, 4, 5, 6, 7, 8, 9, 10, 11, 12, 13] rfl : va_P D vwCl (wX a cA F g) _) rfl rfl rfl rfl rfl hl.1 (Nat.le_of_ble_eq_true rfl) dL_isRefused_740 ⟨Nat.le_of_ble_eq_true rfl, Nat.le_of_ble_eq_true rfl⟩ ?_
  refine ri_top 0 (hol0 hz _ _) ?_
  refine lv_istore (lv' := [(13, .int 0), (0, .ref (a 16)), (1, .ref at_), (2, .ref am), (3, .int 1), (4, .int 0), (5, .int 7), (6, .int 5), (7, .int 21), (8, .int 1), (9, .long 0), (11, .int 1), (12, .int 0)]) hx hb dL_isRefused_743 hl (by decide) rfl (fun ls hl => ?_)
  refine lv_iload hx hb dL_isRefused_745 (lv_at hl 0 rfl) ?_
  refine lv_sipush (v := 9999) hx hb dL_isRefused_747 (by decide) ?_
  refine lv_icmp_gt (tgt := 771) hx hb dL_isRefused_750 (by decide) (fun c_750 => (absurd c_750 (by decide) : False).elim) (fun c_750 => ?_)
  refine lv_aload_n hx hb dL_isRefused_753 rfl (lv_at hl 1 rfl) ?_
  refine lv_iconst (v := 3) hx hb dL_isRefused_754 (by decide) ?_
  refine lv_iload hx hb dL_isRefused_755 (lv_at hl 12 rfl) ?_
  refine lv_iload hx hb dL_isRefused_757 (lv_at hl 0 rfl) ?_
  refine lv_iconst (v := 1) hx hb dL_isRefused_759 (by decide) ?_
  refine lv_iadd hx hb dL_isRefused_760 ?_
  refine ri_top 1 (by decide +kernel) ?_
  refine lv_iconst (v := 0) hx hb dL_isRefused_761 (by decide) ?_
  refine lv_iconst (v := 0) hx hb dL_isRefused_762 (by decide) ?_
  refine Lq.callH (rest := []) (wr := [(am, .inl (cA, 7, .inl (fun _ => 0))), (ar, .inl (cA, 22, .inl Y))]) [0, 1, 2, 3, 4, 5, 6, 7, 8, 9, 10, 11, 12, 13] [14, 15] ⟨hx, hb, hml, hown, hts⟩ (b_L_act3_3 l hl9 D cA a F g 0 hz.1 0 1 0 0 ((if_pos (by decide +kernel)).trans ((if_pos (by decide +kernel)).trans (if_neg (tk0 hz _ _))))) (vx_cwSW 6 hts gL_isRefused_L_act rfl rfl rfl (by decide +kernel) ⟨Nat.le_of_ble_eq_true rfl, Nat.le_of_ble_eq_true rfl⟩) hK hP hD hS hA hZ rfl rfl (by decide) (by decide) (by decide) rfl rfl hl.1 (Nat.le_of_ble_eq_true rfl) dL_isRefused_763 ⟨Nat.le_of_ble_eq_true rfl, Nat.le_of_ble_eq_true rfl⟩ (fun r9 u9 H locs hu9 hP hD hS hG9 => ?_)
  have hP : va_P D vwCl (wK a cA F g am ar Y) H := hP.sub [2, 3, 4, 5, 6, 7, 8, 9, 10, 11, 12, 13, 14, 15, 0, 1] rfl
  have hD : va_D A (wK a cA F g am ar Y) := hD.sub [2, 3, 4, 5, 6, 7, 8, 9, 10, 11, 12, 13, 14, 15, 0, 1] (by decide) rfl
  have hG : s.heap.size + 39 ≤ H.size := Nat.le_trans (Nat.add_le_add_right hG 1) hG9
  refine ri_top (-1100000003) hu9 ?_
  refine lv_ldc (own := RL) (index := 46) (v := -1100000003) hx hb hown (hts (.constant RL 46 (-1100000003)) (by decide +kernel)) dL_isRefused_766 ?_
  refine lv_icmp_ne (tgt := 775) hx hb dL_isRefused_768 (by decide) (fun c_768 => (absurd (by decide) c_768 : False).elim) (fun c_768 => ?_)
  refine lv_iconst (v := 1) hx hb dL_isRefused_771 (by decide) ?_
  refine lv_goto (tgt := 776) hx hb dL_isRefused_772 (by decide) ?_
  refine lv_istore (lv' := [(11, .int 1), (13, .int 0), (0, .ref (a 16)), (1, .ref at_), (2, .ref am), (3, .int 1), (4, .int 0), (5, .int 7), (6, .int 5), (7, .int 21), (8, .int 1), (9, .long 0), (12, .int 0)]) hx hb dL_isRefused_776 hl (by decide) rfl (fun ls hl => ?_)
  refine lv_iinc (v := 1) (lv' := [(12, .int 1), (11, .int 1), (13, .int 0), (0, .ref (a 16)), (1, .ref at_), (2, .ref am), (3, .int 1), (4, .int 0), (5, .int 7), (6, .int 5), (7, .int 21), (8, .int 1), (9, .long 0)]) hx hb dL_isRefused_778 hl (k := 12) rfl ((by decide +kernel)) (by decide) rfl (fun ls hl => ?_)
  refine lv_goto (tgt := 725) hx hb dL_isRefused_781 (by decide) ?_
  exact KK _ _ _ _ hP hD hS hG (lv_sub hl [3, 4, 5, 6, 7, 8, 9, 10, 11, 12, 1, 0] rfl)

set_option maxHeartbeats 4000000 in
set_option maxRecDepth 100000 in
theorem rf1_d1 {p : Program} {l : Launch} (hl9 : l.stackTraces = false) {e : Env} {s : State} {m : MethodId} {args : Array Value} {below : List Frame} {meth : Method} {c : Code} {Q : State → Prop} {D : va_G} {cA : ClassId} {a : Nat → Nat} {F : Nat → Nat → Int32} {at_ am ar : Nat} {Y : Nat → Int32} (hz : zs F) {A : Nat → Prop} (hx : p.tables.exec = Jvm.exec) (hb : c.code = cL_isRefused) (hts : ∀ w ∈ wsL_isRefused, w.before args s = true) (hown : s.vm.findClass RL = some m.cls) (hml : c.maxLocals = 15) (hK : KA D cA s) (hA : ∀ q : Nat, s.heap.size ≤ q → A q) (hZ : ZY A s) (KK : ∀ (g : Nat → Int32) (H : Heap) (locs : List Loc) (ls : Array Slot), va_P D vwCl (wK a cA F g am ar Y) H → va_D A (wK a cA F g am ar Y) → va_S A s.heap H locs → s.heap.size + 40 ≤ H.size → lv_has ls 15 [(0, .ref (a 16)), (1, .ref at_), (2, .ref am), (3, .int 1), (4, .int 0), (5, .int 7), (6, .int 5), (7, .int 21), (8, .int 1), (9, .long 0), (11, .int 1), (12, .int 2)] → W p l e rmL_isRefused s m args below meth c H locs 40 240 Q (F0 m 725 ls [])) : ∀ (g : Nat → Int32) (H : Heap) (locs : List Loc) (ls : Array Slot), va_P D vwCl (wK a cA F g am ar Y) H → va_D A (wK a cA F g am ar Y) → va_S A s.heap H locs → s.heap.size + 39 ≤ H.size → lv_has ls 15 [(0, .ref (a 16)), (1, .ref at_), (2, .ref am), (3, .int 1), (4, .int 0), (5, .int 7), (6, .int 5), (7, .int 21), (8, .int 1), (9, .long 0), (11, .int 1), (12, .int 1)] → W p l e rmL_isRefused s m args below meth c H locs 39 234 Q (F0 m 725 ls []) := by
  intro g H locs ls hP hD hS hG hl
  refine lv_iload hx hb dL_isRefused_725 (lv_at hl 11 rfl) ?_
  refine lv_bipush (v := 6) hx hb dL_isRefused_727 (by decide) ?_
  refine lv_icmp_ge (tgt := 784) hx hb dL_isRefused_729 (by decide) (fun c_729 => (absurd c_729 (by decide) : False).elim) (fun c_729 => ?_)
  refine lv_iload hx hb dL_isRefused_732 (lv_at hl 10 rfl) ?_
  refine lv_if_eq (tgt := 784) hx hb dL_isRefused_734 (by decide) (fun c_734 => (absurd c_734 (by decide) : False).elim) (fun c_734 => ?_)
  refine lv_aload_n hx hb dL_isRefused_737 rfl (lv_at hl 0 rfl) ?_
  refine lv_iload hx hb dL_isRefused_738 (lv_at hl 11 rfl) ?_
  refine Rd.callV (rest := []) (q0 := 0) (ci := 0) ⟨hx, hb, hml, hown, hts⟩ (c_X0_holiday l D cA a F g 0 hz.1 1 (by decide)) (cwV 1 hts gL_isRefused_X0_holiday rfl rfl rfl (by decide +kernel) ⟨Nat.le_of_ble_eq_true rfl, Nat.le_of_ble_eq_true rfl⟩) hK (hP.sub [0, 1, 2, 3, 4, 5, 6, 7, 8, 9, 10, 11, 12, 13] rfl : va_P D vwCl (wX a cA F g) _) rfl rfl rfl rfl rfl hl.1 (Nat.le_of_ble_eq_true rfl) dL_isRefused_740 ⟨Nat.le_of_ble_eq_true rfl, Nat.le_of_ble_eq_true rfl⟩ ?_
  refine ri_top 0 (hol0 hz _ _) ?_
  refine lv_istore (lv' := [(13, .int 0), (0, .ref (a 16)), (1, .ref at_), (2, .ref am), (3, .int 1), (4, .int 0), (5, .int 7), (6, .int 5), (7, .int 21), (8, .int 1), (9, .long 0), (11, .int 1), (12, .int 1)]) hx hb dL_isRefused_743 hl (by decide) rfl (fun ls hl => ?_)
  refine lv_iload hx hb dL_isRefused_745 (lv_at hl 0 rfl) ?_
  refine lv_sipush (v := 9999) hx hb dL_isRefused_747 (by decide) ?_
  refine lv_icmp_gt (tgt := 771) hx hb dL_isRefused_750 (by decide) (fun c_750 => (absurd c_750 (by decide) : False).elim) (fun c_750 => ?_)
  refine lv_aload_n hx hb dL_isRefused_753 rfl (lv_at hl 1 rfl) ?_
  refine lv_iconst (v := 3) hx hb dL_isRefused_754 (by decide) ?_
  refine lv_iload hx hb dL_isRefused_755 (lv_at hl 12 rfl) ?_
  refine lv_iload hx hb dL_isRefused_757 (lv_at hl 0 rfl) ?_
  refine lv_iconst (v := 1) hx hb dL_isRefused_759 (by decide) ?_
  refine lv_iadd hx hb dL_isRefused_760 ?_
  refine ri_top 1 (by decide +kernel) ?_
  refine lv_iconst (v := 0) hx hb dL_isRefused_761 (by decide) ?_
  refine lv_iconst (v := 0) hx hb dL_isRefused_762 (by decide) ?_
  refine Lq.callH (rest := []) (wr := [(am, .inl (cA, 7, .inl (fun _ => 0))), (ar, .inl (cA, 22, .inl Y))]) [0, 1, 2, 3, 4, 5, 6, 7, 8, 9, 10, 11, 12, 13] [14, 15] ⟨hx, hb, hml, hown, hts⟩ (b_L_act3_3 l hl9 D cA a F g 0 hz.1 1 1 0 0 ((if_pos (by decide +kernel)).trans ((if_pos (by decide +kernel)).trans (if_neg (tk0 hz _ _))))) (vx_cwSW 6 hts gL_isRefused_L_act rfl rfl rfl (by decide +kernel) ⟨Nat.le_of_ble_eq_true rfl, Nat.le_of_ble_eq_true rfl⟩) hK hP hD hS hA hZ rfl rfl (by decide) (by decide) (by decide) rfl rfl hl.1 (Nat.le_of_ble_eq_true rfl) dL_isRefused_763 ⟨Nat.le_of_ble_eq_true rfl, Nat.le_of_ble_eq_true rfl⟩ (fun r9 u9 H locs hu9 hP hD hS hG9 => ?_)
  have hP : va_P D vwCl (wK a cA F g am ar Y) H := hP.sub [2, 3, 4, 5, 6, 7, 8, 9, 10, 11, 12, 13, 14, 15, 0, 1] rfl
  have hD : va_D A (wK a cA F g am ar Y) := hD.sub [2, 3, 4, 5, 6, 7, 8, 9, 10, 11, 12, 13, 14, 15, 0, 1] (by decide) rfl
  have hG : s.heap.size + 40 ≤ H.size := Nat.le_trans (Nat.add_le_add_right hG 1) hG9
  refine ri_top (-1100000003) hu9 ?_
  refine lv_ldc (own := RL) (index := 46) (v := -1100000003) hx hb hown (hts (.constant RL 46 (-1100000003)) (by decide +kernel)) dL_isRefused_766 ?_
  refine lv_icmp_ne (tgt := 775) hx hb dL_isRefused_768 (by decide) (fun c_768 => (absurd (by decide) c_768 : False).elim) (fun c_768 => ?_)
  refine lv_iconst (v := 1) hx hb dL_isRefused_771 (by decide) ?_
  refine lv_goto (tgt := 776) hx hb dL_isRefused_772 (by decide) ?_
  refine lv_istore (lv' := [(11, .int 1), (13, .int 0), (0, .ref (a 16)), (1, .ref at_), (2, .ref am), (3, .int 1), (4, .int 0), (5, .int 7), (6, .int 5), (7, .int 21), (8, .int 1), (9, .long 0), (12, .int 1)]) hx hb dL_isRefused_776 hl (by decide) rfl (fun ls hl => ?_)
  refine lv_iinc (v := 2) (lv' := [(12, .int 2), (11, .int 1), (13, .int 0), (0, .ref (a 16)), (1, .ref at_), (2, .ref am), (3, .int 1), (4, .int 0), (5, .int 7), (6, .int 5), (7, .int 21), (8, .int 1), (9, .long 0)]) hx hb dL_isRefused_778 hl (k := 12) rfl ((by decide +kernel)) (by decide) rfl (fun ls hl => ?_)
  refine lv_goto (tgt := 725) hx hb dL_isRefused_781 (by decide) ?_
  exact KK _ _ _ _ hP hD hS hG (lv_sub hl [3, 4, 5, 6, 7, 8, 9, 10, 11, 12, 1, 0] rfl)

set_option maxHeartbeats 4000000 in
set_option maxRecDepth 100000 in
theorem rf1_d2 {p : Program} {l : Launch} (hl9 : l.stackTraces = false) {e : Env} {s : State} {m : MethodId} {args : Array Value} {below : List Frame} {meth : Method} {c : Code} {Q : State → Prop} {D : va_G} {cA : ClassId} {a : Nat → Nat} {F : Nat → Nat → Int32} {at_ am ar : Nat} {Y : Nat → Int32} (hz : zs F) {A : Nat → Prop} (hx : p.tables.exec = Jvm.exec) (hb : c.code = cL_isRefused) (hts : ∀ w ∈ wsL_isRefused, w.before args s = true) (hown : s.vm.findClass RL = some m.cls) (hml : c.maxLocals = 15) (hK : KA D cA s) (hA : ∀ q : Nat, s.heap.size ≤ q → A q) (hZ : ZY A s) (KK : ∀ (g : Nat → Int32) (H : Heap) (locs : List Loc) (ls : Array Slot), va_P D vwCl (wK a cA F g am ar Y) H → va_D A (wK a cA F g am ar Y) → va_S A s.heap H locs → s.heap.size + 41 ≤ H.size → lv_has ls 15 [(0, .ref (a 16)), (1, .ref at_), (2, .ref am), (3, .int 1), (4, .int 0), (5, .int 7), (6, .int 5), (7, .int 21), (8, .int 1), (9, .long 0), (11, .int 1), (12, .int 3)] → W p l e rmL_isRefused s m args below meth c H locs 41 246 Q (F0 m 725 ls [])) : ∀ (g : Nat → Int32) (H : Heap) (locs : List Loc) (ls : Array Slot), va_P D vwCl (wK a cA F g am ar Y) H → va_D A (wK a cA F g am ar Y) → va_S A s.heap H locs → s.heap.size + 40 ≤ H.size → lv_has ls 15 [(0, .ref (a 16)), (1, .ref at_), (2, .ref am), (3, .int 1), (4, .int 0), (5, .int 7), (6, .int 5), (7, .int 21), (8, .int 1), (9, .long 0), (11, .int 1), (12, .int 2)] → W p l e rmL_isRefused s m args below meth c H locs 40 240 Q (F0 m 725 ls []) := by
  intro g H locs ls hP hD hS hG hl
  refine lv_iload hx hb dL_isRefused_725 (lv_at hl 11 rfl) ?_
  refine lv_bipush (v := 6) hx hb dL_isRefused_727 (by decide) ?_
  refine lv_icmp_ge (tgt := 784) hx hb dL_isRefused_729 (by decide) (fun c_729 => (absurd c_729 (by decide) : False).elim) (fun c_729 => ?_)
  refine lv_iload hx hb dL_isRefused_732 (lv_at hl 10 rfl) ?_
  refine lv_if_eq (tgt := 784) hx hb dL_isRefused_734 (by decide) (fun c_734 => (absurd c_734 (by decide) : False).elim) (fun c_734 => ?_)
  refine lv_aload_n hx hb dL_isRefused_737 rfl (lv_at hl 0 rfl) ?_
  refine lv_iload hx hb dL_isRefused_738 (lv_at hl 11 rfl) ?_
  refine Rd.callV (rest := []) (q0 := 0) (ci := 0) ⟨hx, hb, hml, hown, hts⟩ (c_X0_holiday l D cA a F g 0 hz.1 2 (by decide)) (cwV 1 hts gL_isRefused_X0_holiday rfl rfl rfl (by decide +kernel) ⟨Nat.le_of_ble_eq_true rfl, Nat.le_of_ble_eq_true rfl⟩) hK (hP.sub [0, 1, 2, 3, 4, 5, 6, 7, 8, 9, 10, 11, 12, 13] rfl : va_P D vwCl (wX a cA F g) _) rfl rfl rfl rfl rfl hl.1 (Nat.le_of_ble_eq_true rfl) dL_isRefused_740 ⟨Nat.le_of_ble_eq_true rfl, Nat.le_of_ble_eq_true rfl⟩ ?_
  refine ri_top 0 (hol0 hz _ _) ?_
  refine lv_istore (lv' := [(13, .int 0), (0, .ref (a 16)), (1, .ref at_), (2, .ref am), (3, .int 1), (4, .int 0), (5, .int 7), (6, .int 5), (7, .int 21), (8, .int 1), (9, .long 0), (11, .int 1), (12, .int 2)]) hx hb dL_isRefused_743 hl (by decide) rfl (fun ls hl => ?_)
  refine lv_iload hx hb dL_isRefused_745 (lv_at hl 0 rfl) ?_
  refine lv_sipush (v := 9999) hx hb dL_isRefused_747 (by decide) ?_
  refine lv_icmp_gt (tgt := 771) hx hb dL_isRefused_750 (by decide) (fun c_750 => (absurd c_750 (by decide) : False).elim) (fun c_750 => ?_)
  refine lv_aload_n hx hb dL_isRefused_753 rfl (lv_at hl 1 rfl) ?_
  refine lv_iconst (v := 3) hx hb dL_isRefused_754 (by decide) ?_
  refine lv_iload hx hb dL_isRefused_755 (lv_at hl 12 rfl) ?_
  refine lv_iload hx hb dL_isRefused_757 (lv_at hl 0 rfl) ?_
  refine lv_iconst (v := 1) hx hb dL_isRefused_759 (by decide) ?_
  refine lv_iadd hx hb dL_isRefused_760 ?_
  refine ri_top 1 (by decide +kernel) ?_
  refine lv_iconst (v := 0) hx hb dL_isRefused_761 (by decide) ?_
  refine lv_iconst (v := 0) hx hb dL_isRefused_762 (by decide) ?_
  refine Lq.callH (rest := []) (wr := [(am, .inl (cA, 7, .inl (fun _ => 0))), (ar, .inl (cA, 22, .inl Y))]) [0, 1, 2, 3, 4, 5, 6, 7, 8, 9, 10, 11, 12, 13] [14, 15] ⟨hx, hb, hml, hown, hts⟩ (b_L_act3_3 l hl9 D cA a F g 0 hz.1 2 1 0 0 ((if_pos (by decide +kernel)).trans ((if_pos (by decide +kernel)).trans (if_neg (tk0 hz _ _))))) (vx_cwSW 6 hts gL_isRefused_L_act rfl rfl rfl (by decide +kernel) ⟨Nat.le_of_ble_eq_true rfl, Nat.le_of_ble_eq_true rfl⟩) hK hP hD hS hA hZ rfl rfl (by decide) (by decide) (by decide) rfl rfl hl.1 (Nat.le_of_ble_eq_true rfl) dL_isRefused_763 ⟨Nat.le_of_ble_eq_true rfl, Nat.le_of_ble_eq_true rfl⟩ (fun r9 u9 H locs hu9 hP hD hS hG9 => ?_)
  have hP : va_P D vwCl (wK a cA F g am ar Y) H := hP.sub [2, 3, 4, 5, 6, 7, 8, 9, 10, 11, 12, 13, 14, 15, 0, 1] rfl
  have hD : va_D A (wK a cA F g am ar Y) := hD.sub [2, 3, 4, 5, 6, 7, 8, 9, 10, 11, 12, 13, 14, 15, 0, 1] (by decide) rfl
  have hG : s.heap.size + 41 ≤ H.size := Nat.le_trans (Nat.add_le_add_right hG 1) hG9
  refine ri_top (-1100000003) hu9 ?_
  refine lv_ldc (own := RL) (index := 46) (v := -1100000003) hx hb hown (hts (.constant RL 46 (-1100000003)) (by decide +kernel)) dL_isRefused_766 ?_
  refine lv_icmp_ne (tgt := 775) hx hb dL_isRefused_768 (by decide) (fun c_768 => (absurd (by decide) c_768 : False).elim) (fun c_768 => ?_)
  refine lv_iconst (v := 1) hx hb dL_isRefused_771 (by decide) ?_
  refine lv_goto (tgt := 776) hx hb dL_isRefused_772 (by decide) ?_
  refine lv_istore (lv' := [(11, .int 1), (13, .int 0), (0, .ref (a 16)), (1, .ref at_), (2, .ref am), (3, .int 1), (4, .int 0), (5, .int 7), (6, .int 5), (7, .int 21), (8, .int 1), (9, .long 0), (12, .int 2)]) hx hb dL_isRefused_776 hl (by decide) rfl (fun ls hl => ?_)
  refine lv_iinc (v := 3) (lv' := [(12, .int 3), (11, .int 1), (13, .int 0), (0, .ref (a 16)), (1, .ref at_), (2, .ref am), (3, .int 1), (4, .int 0), (5, .int 7), (6, .int 5), (7, .int 21), (8, .int 1), (9, .long 0)]) hx hb dL_isRefused_778 hl (k := 12) rfl ((by decide +kernel)) (by decide) rfl (fun ls hl => ?_)
  refine lv_goto (tgt := 725) hx hb dL_isRefused_781 (by decide) ?_
  exact KK _ _ _ _ hP hD hS hG (lv_sub hl [3, 4, 5, 6, 7, 8, 9, 10, 11, 12, 1, 0] rfl)

set_option maxHeartbeats 4000000 in
set_option maxRecDepth 100000 in
theorem rf1_d3 {p : Program} {l : Launch} (hl9 : l.stackTraces = false) {e : Env} {s : State} {m : MethodId} {args : Array Value} {below : List Frame} {meth : Method} {c : Code} {Q : State → Prop} {D : va_G} {cA : ClassId} {a : Nat → Nat} {F : Nat → Nat → Int32} {at_ am ar : Nat} {Y : Nat → Int32} (hz : zs F) {A : Nat → Prop} (hx : p.tables.exec = Jvm.exec) (hb : c.code = cL_isRefused) (hts : ∀ w ∈ wsL_isRefused, w.before args s = true) (hown : s.vm.findClass RL = some m.cls) (hml : c.maxLocals = 15) (hK : KA D cA s) (hA : ∀ q : Nat, s.heap.size ≤ q → A q) (hZ : ZY A s) (KK : ∀ (g : Nat → Int32) (H : Heap) (locs : List Loc) (ls : Array Slot), va_P D vwCl (wK a cA F g am ar Y) H → va_D A (wK a cA F g am ar Y) → va_S A s.heap H locs → s.heap.size + 42 ≤ H.size → lv_has ls 15 [(0, .ref (a 16)), (1, .ref at_), (2, .ref am), (3, .int 1), (4, .int 0), (5, .int 7), (6, .int 5), (7, .int 21), (8, .int 1), (9, .long 0), (11, .int 1), (12, .int 4)] → W p l e rmL_isRefused s m args below meth c H locs 42 252 Q (F0 m 725 ls [])) : ∀ (g : Nat → Int32) (H : Heap) (locs : List Loc) (ls : Array Slot), va_P D vwCl (wK a cA F g am ar Y) H → va_D A (wK a cA F g am ar Y) → va_S A s.heap H locs → s.heap.size + 41 ≤ H.size → lv_has ls 15 [(0, .ref (a 16)), (1, .ref at_), (2, .ref am), (3, .int 1), (4, .int 0), (5, .int 7), (6, .int 5), (7, .int 21), (8, .int 1), (9, .long 0), (11, .int 1), (12, .int 3)] → W p l e rmL_isRefused s m args below meth c H locs 41 246 Q (F0 m 725 ls []) := by
  intro g H locs ls hP hD hS hG hl
  refine lv_iload hx hb dL_isRefused_725 (lv_at hl 11 rfl) ?_
  refine lv_bipush (v := 6) hx hb dL_isRefused_727 (by decide) ?_
  refine lv_icmp_ge (tgt := 784) hx hb dL_isRefused_729 (by decide) (fun c_729 => (absurd c_729 (by decide) : False).elim) (fun c_729 => ?_)
  refine lv_iload hx hb dL_isRefused_732 (lv_at hl 10 rfl) ?_
  refine lv_if_eq (tgt := 784) hx hb dL_isRefused_734 (by decide) (fun c_734 => (absurd c_734 (by decide) : False).elim) (fun c_734 => ?_)
  refine lv_aload_n hx hb dL_isRefused_737 rfl (lv_at hl 0 rfl) ?_
  refine lv_iload hx hb dL_isRefused_738 (lv_at hl 11 rfl) ?_
  refine Rd.callV (rest := []) (q0 := 0) (ci := 0) ⟨hx, hb, hml, hown, hts⟩ (c_X0_holiday l D cA a F g 0 hz.1 3 (by decide)) (cwV 1 hts gL_isRefused_X0_holiday rfl rfl rfl (by decide +kernel) ⟨Nat.le_of_ble_eq_true rfl, Nat.le_of_ble_eq_true rfl⟩) hK (hP.sub [0, 1, 2, 3, 4, 5, 6, 7, 8, 9, 10, 11, 12, 13] rfl : va_P D vwCl (wX a cA F g) _) rfl rfl rfl rfl rfl hl.1 (Nat.le_of_ble_eq_true rfl) dL_isRefused_740 ⟨Nat.le_of_ble_eq_true rfl, Nat.le_of_ble_eq_true rfl⟩ ?_
  refine ri_top 0 (hol0 hz _ _) ?_
  refine lv_istore (lv' := [(13, .int 0), (0, .ref (a 16)), (1, .ref at_), (2, .ref am), (3, .int 1), (4, .int 0), (5, .int 7), (6, .int 5), (7, .int 21), (8, .int 1), (9, .long 0), (11, .int 1), (12, .int 3)]) hx hb dL_isRefused_743 hl (by decide) rfl (fun ls hl => ?_)
  refine lv_iload hx hb dL_isRefused_745 (lv_at hl 0 rfl) ?_
  refine lv_sipush (v := 9999) hx hb dL_isRefused_747 (by decide) ?_
  refine lv_icmp_gt (tgt := 771) hx hb dL_isRefused_750 (by decide) (fun c_750 => (absurd c_750 (by decide) : False).elim) (fun c_750 => ?_)
  refine lv_aload_n hx hb dL_isRefused_753 rfl (lv_at hl 1 rfl) ?_
  refine lv_iconst (v := 3) hx hb dL_isRefused_754 (by decide) ?_
  refine lv_iload hx hb dL_isRefused_755 (lv_at hl 12 rfl) ?_
  refine lv_iload hx hb dL_isRefused_757 (lv_at hl 0 rfl) ?_
  refine lv_iconst (v := 1) hx hb dL_isRefused_759 (by decide) ?_
  refine lv_iadd hx hb dL_isRefused_760 ?_
  refine ri_top 1 (by decide +kernel) ?_
  refine lv_iconst (v := 0) hx hb dL_isRefused_761 (by decide) ?_
  refine lv_iconst (v := 0) hx hb dL_isRefused_762 (by decide) ?_
  refine Lq.callH (rest := []) (wr := [(am, .inl (cA, 7, .inl (fun _ => 0))), (ar, .inl (cA, 22, .inl Y))]) [0, 1, 2, 3, 4, 5, 6, 7, 8, 9, 10, 11, 12, 13] [14, 15] ⟨hx, hb, hml, hown, hts⟩ (b_L_act3_3 l hl9 D cA a F g 0 hz.1 3 1 0 0 ((if_pos (by decide +kernel)).trans ((if_pos (by decide +kernel)).trans (if_neg (tk0 hz _ _))))) (vx_cwSW 6 hts gL_isRefused_L_act rfl rfl rfl (by decide +kernel) ⟨Nat.le_of_ble_eq_true rfl, Nat.le_of_ble_eq_true rfl⟩) hK hP hD hS hA hZ rfl rfl (by decide) (by decide) (by decide) rfl rfl hl.1 (Nat.le_of_ble_eq_true rfl) dL_isRefused_763 ⟨Nat.le_of_ble_eq_true rfl, Nat.le_of_ble_eq_true rfl⟩ (fun r9 u9 H locs hu9 hP hD hS hG9 => ?_)
  have hP : va_P D vwCl (wK a cA F g am ar Y) H := hP.sub [2, 3, 4, 5, 6, 7, 8, 9, 10, 11, 12, 13, 14, 15, 0, 1] rfl
  have hD : va_D A (wK a cA F g am ar Y) := hD.sub [2, 3, 4, 5, 6, 7, 8, 9, 10, 11, 12, 13, 14, 15, 0, 1] (by decide) rfl
  have hG : s.heap.size + 42 ≤ H.size := Nat.le_trans (Nat.add_le_add_right hG 1) hG9
  refine ri_top (-1100000003) hu9 ?_
  refine lv_ldc (own := RL) (index := 46) (v := -1100000003) hx hb hown (hts (.constant RL 46 (-1100000003)) (by decide +kernel)) dL_isRefused_766 ?_
  refine lv_icmp_ne (tgt := 775) hx hb dL_isRefused_768 (by decide) (fun c_768 => (absurd (by decide) c_768 : False).elim) (fun c_768 => ?_)
  refine lv_iconst (v := 1) hx hb dL_isRefused_771 (by decide) ?_
  refine lv_goto (tgt := 776) hx hb dL_isRefused_772 (by decide) ?_
  refine lv_istore (lv' := [(11, .int 1), (13, .int 0), (0, .ref (a 16)), (1, .ref at_), (2, .ref am), (3, .int 1), (4, .int 0), (5, .int 7), (6, .int 5), (7, .int 21), (8, .int 1), (9, .long 0), (12, .int 3)]) hx hb dL_isRefused_776 hl (by decide) rfl (fun ls hl => ?_)
  refine lv_iinc (v := 4) (lv' := [(12, .int 4), (11, .int 1), (13, .int 0), (0, .ref (a 16)), (1, .ref at_), (2, .ref am), (3, .int 1), (4, .int 0), (5, .int 7), (6, .int 5), (7, .int 21), (8, .int 1), (9, .long 0)]) hx hb dL_isRefused_778 hl (k := 12) rfl ((by decide +kernel)) (by decide) rfl (fun ls hl => ?_)
  refine lv_goto (tgt := 725) hx hb dL_isRefused_781 (by decide) ?_
  exact KK _ _ _ _ hP hD hS hG (lv_sub hl [3, 4, 5, 6, 7, 8, 9, 10, 11, 12, 1, 0] rfl)

set_option maxHeartbeats 4000000 in
set_option maxRecDepth 100000 in
theorem rf1_d4 {p : Program} {l : Launch} (hl9 : l.stackTraces = false) {e : Env} {s : State} {m : MethodId} {args : Array Value} {below : List Frame} {meth : Method} {c : Code} {Q : State → Prop} {D : va_G} {cA : ClassId} {a : Nat → Nat} {F : Nat → Nat → Int32} {at_ am ar : Nat} {Y : Nat → Int32} (hz : zs F) {A : Nat → Prop} (hx : p.tables.exec = Jvm.exec) (hb : c.code = cL_isRefused) (hts : ∀ w ∈ wsL_isRefused, w.before args s = true) (hown : s.vm.findClass RL = some m.cls) (hml : c.maxLocals = 15) (hK : KA D cA s) (hA : ∀ q : Nat, s.heap.size ≤ q → A q) (hZ : ZY A s) (KK : ∀ (g : Nat → Int32) (H : Heap) (locs : List Loc) (ls : Array Slot), va_P D vwCl (wK a cA F g am ar Y) H → va_D A (wK a cA F g am ar Y) → va_S A s.heap H locs → s.heap.size + 43 ≤ H.size → lv_has ls 15 [(0, .ref (a 16)), (1, .ref at_), (2, .ref am), (3, .int 1), (4, .int 0), (5, .int 7), (6, .int 5), (7, .int 21), (8, .int 1), (9, .long 0), (11, .int 1), (12, .int 5)] → W p l e rmL_isRefused s m args below meth c H locs 43 258 Q (F0 m 725 ls [])) : ∀ (g : Nat → Int32) (H : Heap) (locs : List Loc) (ls : Array Slot), va_P D vwCl (wK a cA F g am ar Y) H → va_D A (wK a cA F g am ar Y) → va_S A s.heap H locs → s.heap.size + 42 ≤ H.size → lv_has ls 15 [(0, .ref (a 16)), (1, .ref at_), (2, .ref am), (3, .int 1), (4, .int 0), (5, .int 7), (6, .int 5), (7, .int 21), (8, .int 1), (9, .long 0), (11, .int 1), (12, .int 4)] → W p l e rmL_isRefused s m args below meth c H locs 42 252 Q (F0 m 725 ls []) := by
  intro g H locs ls hP hD hS hG hl
  refine lv_iload hx hb dL_isRefused_725 (lv_at hl 11 rfl) ?_
  refine lv_bipush (v := 6) hx hb dL_isRefused_727 (by decide) ?_
  refine lv_icmp_ge (tgt := 784) hx hb dL_isRefused_729 (by decide) (fun c_729 => (absurd c_729 (by decide) : False).elim) (fun c_729 => ?_)
  refine lv_iload hx hb dL_isRefused_732 (lv_at hl 10 rfl) ?_
  refine lv_if_eq (tgt := 784) hx hb dL_isRefused_734 (by decide) (fun c_734 => (absurd c_734 (by decide) : False).elim) (fun c_734 => ?_)
  refine lv_aload_n hx hb dL_isRefused_737 rfl (lv_at hl 0 rfl) ?_
  refine lv_iload hx hb dL_isRefused_738 (lv_at hl 11 rfl) ?_
  refine Rd.callV (rest := []) (q0 := 0) (ci := 0) ⟨hx, hb, hml, hown, hts⟩ (c_X0_holiday l D cA a F g 0 hz.1 4 (by decide)) (cwV 1 hts gL_isRefused_X0_holiday rfl rfl rfl (by decide +kernel) ⟨Nat.le_of_ble_eq_true rfl, Nat.le_of_ble_eq_true rfl⟩) hK (hP.sub [0, 1, 2, 3, 4, 5, 6, 7, 8, 9, 10, 11, 12, 13] rfl : va_P D vwCl (wX a cA F g) _) rfl rfl rfl rfl rfl hl.1 (Nat.le_of_ble_eq_true rfl) dL_isRefused_740 ⟨Nat.le_of_ble_eq_true rfl, Nat.le_of_ble_eq_true rfl⟩ ?_
  refine ri_top 0 (hol0 hz _ _) ?_
  refine lv_istore (lv' := [(13, .int 0), (0, .ref (a 16)), (1, .ref at_), (2, .ref am), (3, .int 1), (4, .int 0), (5, .int 7), (6, .int 5), (7, .int 21), (8, .int 1), (9, .long 0), (11, .int 1), (12, .int 4)]) hx hb dL_isRefused_743 hl (by decide) rfl (fun ls hl => ?_)
  refine lv_iload hx hb dL_isRefused_745 (lv_at hl 0 rfl) ?_
  refine lv_sipush (v := 9999) hx hb dL_isRefused_747 (by decide) ?_
  refine lv_icmp_gt (tgt := 771) hx hb dL_isRefused_750 (by decide) (fun c_750 => (absurd c_750 (by decide) : False).elim) (fun c_750 => ?_)
  refine lv_aload_n hx hb dL_isRefused_753 rfl (lv_at hl 1 rfl) ?_
  refine lv_iconst (v := 3) hx hb dL_isRefused_754 (by decide) ?_
  refine lv_iload hx hb dL_isRefused_755 (lv_at hl 12 rfl) ?_
  refine lv_iload hx hb dL_isRefused_757 (lv_at hl 0 rfl) ?_
  refine lv_iconst (v := 1) hx hb dL_isRefused_759 (by decide) ?_
  refine lv_iadd hx hb dL_isRefused_760 ?_
  refine ri_top 1 (by decide +kernel) ?_
  refine lv_iconst (v := 0) hx hb dL_isRefused_761 (by decide) ?_
  refine lv_iconst (v := 0) hx hb dL_isRefused_762 (by decide) ?_
  refine Lq.callH (rest := []) (wr := [(am, .inl (cA, 7, .inl (fun _ => 0))), (ar, .inl (cA, 22, .inl Y))]) [0, 1, 2, 3, 4, 5, 6, 7, 8, 9, 10, 11, 12, 13] [14, 15] ⟨hx, hb, hml, hown, hts⟩ (b_L_act3_3 l hl9 D cA a F g 0 hz.1 4 1 0 0 ((if_pos (by decide +kernel)).trans ((if_pos (by decide +kernel)).trans (if_neg (tk0 hz _ _))))) (vx_cwSW 6 hts gL_isRefused_L_act rfl rfl rfl (by decide +kernel) ⟨Nat.le_of_ble_eq_true rfl, Nat.le_of_ble_eq_true rfl⟩) hK hP hD hS hA hZ rfl rfl (by decide) (by decide) (by decide) rfl rfl hl.1 (Nat.le_of_ble_eq_true rfl) dL_isRefused_763 ⟨Nat.le_of_ble_eq_true rfl, Nat.le_of_ble_eq_true rfl⟩ (fun r9 u9 H locs hu9 hP hD hS hG9 => ?_)
  have hP : va_P D vwCl (wK a cA F g am ar Y) H := hP.sub [2, 3, 4, 5, 6, 7, 8, 9, 10, 11, 12, 13, 14, 15, 0, 1] rfl
  have hD : va_D A (wK a cA F g am ar Y) := hD.sub [2, 3, 4, 5, 6, 7, 8, 9, 10, 11, 12, 13, 14, 15, 0, 1] (by decide) rfl
  have hG : s.heap.size + 43 ≤ H.size := Nat.le_trans (Nat.add_le_add_right hG 1) hG9
  refine ri_top (-1100000003) hu9 ?_
  refine lv_ldc (own := RL) (index := 46) (v := -1100000003) hx hb hown (hts (.constant RL 46 (-1100000003)) (by decide +kernel)) dL_isRefused_766 ?_
  refine lv_icmp_ne (tgt := 775) hx hb dL_isRefused_768 (by decide) (fun c_768 => (absurd (by decide) c_768 : False).elim) (fun c_768 => ?_)
  refine lv_iconst (v := 1) hx hb dL_isRefused_771 (by decide) ?_
  refine lv_goto (tgt := 776) hx hb dL_isRefused_772 (by decide) ?_
  refine lv_istore (lv' := [(11, .int 1), (13, .int 0), (0, .ref (a 16)), (1, .ref at_), (2, .ref am), (3, .int 1), (4, .int 0), (5, .int 7), (6, .int 5), (7, .int 21), (8, .int 1), (9, .long 0), (12, .int 4)]) hx hb dL_isRefused_776 hl (by decide) rfl (fun ls hl => ?_)
  refine lv_iinc (v := 5) (lv' := [(12, .int 5), (11, .int 1), (13, .int 0), (0, .ref (a 16)), (1, .ref at_), (2, .ref am), (3, .int 1), (4, .int 0), (5, .int 7), (6, .int 5), (7, .int 21), (8, .int 1), (9, .long 0)]) hx hb dL_isRefused_778 hl (k := 12) rfl ((by decide +kernel)) (by decide) rfl (fun ls hl => ?_)
  refine lv_goto (tgt := 725) hx hb dL_isRefused_781 (by decide) ?_
  exact KK _ _ _ _ hP hD hS hG (lv_sub hl [3, 4, 5, 6, 7, 8, 9, 10, 11, 12, 1, 0] rfl)

set_option maxHeartbeats 4000000 in
set_option maxRecDepth 100000 in
theorem rf1_d5 {p : Program} {l : Launch} (hl9 : l.stackTraces = false) {e : Env} {s : State} {m : MethodId} {args : Array Value} {below : List Frame} {meth : Method} {c : Code} {Q : State → Prop} {D : va_G} {cA : ClassId} {a : Nat → Nat} {F : Nat → Nat → Int32} {at_ am ar : Nat} {Y : Nat → Int32} (hz : zs F) {A : Nat → Prop} (hx : p.tables.exec = Jvm.exec) (hb : c.code = cL_isRefused) (hts : ∀ w ∈ wsL_isRefused, w.before args s = true) (hown : s.vm.findClass RL = some m.cls) (hml : c.maxLocals = 15) (hK : KA D cA s) (hA : ∀ q : Nat, s.heap.size ≤ q → A q) (hZ : ZY A s) (KK : ∀ (g : Nat → Int32) (H : Heap) (locs : List Loc) (ls : Array Slot), va_P D vwCl (wK a cA F g am ar Y) H → va_D A (wK a cA F g am ar Y) → va_S A s.heap H locs → s.heap.size + 44 ≤ H.size → lv_has ls 15 [(0, .ref (a 16)), (1, .ref at_), (2, .ref am), (3, .int 1), (4, .int 0), (5, .int 7), (6, .int 5), (7, .int 21), (8, .int 1), (9, .long 0), (11, .int 1), (12, .int 6)] → W p l e rmL_isRefused s m args below meth c H locs 44 264 Q (F0 m 725 ls [])) : ∀ (g : Nat → Int32) (H : Heap) (locs : List Loc) (ls : Array Slot), va_P D vwCl (wK a cA F g am ar Y) H → va_D A (wK a cA F g am ar Y) → va_S A s.heap H locs → s.heap.size + 43 ≤ H.size → lv_has ls 15 [(0, .ref (a 16)), (1, .ref at_), (2, .ref am), (3, .int 1), (4, .int 0), (5, .int 7), (6, .int 5), (7, .int 21), (8, .int 1), (9, .long 0), (11, .int 1), (12, .int 5)] → W p l e rmL_isRefused s m args below meth c H locs 43 258 Q (F0 m 725 ls []) := by
  intro g H locs ls hP hD hS hG hl
  refine lv_iload hx hb dL_isRefused_725 (lv_at hl 11 rfl) ?_
  refine lv_bipush (v := 6) hx hb dL_isRefused_727 (by decide) ?_
  refine lv_icmp_ge (tgt := 784) hx hb dL_isRefused_729 (by decide) (fun c_729 => (absurd c_729 (by decide) : False).elim) (fun c_729 => ?_)
  refine lv_iload hx hb dL_isRefused_732 (lv_at hl 10 rfl) ?_
  refine lv_if_eq (tgt := 784) hx hb dL_isRefused_734 (by decide) (fun c_734 => (absurd c_734 (by decide) : False).elim) (fun c_734 => ?_)
  refine lv_aload_n hx hb dL_isRefused_737 rfl (lv_at hl 0 rfl) ?_
  refine lv_iload hx hb dL_isRefused_738 (lv_at hl 11 rfl) ?_
  refine Rd.callV (rest := []) (q0 := 0) (ci := 0) ⟨hx, hb, hml, hown, hts⟩ (c_X0_holiday l D cA a F g 0 hz.1 5 (by decide)) (cwV 1 hts gL_isRefused_X0_holiday rfl rfl rfl (by decide +kernel) ⟨Nat.le_of_ble_eq_true rfl, Nat.le_of_ble_eq_true rfl⟩) hK (hP.sub [0, 1, 2, 3, 4, 5, 6, 7, 8, 9, 10, 11, 12, 13] rfl : va_P D vwCl (wX a cA F g) _) rfl rfl rfl rfl rfl hl.1 (Nat.le_of_ble_eq_true rfl) dL_isRefused_740 ⟨Nat.le_of_ble_eq_true rfl, Nat.le_of_ble_eq_true rfl⟩ ?_
  refine ri_top 0 (hol0 hz _ _) ?_
  refine lv_istore (lv' := [(13, .int 0), (0, .ref (a 16)), (1, .ref at_), (2, .ref am), (3, .int 1), (4, .int 0), (5, .int 7), (6, .int 5), (7, .int 21), (8, .int 1), (9, .long 0), (11, .int 1), (12, .int 5)]) hx hb dL_isRefused_743 hl (by decide) rfl (fun ls hl => ?_)
  refine lv_iload hx hb dL_isRefused_745 (lv_at hl 0 rfl) ?_
  refine lv_sipush (v := 9999) hx hb dL_isRefused_747 (by decide) ?_
  refine lv_icmp_gt (tgt := 771) hx hb dL_isRefused_750 (by decide) (fun c_750 => (absurd c_750 (by decide) : False).elim) (fun c_750 => ?_)
  refine lv_aload_n hx hb dL_isRefused_753 rfl (lv_at hl 1 rfl) ?_
  refine lv_iconst (v := 3) hx hb dL_isRefused_754 (by decide) ?_
  refine lv_iload hx hb dL_isRefused_755 (lv_at hl 12 rfl) ?_
  refine lv_iload hx hb dL_isRefused_757 (lv_at hl 0 rfl) ?_
  refine lv_iconst (v := 1) hx hb dL_isRefused_759 (by decide) ?_
  refine lv_iadd hx hb dL_isRefused_760 ?_
  refine ri_top 1 (by decide +kernel) ?_
  refine lv_iconst (v := 0) hx hb dL_isRefused_761 (by decide) ?_
  refine lv_iconst (v := 0) hx hb dL_isRefused_762 (by decide) ?_
  refine Lq.callH (rest := []) (wr := [(am, .inl (cA, 7, .inl (fun _ => 0))), (ar, .inl (cA, 22, .inl Y))]) [0, 1, 2, 3, 4, 5, 6, 7, 8, 9, 10, 11, 12, 13] [14, 15] ⟨hx, hb, hml, hown, hts⟩ (b_L_act3_3 l hl9 D cA a F g 0 hz.1 5 1 0 0 ((if_pos (by decide +kernel)).trans ((if_pos (by decide +kernel)).trans (if_neg (tk0 hz _ _))))) (vx_cwSW 6 hts gL_isRefused_L_act rfl rfl rfl (by decide +kernel) ⟨Nat.le_of_ble_eq_true rfl, Nat.le_of_ble_eq_true rfl⟩) hK hP hD hS hA hZ rfl rfl (by decide) (by decide) (by decide) rfl rfl hl.1 (Nat.le_of_ble_eq_true rfl) dL_isRefused_763 ⟨Nat.le_of_ble_eq_true rfl, Nat.le_of_ble_eq_true rfl⟩ (fun r9 u9 H locs hu9 hP hD hS hG9 => ?_)
  have hP : va_P D vwCl (wK a cA F g am ar Y) H := hP.sub [2, 3, 4, 5, 6, 7, 8, 9, 10, 11, 12, 13, 14, 15, 0, 1] rfl
  have hD : va_D A (wK a cA F g am ar Y) := hD.sub [2, 3, 4, 5, 6, 7, 8, 9, 10, 11, 12, 13, 14, 15, 0, 1] (by decide) rfl
  have hG : s.heap.size + 44 ≤ H.size := Nat.le_trans (Nat.add_le_add_right hG 1) hG9
  refine ri_top (-1100000003) hu9 ?_
  refine lv_ldc (own := RL) (index := 46) (v := -1100000003) hx hb hown (hts (.constant RL 46 (-1100000003)) (by decide +kernel)) dL_isRefused_766 ?_
  refine lv_icmp_ne (tgt := 775) hx hb dL_isRefused_768 (by decide) (fun c_768 => (absurd (by decide) c_768 : False).elim) (fun c_768 => ?_)
  refine lv_iconst (v := 1) hx hb dL_isRefused_771 (by decide) ?_
  refine lv_goto (tgt := 776) hx hb dL_isRefused_772 (by decide) ?_
  refine lv_istore (lv' := [(11, .int 1), (13, .int 0), (0, .ref (a 16)), (1, .ref at_), (2, .ref am), (3, .int 1), (4, .int 0), (5, .int 7), (6, .int 5), (7, .int 21), (8, .int 1), (9, .long 0), (12, .int 5)]) hx hb dL_isRefused_776 hl (by decide) rfl (fun ls hl => ?_)
  refine lv_iinc (v := 6) (lv' := [(12, .int 6), (11, .int 1), (13, .int 0), (0, .ref (a 16)), (1, .ref at_), (2, .ref am), (3, .int 1), (4, .int 0), (5, .int 7), (6, .int 5), (7, .int 21), (8, .int 1), (9, .long 0)]) hx hb dL_isRefused_778 hl (k := 12) rfl ((by decide +kernel)) (by decide) rfl (fun ls hl => ?_)
  refine lv_goto (tgt := 725) hx hb dL_isRefused_781 (by decide) ?_
  exact KK _ _ _ _ hP hD hS hG (lv_sub hl [3, 4, 5, 6, 7, 8, 9, 10, 11, 12, 1, 0] rfl)

set_option maxHeartbeats 4000000 in
set_option maxRecDepth 100000 in
theorem rf1_e {p : Program} {l : Launch} (hl9 : l.stackTraces = false) {e : Env} {s : State} {m : MethodId} {args : Array Value} {below : List Frame} {meth : Method} {c : Code} {Q : State → Prop} {D : va_G} {cA : ClassId} {a : Nat → Nat} {F : Nat → Nat → Int32} {at_ am ar : Nat} {Y : Nat → Int32} (hz : zs F) {A : Nat → Prop} (hx : p.tables.exec = Jvm.exec) (hb : c.code = cL_isRefused) (hts : ∀ w ∈ wsL_isRefused, w.before args s = true) (hown : s.vm.findClass RL = some m.cls) (hml : c.maxLocals = 15) (hK : KA D cA s) (hA : ∀ q : Nat, s.heap.size ≤ q → A q) (hZ : ZY A s) (KK : ∀ (g : Nat → Int32) (H : Heap) (locs : List Loc) (pc : Nat) (ls : Array Slot), decode cL_isRefused pc = .ok (.ireturn, 1) → va_P D vwCl (wK a cA F g am ar Y) H → va_D A (wK a cA F g am ar Y) → va_S A s.heap H locs → s.heap.size + 44 ≤ H.size → W p l e rmL_isRefused s m args below meth c H locs 44 264 Q (F0 m pc ls [.int 1])) : ∀ (g : Nat → Int32) (H : Heap) (locs : List Loc) (ls : Array Slot), va_P D vwCl (wK a cA F g am ar Y) H → va_D A (wK a cA F g am ar Y) → va_S A s.heap H locs → s.heap.size + 44 ≤ H.size → lv_has ls 15 [(0, .ref (a 16)), (1, .ref at_), (2, .ref am), (3, .int 1), (4, .int 0), (5, .int 7), (6, .int 5), (7, .int 21), (8, .int 1), (9, .long 0), (11, .int 1), (12, .int 6)] → W p l e rmL_isRefused s m args below meth c H locs 44 264 Q (F0 m 725 ls []) := by
  intro g H locs ls hP hD hS hG hl
  refine lv_iload hx hb dL_isRefused_725 (lv_at hl 11 rfl) ?_
  refine lv_bipush (v := 6) hx hb dL_isRefused_727 (by decide) ?_
  refine lv_icmp_ge (tgt := 784) hx hb dL_isRefused_729 (by decide) (fun c_729 => ?_) (fun c_729 => (absurd (by decide) c_729 : False).elim)
  refine lv_iload hx hb dL_isRefused_784 (lv_at hl 10 rfl) ?_
  refine lv_if_eq (tgt := 804) hx hb dL_isRefused_786 (by decide) (fun c_786 => (absurd c_786 (by decide) : False).elim) (fun c_786 => ?_)
  refine lv_aload_n hx hb dL_isRefused_789 rfl (lv_at hl 0 rfl) ?_
  refine lv_aload_n hx hb dL_isRefused_790 rfl (lv_at hl 2 rfl) ?_
  refine Lj.callS (rest := []) (wr := []) [0, 1, 2, 3, 4, 5, 6, 7, 8, 9, 10, 11, 12, 13, 14, 15] [] ⟨hx, hb, hml, hown, hts⟩ (k_L_all l D cA a F g at_ am ar Y hz) (va_cwS 2 hts gL_isRefused_L_all rfl rfl rfl (by decide +kernel) ⟨Nat.le_of_ble_eq_true rfl, Nat.le_of_ble_eq_true rfl⟩) hK hP hD hS hA hZ rfl rfl (by decide) (by decide) (by decide) rfl rfl hl.1 (Nat.le_of_ble_eq_true rfl) dL_isRefused_791 ⟨Nat.le_of_ble_eq_true rfl, Nat.le_of_ble_eq_true rfl⟩ (fun r9 u791 H locs hu9 hP hD hS hG9 => ?_)
  have hP : va_P D vwCl (wK a cA F u791 am ar Y) H := hP
  have hD : va_D A (wK a cA F u791 am ar Y) := hD
  have hG : s.heap.size + 44 ≤ H.size := Nat.le_trans hG hG9
  refine ri_topl 0 hu9 ?_
  refine lv_lload hx hb dL_isRefused_794 (lv_at hl 9 rfl) ?_
  refine W.lcmp hx hb dL_isRefused_796 ?_
  refine ri_top 0 ((lg_cmp_eq _ _).mpr rfl) ?_
  refine lv_if_ne (tgt := 804) hx hb dL_isRefused_797 (by decide) (fun c_797 => (absurd (by decide) c_797 : False).elim) (fun c_797 => ?_)
  refine lv_iconst (v := 1) hx hb dL_isRefused_800 (by decide) ?_
  refine lv_goto (tgt := 805) hx hb dL_isRefused_801 (by decide) ?_
  exact KK _ _ _ 805 ls dL_isRefused_805 hP hD hS hG

set_option maxHeartbeats 4000000 in
set_option maxRecDepth 100000 in
theorem k_L_isRefused_1 (l : Launch) (hl9 : l.stackTraces = false) (D : va_G) (cA : ClassId) (a : Nat → Nat) (F : Nat → Nat → Int32) (g : Nat → Int32) (at_ am ar : Nat) (Y : Nat → Int32) (hz : zs F) : Lq l D cA (S := Nat → Int32) (wK a cA F g am ar Y) (fun g => wK a cA F g am ar Y) yL_isRefused wsL_isRefused rmL_isRefused [.ref (a 16), .ref at_, .ref am, .int 1] (fun r _ => r = 1) 44 44 264 := by
  refine Lq.ofz (cc := cL_isRefused) (maxL := 15) (by decide) rfl (Nat.le_of_ble_eq_true rfl) ?_
  intro p e s m args below meth c ls A Q hx hb hts hown hml hK hP hD hA hS hl hZ hend
  have hown : s.vm.findClass RL = some m.cls := hown
  exact (rf1_a hl9 hz hx hb hts hown hml hK hA hZ (rf1_b0 hl9 hz hx hb hts hown hml hK hA hZ (rf1_b1 hl9 hz hx hb hts hown hml hK hA hZ (rf1_b2 hl9 hz hx hb hts hown hml hK hA hZ (rf1_b3 hl9 hz hx hb hts hown hml hK hA hZ (rf1_b4 hl9 hz hx hb hts hown hml hK hA hZ (rf1_b5 hl9 hz hx hb hts hown hml hK hA hZ (rf1_b6 hl9 hz hx hb hts hown hml hK hA hZ (rf1_b7 hl9 hz hx hb hts hown hml hK hA hZ (rf1_b8 hl9 hz hx hb hts hown hml hK hA hZ (rf1_b9 hl9 hz hx hb hts hown hml hK hA hZ (rf1_b10 hl9 hz hx hb hts hown hml hK hA hZ (rf1_b11 hl9 hz hx hb hts hown hml hK hA hZ (rf1_c hl9 hz hx hb hts hown hml hK hA hZ (rf1_d0 hl9 hz hx hb hts hown hml hK hA hZ (rf1_d1 hl9 hz hx hb hts hown hml hK hA hZ (rf1_d2 hl9 hz hx hb hts hown hml hK hA hZ (rf1_d3 hl9 hz hx hb hts hown hml hK hA hZ (rf1_d4 hl9 hz hx hb hts hown hml hK hA hZ (rf1_d5 hl9 hz hx hb hts hown hml hK hA hZ (rf1_e hl9 hz hx hb hts hown hml hK hA hZ (fun g H locs pc ls hd hP hD hS hG => hend pc ls _ g _ _ hd hP hD hS hG rfl (Or.inr rfl))))))))))))))))))))))) g s.heap [] ls hP hD hS (Nat.le_refl _) hl

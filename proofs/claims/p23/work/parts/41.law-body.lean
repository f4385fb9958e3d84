/-! the law's body up to the end of its first turn; by program (wip/p23/gen) -/
set_option maxHeartbeats 4000000 in
set_option maxRecDepth 100000 in
theorem law_body {p : Program} {l : Launch} (hl9 : l.stackTraces = false) {e : Env} {s : State} {m : MethodId} {args : Array Value} {below : List Frame} {meth : Method} {c : Code} {Q : State → Prop} {D : va_G} {cA : ClassId} {a : Nat → Nat} {at_ am ar : Nat} {A : Nat → Prop} (hx : p.tables.exec = Jvm.exec) (hb : c.code = code) (hts : ∀ w ∈ wsL_law, w.before args s = true) (hown : s.vm.findClass RL = some m.cls) (hml : c.maxLocals = 16) (hK : KA D cA s) (hA : ∀ q : Nat, s.heap.size ≤ q → A q) (hZ : ZY A s) {b : Nat} {xs : Nat → Int32} (hX : va_X b 1 xs s s.heap) (hx0 : xs 0 = 0) (hbl : b < s.heap.size) (hbA : ¬ A b) (KK : ∀ (H : Heap) (locs : List Loc) (ls : Array Slot), s.heap.size + 132 ≤ H.size → W p l e R9 s m args below meth c H locs 150 1456 Q (F0 m 916 ls [.int 1])) (g Y : Nat → Int32) (H : Heap) (locs : List Loc) (ls : Array Slot) (hP : va_P D vwCl (wK a cA (F0s 4) g am ar Y) H) (hD : va_D A (wK a cA (F0s 4) g am ar Y)) (hS : va_S A s.heap H locs) (hl : lv_has ls 16 [(0, .ref b), (1, .ref (a 16)), (2, .ref at_), (3, .ref ar), (4, .ref am)]) : W p l e R9 s m args below meth c H locs 17 658 Q (F0 m 24 ls []) := by
  have h4 : (4 : Int32) = nI 4 := rfl
  refine lv_iconst (v := 0) hx hb dL_law_24 (by decide) ?_
  refine lv_istore (lv' := [(5, .int 0), (0, .ref b), (1, .ref (a 16)), (2, .ref at_), (3, .ref ar), (4, .ref am)]) hx hb dL_law_25 hl (by decide) rfl (fun ls hl => ?_)
  have K_27 : ∀ (n i : Nat) (g : Nat → Int32) (Y : Nat → Int32) (H : Heap) (locs : List Loc) (ls : Array Slot), i + n = 4 → va_P D vwCl (wK a cA (F0s 4) g am ar Y) H → va_D A (wK a cA (F0s 4) g am ar Y) → va_S A s.heap H locs → lv_has ls 16 [(0, .ref b), (1, .ref (a 16)), (2, .ref at_), (3, .ref ar), (4, .ref am), (5, .int (nI i))] → W p l e R9 s m args below meth c H locs 17 658 Q (F0 m 27 ls []) := by
    intro n
    induction n with
    | zero =>
      intro i  g Y H locs ls hin_27   hP hD hS hl
      have hiN : i = 4 := by omega
      refine lv_iload hx hb dL_law_27 (lv_at hl 5 rfl) ?_
      refine lv_iconst (v := 4) hx hb dL_law_29 (by decide) ?_
      refine lv_icmp_ge (tgt := 89) hx hb dL_law_30 (by decide) (fun c_30 => ?_) (fun c_30 => (absurd (((br_ge h4 (by omega) (by omega : i ≤ 4)).mpr hiN)) c_30 : False).elim)
      refine lv_aload_n hx hb dL_law_89 rfl (lv_at hl 3 rfl) ?_
      refine lv_bipush (v := 20) hx hb dL_law_90 (by decide) ?_
      refine lv_iconst (v := 4) hx hb dL_law_92 (by decide) ?_
      refine ri_ast (j := 20) hx hb hK hP hD hS 15 rfl (rfl) (by decide) (by decide) dL_law_93 (fun H locs hP hD hS => ?_)
      have hP : va_P D vwCl (wK a cA (F0s 4) g am ar (upd Y 20 4)) H := hP
      have hD : va_D A (wK a cA (F0s 4) g am ar (upd Y 20 4)) := hD
      refine lv_aload_n hx hb dL_law_94 rfl (lv_at hl 3 rfl) ?_
      refine lv_bipush (v := 21) hx hb dL_law_95 (by decide) ?_
      refine lv_iconst (v := 2) hx hb dL_law_97 (by decide) ?_
      refine ri_ast (j := 21) hx hb hK hP hD hS 15 rfl (rfl) (by decide) (by decide) dL_law_98 (fun H locs hP hD hS => ?_)
      have hP : va_P D vwCl (wK a cA (F0s 4) g am ar (upd (upd Y 20 4) 21 2)) H := hP
      have hD : va_D A (wK a cA (F0s 4) g am ar (upd (upd Y 20 4) 21 2)) := hD
      refine lv_aload_n hx hb dL_law_99 rfl (lv_at hl 1 rfl) ?_
      refine lv_aload_n hx hb dL_law_100 rfl (lv_at hl 2 rfl) ?_
      refine lv_aload hx hb dL_law_101 (lv_at hl 4 rfl) ?_
      refine lv_iconst (v := 0) hx hb dL_law_103 (by decide) ?_
      have hG : s.heap.size + 0 ≤ H.size := hS.1
      refine Lq.callS (rest := []) (wr := []) [0, 1, 2, 3, 4, 5, 6, 7, 8, 9, 10, 11, 12, 13, 14, 15] [] ⟨hx, hb, hml, hown, hts⟩ (k_L_isRefused_0 l hl9 D cA a (F0s 4) g at_ am ar (upd (upd Y 20 4) 21 2) zs_F0) (va_cwS 4 hts gL_law_L_isRefused rfl rfl rfl (by decide +kernel) ⟨Nat.le_of_ble_eq_true rfl, Nat.le_of_ble_eq_true rfl⟩) hK hP hD hS hA hZ rfl rfl (by decide) (by decide) (by decide) rfl rfl hl.1 (Nat.le_of_ble_eq_true rfl) dL_law_104 ⟨Nat.le_of_ble_eq_true rfl, Nat.le_of_ble_eq_true rfl⟩ (fun r9 u104 H locs hu9 hP hD hS hG9 => ?_)
      have hP : va_P D vwCl (wK a cA (F0s 4) u104 am ar (upd (upd Y 20 4) 21 2)) H := hP
      have hD : va_D A (wK a cA (F0s 4) u104 am ar (upd (upd Y 20 4) 21 2)) := hD
      have hG : s.heap.size + 44 ≤ H.size := Nat.le_trans (Nat.add_le_add_right hG 44) hG9
      refine ri_top 1 hu9 ?_
      refine lv_if_eq (tgt := 125) hx hb dL_law_107 (by decide) (fun c_107 => (absurd c_107 (by decide) : False).elim) (fun c_107 => ?_)
      refine lv_aload_n hx hb dL_law_110 rfl (lv_at hl 1 rfl) ?_
      refine lv_aload_n hx hb dL_law_111 rfl (lv_at hl 2 rfl) ?_
      refine lv_aload hx hb dL_law_112 (lv_at hl 4 rfl) ?_
      refine lv_iconst (v := 1) hx hb dL_law_114 (by decide) ?_
      refine Lq.callS (rest := []) (wr := []) [0, 1, 2, 3, 4, 5, 6, 7, 8, 9, 10, 11, 12, 13, 14, 15] [] ⟨hx, hb, hml, hown, hts⟩ (k_L_isRefused_1 l hl9 D cA a (F0s 4) u104 at_ am ar (upd (upd Y 20 4) 21 2) zs_F0) (va_cwS 4 hts gL_law_L_isRefused rfl rfl rfl (by decide +kernel) ⟨Nat.le_of_ble_eq_true rfl, Nat.le_of_ble_eq_true rfl⟩) hK hP hD hS hA hZ rfl rfl (by decide) (by decide) (by decide) rfl rfl hl.1 (Nat.le_of_ble_eq_true rfl) dL_law_115 ⟨Nat.le_of_ble_eq_true rfl, Nat.le_of_ble_eq_true rfl⟩ (fun r9 u115 H locs hu9 hP hD hS hG9 => ?_)
      have hP : va_P D vwCl (wK a cA (F0s 4) u115 am ar (upd (upd Y 20 4) 21 2)) H := hP
      have hD : va_D A (wK a cA (F0s 4) u115 am ar (upd (upd Y 20 4) 21 2)) := hD
      have hG : s.heap.size + 88 ≤ H.size := Nat.le_trans (Nat.add_le_add_right hG 44) hG9
      refine ri_top 1 hu9 ?_
      refine lv_if_eq (tgt := 125) hx hb dL_law_118 (by decide) (fun c_118 => (absurd c_118 (by decide) : False).elim) (fun c_118 => ?_)
      refine lv_iconst (v := 1) hx hb dL_law_121 (by decide) ?_
      refine lv_goto (tgt := 126) hx hb dL_law_122 (by decide) ?_
      refine lv_istore (lv' := [(5, .int 1), (0, .ref b), (1, .ref (a 16)), (2, .ref at_), (3, .ref ar), (4, .ref am)]) hx hb dL_law_126 hl (by decide) rfl (fun ls hl => ?_)
      refine lv_iconst (v := 0) hx hb dL_law_128 (by decide) ?_
      refine lv_istore (lv' := [(6, .int 0), (5, .int 1), (0, .ref b), (1, .ref (a 16)), (2, .ref at_), (3, .ref ar), (4, .ref am)]) hx hb dL_law_129 hl (by decide) rfl (fun ls hl => ?_)
      refine lv_iload hx hb dL_law_131 (lv_at hl 0 rfl) ?_
      refine lv_bipush (v := 80) hx hb dL_law_133 (by decide) ?_
      refine lv_icmp_ge (tgt := 932) hx hb dL_law_135 (by decide) (fun c_135 => (absurd c_135 (by decide) : False).elim) (fun c_135 => ?_)
      refine lv_iload hx hb dL_law_138 (lv_at hl 1 rfl) ?_
      refine lv_if_eq (tgt := 932) hx hb dL_law_140 (by decide) (fun c_140 => (absurd c_140 (by decide) : False).elim) (fun c_140 => ?_)
      refine lv_aload_n hx hb dL_law_143 rfl (lv_at hl 2 rfl) ?_
      refine lv_iload hx hb dL_law_144 (lv_at hl 0 rfl) ?_
      refine Mi.callS (rest := []) ⟨hx, hb, hml, hown, hts⟩ (k_L_dice l hx0) (va_cwS 2 hts gL_law_L_dice rfl rfl rfl (by decide +kernel) ⟨Nat.le_of_ble_eq_true rfl, Nat.le_of_ble_eq_true rfl⟩) (PreD hX hbl hbA hS) rfl rfl hl.1 (Nat.le_of_ble_eq_true rfl) dL_law_146 ⟨Nat.le_of_ble_eq_true rfl, Nat.le_of_ble_eq_true rfl⟩ ?_
      refine lv_istore (lv' := [(7, .int 0), (6, .int 0), (5, .int 1), (0, .ref b), (1, .ref (a 16)), (2, .ref at_), (3, .ref ar), (4, .ref am)]) hx hb dL_law_149 hl (by decide) rfl (fun ls hl => ?_)
      refine lv_iload hx hb dL_law_151 (lv_at hl 0 rfl) ?_
      refine lv_bipush (v := 32) hx hb dL_law_153 (by decide) ?_
      refine lv_idiv hx hb dL_law_155 (by decide) ?_
      refine ri_top 0 (by decide +kernel) ?_
      refine lv_istore (lv' := [(8, .int 0), (7, .int 0), (6, .int 0), (5, .int 1), (0, .ref b), (1, .ref (a 16)), (2, .ref at_), (3, .ref ar), (4, .ref am)]) hx hb dL_law_156 hl (by decide) rfl (fun ls hl => ?_)
      refine lv_iload hx hb dL_law_158 (lv_at hl 1 rfl) ?_
      refine lv_bipush (v := 32) hx hb dL_law_160 (by decide) ?_
      refine lv_irem hx hb dL_law_162 (by decide) ?_
      refine ri_top 0 (by decide +kernel) ?_
      refine lv_istore (lv' := [(9, .int 0), (8, .int 0), (7, .int 0), (6, .int 0), (5, .int 1), (0, .ref b), (1, .ref (a 16)), (2, .ref at_), (3, .ref ar), (4, .ref am)]) hx hb dL_law_163 hl (by decide) rfl (fun ls hl => ?_)
      refine lv_iload hx hb dL_law_165 (lv_at hl 1 rfl) ?_
      refine lv_iconst (v := 4) hx hb dL_law_167 (by decide) ?_
      refine lv_irem hx hb dL_law_168 (by decide) ?_
      refine ri_top 0 (by decide +kernel) ?_
      refine lv_istore (lv' := [(10, .int 0), (9, .int 0), (8, .int 0), (7, .int 0), (6, .int 0), (5, .int 1), (0, .ref b), (1, .ref (a 16)), (2, .ref at_), (3, .ref ar), (4, .ref am)]) hx hb dL_law_169 hl (by decide) rfl (fun ls hl => ?_)
      refine lv_aload hx hb dL_law_171 (lv_at hl 10 rfl) ?_
      refine lv_iconst (v := 0) hx hb dL_law_173 (by decide) ?_
      refine ri_ald (j := 0) hx hb hK hP 14 rfl rfl (by decide) (by decide) dL_law_174 ?_
      refine ri_top 0 rfl ?_
      refine lv_if_ne (tgt := 182) hx hb dL_law_175 (by decide) (fun c_175 => (absurd (by decide) c_175 : False).elim) (fun c_175 => ?_)
      refine lv_iconst (v := 0) hx hb dL_law_178 (by decide) ?_
      refine lv_goto (tgt := 189) hx hb dL_law_179 (by decide) ?_
      refine lv_istore (lv' := [(11, .int 0), (10, .int 0), (9, .int 0), (8, .int 0), (7, .int 0), (6, .int 0), (5, .int 1), (0, .ref b), (1, .ref (a 16)), (2, .ref at_), (3, .ref ar), (4, .ref am)]) hx hb dL_law_189 hl (by decide) rfl (fun ls hl => ?_)
      refine lv_iload hx hb dL_law_191 (lv_at hl 2 rfl) ?_
      refine lv_if_ne (tgt := 276) hx hb dL_law_193 (by decide) (fun c_193 => (absurd (by decide) c_193 : False).elim) (fun c_193 => ?_)
      refine lv_aload_n hx hb dL_law_196 rfl (lv_at hl 10 rfl) ?_
      refine lv_iconst (v := 5) hx hb dL_law_197 (by decide) ?_
      refine lv_iload hx hb dL_law_198 (lv_at hl 1 rfl) ?_
      refine lv_imul hx hb dL_law_200 ?_
      refine ri_top 0 (by decide +kernel) ?_
      refine lv_iconst (v := 1) hx hb dL_law_201 (by decide) ?_
      refine lv_iload hx hb dL_law_202 (lv_at hl 3 rfl) ?_
      refine lv_iconst (v := 4) hx hb dL_law_204 (by decide) ?_
      refine lv_idiv hx hb dL_law_205 (by decide) ?_
      refine ri_top 0 (by decide +kernel) ?_
      refine lv_sipush (v := 10000) hx hb dL_law_206 (by decide) ?_
      refine lv_irem hx hb dL_law_209 (by decide) ?_
      refine ri_top 0 (by decide +kernel) ?_
      refine lv_iadd hx hb dL_law_210 ?_
      refine ri_top 1 (by decide +kernel) ?_
      have hS0 := hS
      refine ri_ast (j := 0) hx hb hK hP hD (va_S.rb hS) 15 rfl (rfl) (by decide) (by decide) dL_law_211 (fun H locs hP hD hS => ?_)
      have hP : va_P D vwCl (wK a cA (F0s 4) u115 am ar (upd (upd (upd Y 20 4) 21 2) 0 1)) H := hP
      have hD : va_D A (wK a cA (F0s 4) u115 am ar (upd (upd (upd Y 20 4) 21 2) 0 1)) := hD
      have hG : s.heap.size + 88 ≤ H.size := Nat.le_trans hG hS.1
      have hS := va_S.tr hS0 hS
      refine lv_aload_n hx hb dL_law_212 rfl (lv_at hl 10 rfl) ?_
      refine lv_iconst (v := 5) hx hb dL_law_213 (by decide) ?_
      refine lv_iload hx hb dL_law_214 (lv_at hl 1 rfl) ?_
      refine lv_imul hx hb dL_law_216 ?_
      refine ri_top 0 (by decide +kernel) ?_
      refine lv_iconst (v := 1) hx hb dL_law_217 (by decide) ?_
      refine lv_iadd hx hb dL_law_218 ?_
      refine ri_top 1 (by decide +kernel) ?_
      refine lv_aload_n hx hb dL_law_219 rfl (lv_at hl 10 rfl) ?_
      refine lv_iconst (v := 5) hx hb dL_law_220 (by decide) ?_
      refine lv_iload hx hb dL_law_221 (lv_at hl 1 rfl) ?_
      refine lv_imul hx hb dL_law_223 ?_
      refine ri_top 0 (by decide +kernel) ?_
      refine ri_ald (j := 0) hx hb hK hP 15 rfl rfl (by decide) (by decide) dL_law_224 ?_
      refine ri_top 1 rfl ?_
      refine lv_iload hx hb dL_law_225 (lv_at hl 3 rfl) ?_
      refine lv_bipush (v := 7) hx hb dL_law_227 (by decide) ?_
      refine lv_idiv hx hb dL_law_229 (by decide) ?_
      refine ri_top 0 (by decide +kernel) ?_
      refine lv_sipush (v := 10001) hx hb dL_law_230 (by decide) ?_
      refine lv_aload_n hx hb dL_law_233 rfl (lv_at hl 10 rfl) ?_
      refine lv_iconst (v := 5) hx hb dL_law_234 (by decide) ?_
      refine lv_iload hx hb dL_law_235 (lv_at hl 1 rfl) ?_
      refine lv_imul hx hb dL_law_237 ?_
      refine ri_top 0 (by decide +kernel) ?_
      refine ri_ald (j := 0) hx hb hK hP 15 rfl rfl (by decide) (by decide) dL_law_238 ?_
      refine ri_top 1 rfl ?_
      refine lv_isub hx hb dL_law_239 ?_
      refine ri_top 10000 (by decide +kernel) ?_
      refine lv_irem hx hb dL_law_240 (by decide) ?_
      refine ri_top 0 (by decide +kernel) ?_
      refine lv_iadd hx hb dL_law_241 ?_
      refine ri_top 1 (by decide +kernel) ?_
      have hS0 := hS
      refine ri_ast (j := 1) hx hb hK hP hD (va_S.rb hS) 15 rfl (rfl) (by decide) (by decide) dL_law_242 (fun H locs hP hD hS => ?_)
      have hP : va_P D vwCl (wK a cA (F0s 4) u115 am ar (upd (upd (upd (upd Y 20 4) 21 2) 0 1) 1 1)) H := hP
      have hD : va_D A (wK a cA (F0s 4) u115 am ar (upd (upd (upd (upd Y 20 4) 21 2) 0 1) 1 1)) := hD
      have hG : s.heap.size + 88 ≤ H.size := Nat.le_trans hG hS.1
      have hS := va_S.tr hS0 hS
      refine lv_aload_n hx hb dL_law_243 rfl (lv_at hl 8 rfl) ?_
      refine lv_iload hx hb dL_law_244 (lv_at hl 1 rfl) ?_
      refine lv_aload_n hx hb dL_law_246 rfl (lv_at hl 10 rfl) ?_
      refine lv_iconst (v := 5) hx hb dL_law_247 (by decide) ?_
      refine lv_iload hx hb dL_law_248 (lv_at hl 1 rfl) ?_
      refine lv_imul hx hb dL_law_250 ?_
      refine ri_top 0 (by decide +kernel) ?_
      refine ri_ald (j := 0) hx hb hK hP 15 rfl rfl (by decide) (by decide) dL_law_251 ?_
      refine ri_top 1 rfl ?_
      refine lv_aload_n hx hb dL_law_252 rfl (lv_at hl 10 rfl) ?_
      refine lv_iconst (v := 5) hx hb dL_law_253 (by decide) ?_
      refine lv_iload hx hb dL_law_254 (lv_at hl 1 rfl) ?_
      refine lv_imul hx hb dL_law_256 ?_
      refine ri_top 0 (by decide +kernel) ?_
      refine lv_iconst (v := 1) hx hb dL_law_257 (by decide) ?_
      refine lv_iadd hx hb dL_law_258 ?_
      refine ri_top 1 (by decide +kernel) ?_
      refine ri_ald (j := 1) hx hb hK hP 15 rfl rfl (by decide) (by decide) dL_law_259 ?_
      refine ri_top 1 rfl ?_
      refine Lq.callH (rest := []) (wr := [(am, .inl (cA, 7, .inl (fun _ => 0))), (ar, .inl (cA, 22, .inl (upd (upd (upd (upd Y 20 4) 21 2) 0 1) 1 1)))]) [0, 1, 2, 3, 4, 5, 6, 7, 8, 9, 10, 11, 12, 13] [14, 15] ⟨hx, hb, hml, hown, hts⟩ (c_L_setRates l D cA a (F0s 4) u115 0 zs_F0.1 0 1 1 (by decide) (by decide) (by decide)) (vx_cwSW 4 hts gL_law_L_setRates rfl rfl rfl (by decide +kernel) ⟨Nat.le_of_ble_eq_true rfl, Nat.le_of_ble_eq_true rfl⟩) hK hP hD hS hA hZ rfl rfl (by decide) (by decide) (by decide) rfl rfl hl.1 (Nat.le_of_ble_eq_true rfl) dL_law_260 ⟨Nat.le_of_ble_eq_true rfl, Nat.le_of_ble_eq_true rfl⟩ (fun r9 u9 H locs hu9 hP hD hS hG9 => ?_)
      have hP : va_P D vwCl (wK a cA (fUp (fUp (F0s 4) 0 (0 : Int32).toNatClampNeg 1) 1 (0 : Int32).toNatClampNeg 1) u115 am ar (upd (upd (upd (upd Y 20 4) 21 2) 0 1) 1 1)) H := hP.sub [2, 3, 4, 5, 6, 7, 8, 9, 10, 11, 12, 13, 14, 15, 0, 1] rfl
      have hD : va_D A (wK a cA (fUp (fUp (F0s 4) 0 (0 : Int32).toNatClampNeg 1) 1 (0 : Int32).toNatClampNeg 1) u115 am ar (upd (upd (upd (upd Y 20 4) 21 2) 0 1) 1 1)) := hD.sub [2, 3, 4, 5, 6, 7, 8, 9, 10, 11, 12, 13, 14, 15, 0, 1] (by decide) rfl
      have hG : s.heap.size + 88 ≤ H.size := Nat.le_trans hG hG9
      refine ri_top 0 hu9 ?_
      refine lv_if_ne (tgt := 270) hx hb dL_law_263 (by decide) (fun c_263 => (absurd (by decide) c_263 : False).elim) (fun c_263 => ?_)
      refine lv_iconst (v := 1) hx hb dL_law_266 (by decide) ?_
      refine lv_goto (tgt := 271) hx hb dL_law_267 (by decide) ?_
      refine lv_istore (lv' := [(5, .int 1), (11, .int 0), (10, .int 0), (9, .int 0), (8, .int 0), (7, .int 0), (6, .int 0), (0, .ref b), (1, .ref (a 16)), (2, .ref at_), (3, .ref ar), (4, .ref am)]) hx hb dL_law_271 hl (by decide) rfl (fun ls hl => ?_)
      refine lv_goto (tgt := 764) hx hb dL_law_273 (by decide) ?_
      refine lv_iload hx hb dL_law_764 (lv_at hl 4 rfl) ?_
      refine lv_iconst (v := 3) hx hb dL_law_766 (by decide) ?_
      refine lv_irem hx hb dL_law_767 (by decide) ?_
      refine ri_top 0 (by decide +kernel) ?_
      refine lv_if_ne (tgt := 781) hx hb dL_law_768 (by decide) (fun c_768 => (absurd (by decide) c_768 : False).elim) (fun c_768 => ?_)
      refine lv_iload hx hb dL_law_771 (lv_at hl 4 rfl) ?_
      refine lv_iconst (v := 3) hx hb dL_law_773 (by decide) ?_
      refine lv_idiv hx hb dL_law_774 (by decide) ?_
      refine ri_top 0 (by decide +kernel) ?_
      refine lv_bipush (v := 20) hx hb dL_law_775 (by decide) ?_
      refine lv_irem hx hb dL_law_777 (by decide) ?_
      refine ri_top 0 (by decide +kernel) ?_
      refine lv_goto (tgt := 790) hx hb dL_law_778 (by decide) ?_
      refine lv_istore (lv' := [(12, .int 0), (5, .int 1), (11, .int 0), (10, .int 0), (9, .int 0), (8, .int 0), (7, .int 0), (6, .int 0), (0, .ref b), (1, .ref (a 16)), (2, .ref at_), (3, .ref ar), (4, .ref am)]) hx hb dL_law_790 hl (by decide) rfl (fun ls hl => ?_)
      refine lv_iload hx hb dL_law_792 (lv_at hl 1 rfl) ?_
      refine lv_if_eq (tgt := 923) hx hb dL_law_794 (by decide) (fun c_794 => (absurd c_794 (by decide) : False).elim) (fun c_794 => ?_)
      refine lv_aload_n hx hb dL_law_797 rfl (lv_at hl 9 rfl) ?_
      refine lv_aload_n hx hb dL_law_798 rfl (lv_at hl 10 rfl) ?_
      refine lv_aload hx hb dL_law_799 (lv_at hl 12 rfl) ?_
      refine lv_iload hx hb dL_law_801 (lv_at hl 0 rfl) ?_
      refine Lq.callS (rest := []) (wr := []) [0, 1, 2, 3, 4, 5, 6, 7, 8, 9, 10, 11, 12, 13, 14, 15] [] ⟨hx, hb, hml, hown, hts⟩ (k_L_areSums l D cA a (fUp (fUp (F0s 4) 0 (0 : Int32).toNatClampNeg 1) 1 (0 : Int32).toNatClampNeg 1) u115 at_ am ar (upd (upd (upd (upd Y 20 4) 21 2) 0 1) 1 1) zs_F1) (va_cwS 4 hts gL_law_L_areSums rfl rfl rfl (by decide +kernel) ⟨Nat.le_of_ble_eq_true rfl, Nat.le_of_ble_eq_true rfl⟩) hK hP hD hS hA hZ rfl rfl (by decide) (by decide) (by decide) rfl rfl hl.1 (Nat.le_of_ble_eq_true rfl) dL_law_803 ⟨Nat.le_of_ble_eq_true rfl, Nat.le_of_ble_eq_true rfl⟩ (fun r9 u803 H locs hu9 hP hD hS hG9 => ?_)
      have hP : va_P D vwCl (wK a cA (fUp (fUp (F0s 4) 0 (0 : Int32).toNatClampNeg 1) 1 (0 : Int32).toNatClampNeg 1) u803 am ar (upd (upd (upd (upd Y 20 4) 21 2) 0 1) 1 1)) H := hP
      have hD : va_D A (wK a cA (fUp (fUp (F0s 4) 0 (0 : Int32).toNatClampNeg 1) 1 (0 : Int32).toNatClampNeg 1) u803 am ar (upd (upd (upd (upd Y 20 4) 21 2) 0 1) 1 1)) := hD
      have hG : s.heap.size + 88 ≤ H.size := Nat.le_trans (Nat.add_le_add_right hG 0) hG9
      refine ri_top 1 hu9 ?_
      refine lv_if_eq (tgt := 923) hx hb dL_law_806 (by decide) (fun c_806 => (absurd c_806 (by decide) : False).elim) (fun c_806 => ?_)
      refine lv_aload_n hx hb dL_law_809 rfl (lv_at hl 9 rfl) ?_
      refine lv_aload_n hx hb dL_law_810 rfl (lv_at hl 10 rfl) ?_
      refine lv_aload hx hb dL_law_811 (lv_at hl 12 rfl) ?_
      refine lv_iload hx hb dL_law_813 (lv_at hl 5 rfl) ?_
      refine lv_iconst (v := 5) hx hb dL_law_815 (by decide) ?_
      refine lv_idiv hx hb dL_law_816 (by decide) ?_
      refine ri_top 0 (by decide +kernel) ?_
      refine lv_iconst (v := 4) hx hb dL_law_817 (by decide) ?_
      refine lv_irem hx hb dL_law_818 (by decide) ?_
      refine ri_top 0 (by decide +kernel) ?_
      refine lv_iload hx hb dL_law_819 (lv_at hl 0 rfl) ?_
      refine Lq.callS (rest := []) (wr := []) [0, 1, 2, 3, 4, 5, 6, 7, 8, 9, 10, 11, 12, 13, 14, 15] [] ⟨hx, hb, hml, hown, hts⟩ (k_L_isOvertime l D cA a (fUp (fUp (F0s 4) 0 (0 : Int32).toNatClampNeg 1) 1 (0 : Int32).toNatClampNeg 1) u803 at_ am ar (upd (upd (upd (upd Y 20 4) 21 2) 0 1) 1 1) zs_F1) (va_cwS 5 hts gL_law_L_isOvertime rfl rfl rfl (by decide +kernel) ⟨Nat.le_of_ble_eq_true rfl, Nat.le_of_ble_eq_true rfl⟩) hK hP hD hS hA hZ rfl rfl (by decide) (by decide) (by decide) rfl rfl hl.1 (Nat.le_of_ble_eq_true rfl) dL_law_821 ⟨Nat.le_of_ble_eq_true rfl, Nat.le_of_ble_eq_true rfl⟩ (fun r9 u821 H locs hu9 hP hD hS hG9 => ?_)
      have hP : va_P D vwCl (wK a cA (fUp (fUp (F0s 4) 0 (0 : Int32).toNatClampNeg 1) 1 (0 : Int32).toNatClampNeg 1) u821 am ar (upd (upd (upd (upd Y 20 4) 21 2) 0 1) 1 1)) H := hP
      have hD : va_D A (wK a cA (fUp (fUp (F0s 4) 0 (0 : Int32).toNatClampNeg 1) 1 (0 : Int32).toNatClampNeg 1) u821 am ar (upd (upd (upd (upd Y 20 4) 21 2) 0 1) 1 1)) := hD
      have hG : s.heap.size + 88 ≤ H.size := Nat.le_trans (Nat.add_le_add_right hG 0) hG9
      refine ri_top 1 hu9 ?_
      refine lv_if_eq (tgt := 923) hx hb dL_law_824 (by decide) (fun c_824 => (absurd c_824 (by decide) : False).elim) (fun c_824 => ?_)
      refine lv_aload_n hx hb dL_law_827 rfl (lv_at hl 9 rfl) ?_
      refine lv_aload_n hx hb dL_law_828 rfl (lv_at hl 10 rfl) ?_
      refine lv_aload_n hx hb dL_law_829 rfl (lv_at hl 11 rfl) ?_
      refine lv_aload hx hb dL_law_830 (lv_at hl 12 rfl) ?_
      refine lv_iload hx hb dL_law_832 (lv_at hl 5 rfl) ?_
      refine lv_iconst (v := 5) hx hb dL_law_834 (by decide) ?_
      refine lv_idiv hx hb dL_law_835 (by decide) ?_
      refine ri_top 0 (by decide +kernel) ?_
      refine lv_iconst (v := 4) hx hb dL_law_836 (by decide) ?_
      refine lv_irem hx hb dL_law_837 (by decide) ?_
      refine ri_top 0 (by decide +kernel) ?_
      refine lv_iload hx hb dL_law_838 (lv_at hl 5 rfl) ?_
      refine lv_bipush (v := 20) hx hb dL_law_840 (by decide) ?_
      refine lv_idiv hx hb dL_law_842 (by decide) ?_
      refine ri_top 0 (by decide +kernel) ?_
      refine lv_iconst (v := 4) hx hb dL_law_843 (by decide) ?_
      refine lv_irem hx hb dL_law_844 (by decide) ?_
      refine ri_top 0 (by decide +kernel) ?_
      refine lv_iload hx hb dL_law_845 (lv_at hl 0 rfl) ?_
      refine Lq.callS (rest := []) (wr := []) [0, 1, 2, 3, 4, 5, 6, 7, 8, 9, 10, 11, 12, 13, 14, 15] [] ⟨hx, hb, hml, hown, hts⟩ (k_L_isEqual l D cA a (fUp (fUp (F0s 4) 0 (0 : Int32).toNatClampNeg 1) 1 (0 : Int32).toNatClampNeg 1) u821 at_ am ar (upd (upd (upd (upd Y 20 4) 21 2) 0 1) 1 1) zs_F1 rfl) (va_cwS 7 hts gL_law_L_isEqual rfl rfl rfl (by decide +kernel) ⟨Nat.le_of_ble_eq_true rfl, Nat.le_of_ble_eq_true rfl⟩) hK hP hD hS hA hZ rfl rfl (by decide) (by decide) (by decide) rfl rfl hl.1 (Nat.le_of_ble_eq_true rfl) dL_law_847 ⟨Nat.le_of_ble_eq_true rfl, Nat.le_of_ble_eq_true rfl⟩ (fun r9 u847 H locs hu9 hP hD hS hG9 => ?_)
      have hP : va_P D vwCl (wK a cA (fUp (fUp (F0s 4) 0 (0 : Int32).toNatClampNeg 1) 1 (0 : Int32).toNatClampNeg 1) u847 am ar (upd (upd (upd (upd Y 20 4) 21 2) 0 1) 1 1)) H := hP
      have hD : va_D A (wK a cA (fUp (fUp (F0s 4) 0 (0 : Int32).toNatClampNeg 1) 1 (0 : Int32).toNatClampNeg 1) u847 am ar (upd (upd (upd (upd Y 20 4) 21 2) 0 1) 1 1)) := hD
      have hG : s.heap.size + 88 ≤ H.size := Nat.le_trans (Nat.add_le_add_right hG 0) hG9
      refine ri_top 1 hu9 ?_
      refine lv_if_eq (tgt := 923) hx hb dL_law_850 (by decide) (fun c_850 => (absurd c_850 (by decide) : False).elim) (fun c_850 => ?_)
      refine lv_aload_n hx hb dL_law_853 rfl (lv_at hl 9 rfl) ?_
      refine lv_aload_n hx hb dL_law_854 rfl (lv_at hl 10 rfl) ?_
      refine lv_aload_n hx hb dL_law_855 rfl (lv_at hl 11 rfl) ?_
      refine lv_aload hx hb dL_law_856 (lv_at hl 12 rfl) ?_
      refine lv_iconst (v := 0) hx hb dL_law_858 (by decide) ?_
      refine lv_iload hx hb dL_law_859 (lv_at hl 5 rfl) ?_
      refine lv_iconst (v := 3) hx hb dL_law_861 (by decide) ?_
      refine lv_idiv hx hb dL_law_862 (by decide) ?_
      refine ri_top 0 (by decide +kernel) ?_
      refine lv_iconst (v := 4) hx hb dL_law_863 (by decide) ?_
      refine lv_irem hx hb dL_law_864 (by decide) ?_
      refine ri_top 0 (by decide +kernel) ?_
      refine lv_iload hx hb dL_law_865 (lv_at hl 5 rfl) ?_
      refine lv_bipush (v := 12) hx hb dL_law_867 (by decide) ?_
      refine lv_idiv hx hb dL_law_869 (by decide) ?_
      refine ri_top 0 (by decide +kernel) ?_
      refine lv_bipush (v := 20) hx hb dL_law_870 (by decide) ?_
      refine lv_irem hx hb dL_law_872 (by decide) ?_
      refine ri_top 0 (by decide +kernel) ?_
      refine Lq.callS (rest := []) (wr := []) [0, 1, 2, 3, 4, 5, 6, 7, 8, 9, 10, 11, 12, 13, 14, 15] [] ⟨hx, hb, hml, hown, hts⟩ (k_L_isEqual l D cA a (fUp (fUp (F0s 4) 0 (0 : Int32).toNatClampNeg 1) 1 (0 : Int32).toNatClampNeg 1) u847 at_ am ar (upd (upd (upd (upd Y 20 4) 21 2) 0 1) 1 1) zs_F1 rfl) (va_cwS 7 hts gL_law_L_isEqual rfl rfl rfl (by decide +kernel) ⟨Nat.le_of_ble_eq_true rfl, Nat.le_of_ble_eq_true rfl⟩) hK hP hD hS hA hZ rfl rfl (by decide) (by decide) (by decide) rfl rfl hl.1 (Nat.le_of_ble_eq_true rfl) dL_law_873 ⟨Nat.le_of_ble_eq_true rfl, Nat.le_of_ble_eq_true rfl⟩ (fun r9 u873 H locs hu9 hP hD hS hG9 => ?_)
      have hP : va_P D vwCl (wK a cA (fUp (fUp (F0s 4) 0 (0 : Int32).toNatClampNeg 1) 1 (0 : Int32).toNatClampNeg 1) u873 am ar (upd (upd (upd (upd Y 20 4) 21 2) 0 1) 1 1)) H := hP
      have hD : va_D A (wK a cA (fUp (fUp (F0s 4) 0 (0 : Int32).toNatClampNeg 1) 1 (0 : Int32).toNatClampNeg 1) u873 am ar (upd (upd (upd (upd Y 20 4) 21 2) 0 1) 1 1)) := hD
      have hG : s.heap.size + 88 ≤ H.size := Nat.le_trans (Nat.add_le_add_right hG 0) hG9
      refine ri_top 1 hu9 ?_
      refine lv_if_eq (tgt := 923) hx hb dL_law_876 (by decide) (fun c_876 => (absurd c_876 (by decide) : False).elim) (fun c_876 => ?_)
      refine lv_iload hx hb dL_law_879 (lv_at hl 7 rfl) ?_
      refine lv_iconst (v := 2) hx hb dL_law_881 (by decide) ?_
      refine lv_irem hx hb dL_law_882 (by decide) ?_
      refine ri_top 0 (by decide +kernel) ?_
      refine lv_if_gt (tgt := 897) hx hb dL_law_883 (by decide) (fun c_883 => (absurd c_883 (by decide) : False).elim) (fun c_883 => ?_)
      refine lv_aload_n hx hb dL_law_886 rfl (lv_at hl 9 rfl) ?_
      refine lv_aload_n hx hb dL_law_887 rfl (lv_at hl 10 rfl) ?_
      refine lv_aload_n hx hb dL_law_888 rfl (lv_at hl 11 rfl) ?_
      refine lv_aload hx hb dL_law_889 (lv_at hl 12 rfl) ?_
      refine Lq.callS (rest := []) (wr := []) [0, 1, 2, 3, 4, 5, 6, 7, 8, 9, 10, 11, 12, 13, 14, 15] [] ⟨hx, hb, hml, hown, hts⟩ (k_L_areShifts l D cA a (fUp (fUp (F0s 4) 0 (0 : Int32).toNatClampNeg 1) 1 (0 : Int32).toNatClampNeg 1) u873 at_ am ar (upd (upd (upd (upd Y 20 4) 21 2) 0 1) 1 1) zs_F1) (va_cwS 4 hts gL_law_L_areShifts rfl rfl rfl (by decide +kernel) ⟨Nat.le_of_ble_eq_true rfl, Nat.le_of_ble_eq_true rfl⟩) hK hP hD hS hA hZ rfl rfl (by decide) (by decide) (by decide) rfl rfl hl.1 (Nat.le_of_ble_eq_true rfl) dL_law_891 ⟨Nat.le_of_ble_eq_true rfl, Nat.le_of_ble_eq_true rfl⟩ (fun r9 u891 H locs hu9 hP hD hS hG9 => ?_)
      have hP : va_P D vwCl (wK a cA (fUp (fUp (F0s 4) 0 (0 : Int32).toNatClampNeg 1) 1 (0 : Int32).toNatClampNeg 1) u891 am ar (upd (upd (upd (upd Y 20 4) 21 2) 0 1) 1 1)) H := hP
      have hD : va_D A (wK a cA (fUp (fUp (F0s 4) 0 (0 : Int32).toNatClampNeg 1) 1 (0 : Int32).toNatClampNeg 1) u891 am ar (upd (upd (upd (upd Y 20 4) 21 2) 0 1) 1 1)) := hD
      have hG : s.heap.size + 88 ≤ H.size := Nat.le_trans (Nat.add_le_add_right hG 0) hG9
      refine ri_top 1 hu9 ?_
      refine lv_if_eq (tgt := 923) hx hb dL_law_894 (by decide) (fun c_894 => (absurd c_894 (by decide) : False).elim) (fun c_894 => ?_)
      refine lv_iload hx hb dL_law_897 (lv_at hl 7 rfl) ?_
      refine lv_bipush (v := 20) hx hb dL_law_899 (by decide) ?_
      refine lv_irem hx hb dL_law_901 (by decide) ?_
      refine ri_top 0 (by decide +kernel) ?_
      refine lv_if_gt (tgt := 919) hx hb dL_law_902 (by decide) (fun c_902 => (absurd c_902 (by decide) : False).elim) (fun c_902 => ?_)
      refine lv_aload_n hx hb dL_law_905 rfl (lv_at hl 9 rfl) ?_
      refine lv_aload_n hx hb dL_law_906 rfl (lv_at hl 10 rfl) ?_
      refine lv_aload hx hb dL_law_907 (lv_at hl 12 rfl) ?_
      refine lv_iload hx hb dL_law_909 (lv_at hl 6 rfl) ?_
      refine lv_iconst (v := 3) hx hb dL_law_911 (by decide) ?_
      refine lv_idiv hx hb dL_law_912 (by decide) ?_
      refine ri_top 0 (by decide +kernel) ?_
      refine Lq.callS (rest := []) (wr := []) [0, 1, 2, 3, 4, 5, 6, 7, 8, 9, 10, 11, 12, 13, 14, 15] [] ⟨hx, hb, hml, hown, hts⟩ (k_L_isRefused_0 l hl9 D cA a (fUp (fUp (F0s 4) 0 (0 : Int32).toNatClampNeg 1) 1 (0 : Int32).toNatClampNeg 1) u891 at_ am ar (upd (upd (upd (upd Y 20 4) 21 2) 0 1) 1 1) zs_F1) (va_cwS 4 hts gL_law_L_isRefused rfl rfl rfl (by decide +kernel) ⟨Nat.le_of_ble_eq_true rfl, Nat.le_of_ble_eq_true rfl⟩) hK hP hD hS hA hZ rfl rfl (by decide) (by decide) (by decide) rfl rfl hl.1 (Nat.le_of_ble_eq_true rfl) dL_law_913 ⟨Nat.le_of_ble_eq_true rfl, Nat.le_of_ble_eq_true rfl⟩ (fun r9 u913 H locs hu9 hP hD hS hG9 => ?_)
      have hP : va_P D vwCl (wK a cA (fUp (fUp (F0s 4) 0 (0 : Int32).toNatClampNeg 1) 1 (0 : Int32).toNatClampNeg 1) u913 am ar (upd (upd (upd (upd Y 20 4) 21 2) 0 1) 1 1)) H := hP
      have hD : va_D A (wK a cA (fUp (fUp (F0s 4) 0 (0 : Int32).toNatClampNeg 1) 1 (0 : Int32).toNatClampNeg 1) u913 am ar (upd (upd (upd (upd Y 20 4) 21 2) 0 1) 1 1)) := hD
      have hG : s.heap.size + 132 ≤ H.size := Nat.le_trans (Nat.add_le_add_right hG 44) hG9
      refine ri_top 1 hu9 ?_
      refine W.widen (k := 150) (n := 1456) (Nat.le_of_ble_eq_true rfl) (Nat.le_of_ble_eq_true rfl) ?_
      exact KK H locs ls hG
    | succ n ih_27 =>
      intro i  g Y H locs ls hin_27   hP hD hS hl
      have hiN : i < 4 := by omega
      refine lv_iload hx hb dL_law_27 (lv_at hl 5 rfl) ?_
      refine lv_iconst (v := 4) hx hb dL_law_29 (by decide) ?_
      refine lv_icmp_ge (tgt := 89) hx hb dL_law_30 (by decide) (fun c_30 => (absurd (((br_ge h4 (by omega) (by omega : i ≤ 4)).mp c_30)) (by omega) : False).elim) (fun c_30 => ?_)
      refine lv_aload_n hx hb dL_law_33 rfl (lv_at hl 3 rfl) ?_
      refine lv_iconst (v := 5) hx hb dL_law_34 (by decide) ?_
      refine lv_iload hx hb dL_law_35 (lv_at hl 5 rfl) ?_
      refine lv_imul hx hb dL_law_37 ?_
      refine lv_sipush (v := 1000) hx hb dL_law_38 (by decide) ?_
      refine ri_ast (j := (5 * i)) hx hb hK hP hD hS 15 rfl (pk_mul 5 i) (by omega) (by decide) dL_law_41 (fun H locs hP hD hS => ?_)
      have hP : va_P D vwCl (wK a cA (F0s 4) g am ar (upd Y (5 * i) 1000)) H := hP
      have hD : va_D A (wK a cA (F0s 4) g am ar (upd Y (5 * i) 1000)) := hD
      refine lv_aload_n hx hb dL_law_42 rfl (lv_at hl 3 rfl) ?_
      refine lv_iconst (v := 5) hx hb dL_law_43 (by decide) ?_
      refine lv_iload hx hb dL_law_44 (lv_at hl 5 rfl) ?_
      refine lv_imul hx hb dL_law_46 ?_
      refine lv_iconst (v := 1) hx hb dL_law_47 (by decide) ?_
      refine lv_iadd hx hb dL_law_48 ?_
      refine lv_sipush (v := 1200) hx hb dL_law_49 (by decide) ?_
      refine ri_ast (j := (5 * i + 1)) hx hb hK hP hD hS 15 rfl (ix5 i 1) (by omega) (by decide) dL_law_52 (fun H locs hP hD hS => ?_)
      have hP : va_P D vwCl (wK a cA (F0s 4) g am ar (upd (upd Y (5 * i) 1000) (5 * i + 1) 1200)) H := hP
      have hD : va_D A (wK a cA (F0s 4) g am ar (upd (upd Y (5 * i) 1000) (5 * i + 1) 1200)) := hD
      refine lv_aload_n hx hb dL_law_53 rfl (lv_at hl 3 rfl) ?_
      refine lv_iconst (v := 5) hx hb dL_law_54 (by decide) ?_
      refine lv_iload hx hb dL_law_55 (lv_at hl 5 rfl) ?_
      refine lv_imul hx hb dL_law_57 ?_
      refine lv_iconst (v := 2) hx hb dL_law_58 (by decide) ?_
      refine lv_iadd hx hb dL_law_59 ?_
      refine lv_bipush (v := 20) hx hb dL_law_60 (by decide) ?_
      refine ri_ast (j := (5 * i + 2)) hx hb hK hP hD hS 15 rfl (ix5 i 2) (by omega) (by decide) dL_law_62 (fun H locs hP hD hS => ?_)
      have hP : va_P D vwCl (wK a cA (F0s 4) g am ar (upd (upd (upd Y (5 * i) 1000) (5 * i + 1) 1200) (5 * i + 2) 20)) H := hP
      have hD : va_D A (wK a cA (F0s 4) g am ar (upd (upd (upd Y (5 * i) 1000) (5 * i + 1) 1200) (5 * i + 2) 20)) := hD
      refine lv_aload_n hx hb dL_law_63 rfl (lv_at hl 3 rfl) ?_
      refine lv_iconst (v := 5) hx hb dL_law_64 (by decide) ?_
      refine lv_iload hx hb dL_law_65 (lv_at hl 5 rfl) ?_
      refine lv_imul hx hb dL_law_67 ?_
      refine lv_iconst (v := 3) hx hb dL_law_68 (by decide) ?_
      refine lv_iadd hx hb dL_law_69 ?_
      refine lv_bipush (v := 10) hx hb dL_law_70 (by decide) ?_
      refine ri_ast (j := (5 * i + 3)) hx hb hK hP hD hS 15 rfl (ix5 i 3) (by omega) (by decide) dL_law_72 (fun H locs hP hD hS => ?_)
      have hP : va_P D vwCl (wK a cA (F0s 4) g am ar (upd (upd (upd (upd Y (5 * i) 1000) (5 * i + 1) 1200) (5 * i + 2) 20) (5 * i + 3) 10)) H := hP
      have hD : va_D A (wK a cA (F0s 4) g am ar (upd (upd (upd (upd Y (5 * i) 1000) (5 * i + 1) 1200) (5 * i + 2) 20) (5 * i + 3) 10)) := hD
      refine lv_aload_n hx hb dL_law_73 rfl (lv_at hl 3 rfl) ?_
      refine lv_iconst (v := 5) hx hb dL_law_74 (by decide) ?_
      refine lv_iload hx hb dL_law_75 (lv_at hl 5 rfl) ?_
      refine lv_imul hx hb dL_law_77 ?_
      refine lv_iconst (v := 4) hx hb dL_law_78 (by decide) ?_
      refine lv_iadd hx hb dL_law_79 ?_
      refine lv_bipush (v := 100) hx hb dL_law_80 (by decide) ?_
      refine ri_ast (j := (5 * i + 4)) hx hb hK hP hD hS 15 rfl (ix5 i 4) (by omega) (by decide) dL_law_82 (fun H locs hP hD hS => ?_)
      have hP : va_P D vwCl (wK a cA (F0s 4) g am ar (upd (upd (upd (upd (upd Y (5 * i) 1000) (5 * i + 1) 1200) (5 * i + 2) 20) (5 * i + 3) 10) (5 * i + 4) 100)) H := hP
      have hD : va_D A (wK a cA (F0s 4) g am ar (upd (upd (upd (upd (upd Y (5 * i) 1000) (5 * i + 1) 1200) (5 * i + 2) 20) (5 * i + 3) 10) (5 * i + 4) 100)) := hD
      refine lv_iinc (v := (nI (i + 1))) (lv' := [(5, .int (nI (i + 1))), (0, .ref b), (1, .ref (a 16)), (2, .ref at_), (3, .ref ar), (4, .ref am)]) hx hb dL_law_83 hl (k := 5) rfl (nI_1 i) (by decide) rfl (fun ls hl => ?_)
      refine lv_goto (tgt := 27) hx hb dL_law_86 (by decide) ?_
      exact ih_27 (i + 1)  g (upd (upd (upd (upd (upd Y (5 * i) 1000) (5 * i + 1) 1200) (5 * i + 2) 20) (5 * i + 3) 10) (5 * i + 4) 100) _ _ ls (by omega)   hP hD hS (lv_sub hl [1, 2, 3, 4, 5, 0] rfl)
  exact K_27 4 0  g Y _ _ ls (by omega)   hP hD hS (lv_sub hl [1, 2, 3, 4, 5, 0] rfl)

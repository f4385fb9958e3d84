/-! the law's body, case by case; by program (wip/whole/gen) -/
theorem be_f {P : Prop} {d : Decidable P} {x : Int64} {r : Int32} (hf : x = (@ite Int32 P d 1 0).toInt64) (hr : r = @ite Int32 P d 1 0) (h : r = 0) : x = 0 := by
  rw [hf, ← hr, h]; rfl
theorem be_t {P : Prop} {d : Decidable P} {x : Int64} {r : Int32} (hf : x = (@ite Int32 P d 1 0).toInt64) (hr : r = @ite Int32 P d 1 0) (h : ¬ r = 0) : x = 1 := by
  rw [hf]
  by_cases q : P
  · rw [if_pos q]; rfl
  · rw [if_neg q] at hr; exact absurd hr h
set_option maxHeartbeats 4000000 in
set_option maxRecDepth 100000 in
theorem law_setRates {p : Program} {l : Launch} (hl9 : l.stackTraces = false) {e : Env} {s : State} {m : MethodId} {below : List Frame} {meth : Method} {c : Code} {Q : State → Prop} {D : va_G} {cA cL : ClassId} {b L : Nat} {xs : Nat → Int32} (hL : L ≤ 2560) (hx : p.tables.exec = Jvm.exec) (hb : c.code = code) (hml : c.maxLocals = 7) (hown : s.vm.findClass RL = some m.cls) (hts : ∀ w ∈ wsL_law, w.before #[Value.ref b] s = true) (hX : va_X b L xs s s.heap) (hbl : b < s.heap.size) (hK : KL D cA cL s) (hZ : ZX s) {a a2 : Nat → Nat} {ob : Nat} (j : Nat) (hj : 5 * j + 5 ≤ L) (KK : ∀ (N1 : Nat) (F1 : Nat → Nat → Int32) (g1 : Nat → Int32) (th1 : Int32) (fo1 : Nat → Int64) (H1 : Heap) (locs1 : List Loc) (ls1 : Array Slot), wf F1 N1 → hol2 F1 N1 → va_P D vwCl (wA a a2 cA F1 g1 F1 th1 ob cL fo1) H1 → va_D (fun q : Nat => s.heap.size ≤ q) (wA a a2 cA F1 g1 F1 th1 ob cL fo1) → va_S (fun q : Nat => s.heap.size ≤ q) s.heap H1 locs1 → lv_has ls1 7 [(0, .ref b), (1, .ref (a 16)), (2, .ref (a2 16)), (3, .ref ob), (4, .int (nI (5 * j)))] → W p l e room_1 s m #[Value.ref b] below meth c H1 locs1 (28 + (j + 1)) (1132 + 6 * (j + 1)) Q (F0 m 1396 ls1 [])) {N : Nat} {F : Nat → Nat → Int32} {g : Nat → Int32} {th : Int32} {fo : Nat → Int64} {H : Heap} {locs : List Loc} {ls : Array Slot} (hW : wf F N) (hH : hol2 F N) (hP : va_P D vwCl (wA a a2 cA F g F th ob cL fo) H) (hD : va_D (fun q : Nat => s.heap.size ≤ q) (wA a a2 cA F g F th ob cL fo)) (hS : va_S (fun q : Nat => s.heap.size ≤ q) s.heap H locs) (hl : lv_has ls 7 [(0, .ref b), (1, .ref (a 16)), (2, .ref (a2 16)), (3, .ref ob), (4, .int (nI (5 * j)))]) : W p l e room_1 s m #[Value.ref b] below meth c H locs (28 + j) (1132 + 6 * j) Q (F0 m 132 ls []) := by
  have hA : ∀ q : Nat, s.heap.size ≤ q → (fun q : Nat => s.heap.size ≤ q) q := fun _ h => h
  have hbA : ¬ (fun q : Nat => s.heap.size ≤ q) b := Nat.not_le.mpr hbl
  have hKA : KA D cA s := hK.sub [0] rfl
  refine lv_aload_n hx hb dL_law_132 rfl (lv_at hl 1 rfl) ?_
  refine lv_aload_n hx hb dL_law_133 rfl (lv_at hl 0 rfl) ?_
  refine lv_iload hx hb dL_law_134 (lv_at hl 4 rfl) ?_
  refine lv_iconst (v := 1) hx hb dL_law_136 (by decide) ?_
  refine lv_iadd hx hb dL_law_137 ?_
  refine ri_sld (jj := 5 * j + 1) hx hb hX hbl hbA hS (nI_add (5 * j) 1) (by omega) hL dL_law_138 ?_
  refine lv_aload_n hx hb dL_law_139 rfl (lv_at hl 0 rfl) ?_
  refine lv_iload hx hb dL_law_140 (lv_at hl 4 rfl) ?_
  refine lv_iconst (v := 2) hx hb dL_law_142 (by decide) ?_
  refine lv_iadd hx hb dL_law_143 ?_
  refine ri_sld (jj := 5 * j + 2) hx hb hX hbl hbA hS (nI_add (5 * j) 2) (by omega) hL dL_law_144 ?_
  refine lv_aload_n hx hb dL_law_145 rfl (lv_at hl 0 rfl) ?_
  refine lv_iload hx hb dL_law_146 (lv_at hl 4 rfl) ?_
  refine lv_iconst (v := 3) hx hb dL_law_148 (by decide) ?_
  refine lv_iadd hx hb dL_law_149 ?_
  refine ri_sld (jj := 5 * j + 3) hx hb hX hbl hbA hS (nI_add (5 * j) 3) (by omega) hL dL_law_150 ?_
  refine Lw.callS (rest := []) (wr := (wM a2 cA F th ++ wO ob cL fo)) [0, 1, 2, 3, 4, 5, 6, 7, 8, 9, 10, 11, 12, 13] [14, 15, 16, 17, 18, 19, 20, 21, 22, 23, 24, 25, 26, 27] ⟨hx, hb, hml, hown, hts⟩ (c_L_setRates l hl9 D cA cL a F g N hW (xs (5 * j + 1)) (xs (5 * j + 2)) (xs (5 * j + 3))) (vx_cwSW 4 hts gL_law_L_setRates rfl rfl rfl (by decide +kernel) ⟨Nat.le_of_ble_eq_true rfl, Nat.le_of_ble_eq_true rfl⟩) hK hP hD hS hA (hZ.later hS) rfl rfl (by decide) (by decide) (by decide) rfl rfl hl.1 (Nat.le_of_ble_eq_true rfl) dL_law_151 ⟨(by show 28 + j + 1 ≤ 1055; omega), (by show 1132 + 6 * j + 6 ≤ 9342; omega)⟩ (fun r9 u9 H locs hu9 hP hD hS => ?_)
  obtain ⟨hk9, h09, hn9⟩ := hu9
  have hP : va_P D vwCl (wA a a2 cA u9.1 u9.2 F th ob cL fo) H := hP.sub [14, 15, 16, 17, 18, 19, 20, 21, 22, 23, 24, 25, 26, 27, 0, 1, 2, 3, 4, 5, 6, 7, 8, 9, 10, 11, 12, 13] rfl
  have hD : va_D (fun q : Nat => s.heap.size ≤ q) (wA a a2 cA u9.1 u9.2 F th ob cL fo) := hD.sub [14, 15, 16, 17, 18, 19, 20, 21, 22, 23, 24, 25, 26, 27, 0, 1, 2, 3, 4, 5, 6, 7, 8, 9, 10, 11, 12, 13] (by decide) rfl
  refine lv_istore (lv' := [(5, .int r9), (0, .ref b), (1, .ref (a 16)), (2, .ref (a2 16)), (3, .ref ob), (4, .int (nI (5 * j)))]) hx hb dL_law_154 hl (by decide) rfl (fun ls hl => ?_)
  refine lv_aload_n hx hb dL_law_156 rfl (lv_at hl 3 rfl) ?_
  refine lv_aload_n hx hb dL_law_157 rfl (lv_at hl 1 rfl) ?_
  refine lv_iload hx hb dL_law_158 (lv_at hl 5 rfl) ?_
  refine lv_iconst (v := 1) hx hb dL_law_160 (by decide) ?_
  refine lv_iadd hx hb dL_law_161 ?_
  refine ri_sld (jj := 5 * j + 1) hx hb hX hbl hbA hS (nI_add (5 * j) 1) (by omega) hL dL_law_162 ?_
  refine lv_aload_n hx hb dL_law_163 rfl (lv_at hl 1 rfl) ?_
  refine lv_iload hx hb dL_law_164 (lv_at hl 5 rfl) ?_
  refine lv_iconst (v := 2) hx hb dL_law_166 (by decide) ?_
  refine lv_iadd hx hb dL_law_167 ?_
  refine ri_sld (jj := 5 * j + 2) hx hb hX hbl hbA hS (nI_add (5 * j) 2) (by omega) hL dL_law_168 ?_
  refine lv_aload_n hx hb dL_law_169 rfl (lv_at hl 1 rfl) ?_
  refine lv_iload hx hb dL_law_170 (lv_at hl 5 rfl) ?_
  refine lv_iconst (v := 3) hx hb dL_law_172 (by decide) ?_
  refine lv_iadd hx hb dL_law_173 ?_
  refine ri_sld (jj := 5 * j + 3) hx hb hX hbl hbA hS (nI_add (5 * j) 3) (by omega) hL dL_law_174 ?_
  refine Wv.callV (rest := []) (q0 := 14) (ci := 1) (wr := (wX a cA u9.1 u9.2 ++ wO ob cL fo)) [14, 15, 16, 17, 18, 19, 20, 21, 22, 23, 24, 25, 26] [0, 1, 2, 3, 4, 5, 6, 7, 8, 9, 10, 11, 12, 13, 27] ⟨hx, hb, hml, hown, hts⟩ (c_X1_setRates l D cA a2 F th N hW (xs (5 * j + 1)) (xs (5 * j + 2)) (xs (5 * j + 3))) (cwV 3 hts gL_law_X1_setRates rfl rfl rfl (by decide +kernel) ⟨Nat.le_of_ble_eq_true rfl, Nat.le_of_ble_eq_true rfl⟩) hKA hP hD hS hA rfl rfl (by decide) (by decide) (by decide) rfl rfl rfl rfl rfl hl.1 (Nat.le_of_ble_eq_true rfl) dL_law_175 ⟨(by show 28 + j + 1 ≤ 1055; omega), (by show 1132 + 6 * j + 6 ≤ 9342; omega)⟩ (fun u8 H locs hu8 hP hD hS => ?_)
  obtain ⟨hk8, h08, hn8⟩ := hu8
  have hP : va_P D vwCl (wA a a2 cA u9.1 u9.2 u8.1 u8.2 ob cL fo) H := hP.sub [0, 1, 2, 3, 4, 5, 6, 7, 8, 9, 10, 11, 12, 13, 15, 16, 17, 18, 19, 20, 21, 22, 23, 24, 25, 26, 27, 14] rfl
  have hD : va_D (fun q : Nat => s.heap.size ≤ q) (wA a a2 cA u9.1 u9.2 u8.1 u8.2 ob cL fo) := hD.sub [0, 1, 2, 3, 4, 5, 6, 7, 8, 9, 10, 11, 12, 13, 15, 16, 17, 18, 19, 20, 21, 22, 23, 24, 25, 26, 27, 14] (by decide) rfl
  have hFF : u8.1 = u9.1 := F_same h09 hn9 h08 hn8
  rw [hFF] at hP hD
  obtain ⟨N1, hW1, hH1⟩ : INV u9.1 := inv_of hW hH h09 hn9 (fun _ => inv_rates hW hH _ _ _)
  refine lv_aload_n hx hb dL_law_178 rfl (lv_at hl 3 rfl) ?_
  refine Rd.callV (rest := []) (q0 := 0) (ci := 1) ⟨hx, hb, hml, hown, hts⟩ (c_X1_thrown l D cA a2 u9.1 u8.2) (cwV 0 hts gL_law_X1_thrown rfl rfl rfl (by decide +kernel) ⟨Nat.le_of_ble_eq_true rfl, Nat.le_of_ble_eq_true rfl⟩) hKA (hP.sub [14, 15, 16, 17, 18, 19, 20, 21, 22, 23, 24, 25, 26] rfl : va_P D vwCl (wM a2 cA u9.1 u8.2) H) rfl rfl rfl rfl rfl hl.1 (Nat.le_of_ble_eq_true rfl) dL_law_179 ⟨(by show 28 + j + 1 ≤ 1055; omega), (by show 1132 + 6 * j + 6 ≤ 9342; omega)⟩ ?_
  refine lv_iload hx hb dL_law_182 (lv_at hl 0 rfl) ?_
  refine lv_icmp_eq (tgt := 189) hx hb dL_law_184 (by decide) (fun c_184 => ?_) (fun c_184 => (c_184 (hk8.trans hk9.symm) : False).elim)
  refine lv_goto (tgt := 1396) hx hb dL_law_189 (by decide) ?_
  refine W.widen (k := 28 + (j + 1)) (n := 1132 + 6 * (j + 1)) (by omega) (by omega) ?_
  exact KK N1 _ _ _ _ _ _ ls hW1 hH1 hP hD hS (lv_sub hl [1, 2, 3, 4, 5] rfl)
set_option maxHeartbeats 4000000 in
set_option maxRecDepth 100000 in
theorem law_setMargins {p : Program} {l : Launch} (hl9 : l.stackTraces = false) {e : Env} {s : State} {m : MethodId} {below : List Frame} {meth : Method} {c : Code} {Q : State → Prop} {D : va_G} {cA cL : ClassId} {b L : Nat} {xs : Nat → Int32} (hL : L ≤ 2560) (hx : p.tables.exec = Jvm.exec) (hb : c.code = code) (hml : c.maxLocals = 7) (hown : s.vm.findClass RL = some m.cls) (hts : ∀ w ∈ wsL_law, w.before #[Value.ref b] s = true) (hX : va_X b L xs s s.heap) (hbl : b < s.heap.size) (hK : KL D cA cL s) (hZ : ZX s) {a a2 : Nat → Nat} {ob : Nat} (j : Nat) (hj : 5 * j + 5 ≤ L) (KK : ∀ (N1 : Nat) (F1 : Nat → Nat → Int32) (g1 : Nat → Int32) (th1 : Int32) (fo1 : Nat → Int64) (H1 : Heap) (locs1 : List Loc) (ls1 : Array Slot), wf F1 N1 → hol2 F1 N1 → va_P D vwCl (wA a a2 cA F1 g1 F1 th1 ob cL fo1) H1 → va_D (fun q : Nat => s.heap.size ≤ q) (wA a a2 cA F1 g1 F1 th1 ob cL fo1) → va_S (fun q : Nat => s.heap.size ≤ q) s.heap H1 locs1 → lv_has ls1 7 [(0, .ref b), (1, .ref (a 16)), (2, .ref (a2 16)), (3, .ref ob), (4, .int (nI (5 * j)))] → W p l e room_1 s m #[Value.ref b] below meth c H1 locs1 (28 + (j + 1)) (1132 + 6 * (j + 1)) Q (F0 m 1396 ls1 [])) {N : Nat} {F : Nat → Nat → Int32} {g : Nat → Int32} {th : Int32} {fo : Nat → Int64} {H : Heap} {locs : List Loc} {ls : Array Slot} (hW : wf F N) (hH : hol2 F N) (hP : va_P D vwCl (wA a a2 cA F g F th ob cL fo) H) (hD : va_D (fun q : Nat => s.heap.size ≤ q) (wA a a2 cA F g F th ob cL fo)) (hS : va_S (fun q : Nat => s.heap.size ≤ q) s.heap H locs) (hl : lv_has ls 7 [(0, .ref b), (1, .ref (a 16)), (2, .ref (a2 16)), (3, .ref ob), (4, .int (nI (5 * j)))]) : W p l e room_1 s m #[Value.ref b] below meth c H locs (28 + j) (1132 + 6 * j) Q (F0 m 192 ls []) := by
  have hA : ∀ q : Nat, s.heap.size ≤ q → (fun q : Nat => s.heap.size ≤ q) q := fun _ h => h
  have hbA : ¬ (fun q : Nat => s.heap.size ≤ q) b := Nat.not_le.mpr hbl
  have hKA : KA D cA s := hK.sub [0] rfl
  refine lv_aload_n hx hb dL_law_192 rfl (lv_at hl 1 rfl) ?_
  refine lv_aload_n hx hb dL_law_193 rfl (lv_at hl 0 rfl) ?_
  refine lv_iload hx hb dL_law_194 (lv_at hl 4 rfl) ?_
  refine lv_iconst (v := 1) hx hb dL_law_196 (by decide) ?_
  refine lv_iadd hx hb dL_law_197 ?_
  refine ri_sld (jj := 5 * j + 1) hx hb hX hbl hbA hS (nI_add (5 * j) 1) (by omega) hL dL_law_198 ?_
  refine lv_aload_n hx hb dL_law_199 rfl (lv_at hl 0 rfl) ?_
  refine lv_iload hx hb dL_law_200 (lv_at hl 4 rfl) ?_
  refine lv_iconst (v := 2) hx hb dL_law_202 (by decide) ?_
  refine lv_iadd hx hb dL_law_203 ?_
  refine ri_sld (jj := 5 * j + 2) hx hb hX hbl hbA hS (nI_add (5 * j) 2) (by omega) hL dL_law_204 ?_
  refine lv_aload_n hx hb dL_law_205 rfl (lv_at hl 0 rfl) ?_
  refine lv_iload hx hb dL_law_206 (lv_at hl 4 rfl) ?_
  refine lv_iconst (v := 3) hx hb dL_law_208 (by decide) ?_
  refine lv_iadd hx hb dL_law_209 ?_
  refine ri_sld (jj := 5 * j + 3) hx hb hX hbl hbA hS (nI_add (5 * j) 3) (by omega) hL dL_law_210 ?_
  refine lv_aload_n hx hb dL_law_211 rfl (lv_at hl 0 rfl) ?_
  refine lv_iload hx hb dL_law_212 (lv_at hl 4 rfl) ?_
  refine lv_iconst (v := 4) hx hb dL_law_214 (by decide) ?_
  refine lv_iadd hx hb dL_law_215 ?_
  refine ri_sld (jj := 5 * j + 4) hx hb hX hbl hbA hS (nI_add (5 * j) 4) (by omega) hL dL_law_216 ?_
  refine Lw.callS (rest := []) (wr := (wM a2 cA F th ++ wO ob cL fo)) [0, 1, 2, 3, 4, 5, 6, 7, 8, 9, 10, 11, 12, 13] [14, 15, 16, 17, 18, 19, 20, 21, 22, 23, 24, 25, 26, 27] ⟨hx, hb, hml, hown, hts⟩ (c_L_setMargins l hl9 D cA cL a F g N hW (xs (5 * j + 1)) (xs (5 * j + 2)) (xs (5 * j + 3)) (xs (5 * j + 4))) (vx_cwSW 5 hts gL_law_L_setMargins rfl rfl rfl (by decide +kernel) ⟨Nat.le_of_ble_eq_true rfl, Nat.le_of_ble_eq_true rfl⟩) hK hP hD hS hA (hZ.later hS) rfl rfl (by decide) (by decide) (by decide) rfl rfl hl.1 (Nat.le_of_ble_eq_true rfl) dL_law_217 ⟨(by show 28 + j + 1 ≤ 1055; omega), (by show 1132 + 6 * j + 6 ≤ 9342; omega)⟩ (fun r9 u9 H locs hu9 hP hD hS => ?_)
  obtain ⟨hk9, h09, hn9⟩ := hu9
  have hP : va_P D vwCl (wA a a2 cA u9.1 u9.2 F th ob cL fo) H := hP.sub [14, 15, 16, 17, 18, 19, 20, 21, 22, 23, 24, 25, 26, 27, 0, 1, 2, 3, 4, 5, 6, 7, 8, 9, 10, 11, 12, 13] rfl
  have hD : va_D (fun q : Nat => s.heap.size ≤ q) (wA a a2 cA u9.1 u9.2 F th ob cL fo) := hD.sub [14, 15, 16, 17, 18, 19, 20, 21, 22, 23, 24, 25, 26, 27, 0, 1, 2, 3, 4, 5, 6, 7, 8, 9, 10, 11, 12, 13] (by decide) rfl
  refine lv_istore (lv' := [(5, .int r9), (0, .ref b), (1, .ref (a 16)), (2, .ref (a2 16)), (3, .ref ob), (4, .int (nI (5 * j)))]) hx hb dL_law_220 hl (by decide) rfl (fun ls hl => ?_)
  refine lv_aload_n hx hb dL_law_222 rfl (lv_at hl 3 rfl) ?_
  refine lv_aload_n hx hb dL_law_223 rfl (lv_at hl 1 rfl) ?_
  refine lv_iload hx hb dL_law_224 (lv_at hl 5 rfl) ?_
  refine lv_iconst (v := 1) hx hb dL_law_226 (by decide) ?_
  refine lv_iadd hx hb dL_law_227 ?_
  refine ri_sld (jj := 5 * j + 1) hx hb hX hbl hbA hS (nI_add (5 * j) 1) (by omega) hL dL_law_228 ?_
  refine lv_aload_n hx hb dL_law_229 rfl (lv_at hl 1 rfl) ?_
  refine lv_iload hx hb dL_law_230 (lv_at hl 5 rfl) ?_
  refine lv_iconst (v := 2) hx hb dL_law_232 (by decide) ?_
  refine lv_iadd hx hb dL_law_233 ?_
  refine ri_sld (jj := 5 * j + 2) hx hb hX hbl hbA hS (nI_add (5 * j) 2) (by omega) hL dL_law_234 ?_
  refine lv_aload_n hx hb dL_law_235 rfl (lv_at hl 1 rfl) ?_
  refine lv_iload hx hb dL_law_236 (lv_at hl 5 rfl) ?_
  refine lv_iconst (v := 3) hx hb dL_law_238 (by decide) ?_
  refine lv_iadd hx hb dL_law_239 ?_
  refine ri_sld (jj := 5 * j + 3) hx hb hX hbl hbA hS (nI_add (5 * j) 3) (by omega) hL dL_law_240 ?_
  refine lv_aload_n hx hb dL_law_241 rfl (lv_at hl 1 rfl) ?_
  refine lv_iload hx hb dL_law_242 (lv_at hl 5 rfl) ?_
  refine lv_iconst (v := 4) hx hb dL_law_244 (by decide) ?_
  refine lv_iadd hx hb dL_law_245 ?_
  refine ri_sld (jj := 5 * j + 4) hx hb hX hbl hbA hS (nI_add (5 * j) 4) (by omega) hL dL_law_246 ?_
  refine Wv.callV (rest := []) (q0 := 14) (ci := 1) (wr := (wX a cA u9.1 u9.2 ++ wO ob cL fo)) [14, 15, 16, 17, 18, 19, 20, 21, 22, 23, 24, 25, 26] [0, 1, 2, 3, 4, 5, 6, 7, 8, 9, 10, 11, 12, 13, 27] ⟨hx, hb, hml, hown, hts⟩ (c_X1_setMargins l D cA a2 F th N hW (xs (5 * j + 1)) (xs (5 * j + 2)) (xs (5 * j + 3)) (xs (5 * j + 4))) (cwV 4 hts gL_law_X1_setMargins rfl rfl rfl (by decide +kernel) ⟨Nat.le_of_ble_eq_true rfl, Nat.le_of_ble_eq_true rfl⟩) hKA hP hD hS hA rfl rfl (by decide) (by decide) (by decide) rfl rfl rfl rfl rfl hl.1 (Nat.le_of_ble_eq_true rfl) dL_law_247 ⟨(by show 28 + j + 1 ≤ 1055; omega), (by show 1132 + 6 * j + 6 ≤ 9342; omega)⟩ (fun u8 H locs hu8 hP hD hS => ?_)
  obtain ⟨hk8, h08, hn8⟩ := hu8
  have hP : va_P D vwCl (wA a a2 cA u9.1 u9.2 u8.1 u8.2 ob cL fo) H := hP.sub [0, 1, 2, 3, 4, 5, 6, 7, 8, 9, 10, 11, 12, 13, 15, 16, 17, 18, 19, 20, 21, 22, 23, 24, 25, 26, 27, 14] rfl
  have hD : va_D (fun q : Nat => s.heap.size ≤ q) (wA a a2 cA u9.1 u9.2 u8.1 u8.2 ob cL fo) := hD.sub [0, 1, 2, 3, 4, 5, 6, 7, 8, 9, 10, 11, 12, 13, 15, 16, 17, 18, 19, 20, 21, 22, 23, 24, 25, 26, 27, 14] (by decide) rfl
  have hFF : u8.1 = u9.1 := F_same h09 hn9 h08 hn8
  rw [hFF] at hP hD
  obtain ⟨N1, hW1, hH1⟩ : INV u9.1 := inv_of hW hH h09 hn9 (fun _ => inv_margins hW hH _ _ _ _)
  refine lv_aload_n hx hb dL_law_250 rfl (lv_at hl 3 rfl) ?_
  refine Rd.callV (rest := []) (q0 := 0) (ci := 1) ⟨hx, hb, hml, hown, hts⟩ (c_X1_thrown l D cA a2 u9.1 u8.2) (cwV 0 hts gL_law_X1_thrown rfl rfl rfl (by decide +kernel) ⟨Nat.le_of_ble_eq_true rfl, Nat.le_of_ble_eq_true rfl⟩) hKA (hP.sub [14, 15, 16, 17, 18, 19, 20, 21, 22, 23, 24, 25, 26] rfl : va_P D vwCl (wM a2 cA u9.1 u8.2) H) rfl rfl rfl rfl rfl hl.1 (Nat.le_of_ble_eq_true rfl) dL_law_251 ⟨(by show 28 + j + 1 ≤ 1055; omega), (by show 1132 + 6 * j + 6 ≤ 9342; omega)⟩ ?_
  refine lv_iload hx hb dL_law_254 (lv_at hl 0 rfl) ?_
  refine lv_icmp_eq (tgt := 261) hx hb dL_law_256 (by decide) (fun c_256 => ?_) (fun c_256 => (c_256 (hk8.trans hk9.symm) : False).elim)
  refine lv_goto (tgt := 1396) hx hb dL_law_261 (by decide) ?_
  refine W.widen (k := 28 + (j + 1)) (n := 1132 + 6 * (j + 1)) (by omega) (by omega) ?_
  exact KK N1 _ _ _ _ _ _ ls hW1 hH1 hP hD hS (lv_sub hl [1, 2, 3, 4, 5] rfl)
set_option maxHeartbeats 4000000 in
set_option maxRecDepth 100000 in
theorem law_setEqual {p : Program} {l : Launch} (hl9 : l.stackTraces = false) {e : Env} {s : State} {m : MethodId} {below : List Frame} {meth : Method} {c : Code} {Q : State → Prop} {D : va_G} {cA cL : ClassId} {b L : Nat} {xs : Nat → Int32} (hL : L ≤ 2560) (hx : p.tables.exec = Jvm.exec) (hb : c.code = code) (hml : c.maxLocals = 7) (hown : s.vm.findClass RL = some m.cls) (hts : ∀ w ∈ wsL_law, w.before #[Value.ref b] s = true) (hX : va_X b L xs s s.heap) (hbl : b < s.heap.size) (hK : KL D cA cL s) (hZ : ZX s) {a a2 : Nat → Nat} {ob : Nat} (j : Nat) (hj : 5 * j + 5 ≤ L) (KK : ∀ (N1 : Nat) (F1 : Nat → Nat → Int32) (g1 : Nat → Int32) (th1 : Int32) (fo1 : Nat → Int64) (H1 : Heap) (locs1 : List Loc) (ls1 : Array Slot), wf F1 N1 → hol2 F1 N1 → va_P D vwCl (wA a a2 cA F1 g1 F1 th1 ob cL fo1) H1 → va_D (fun q : Nat => s.heap.size ≤ q) (wA a a2 cA F1 g1 F1 th1 ob cL fo1) → va_S (fun q : Nat => s.heap.size ≤ q) s.heap H1 locs1 → lv_has ls1 7 [(0, .ref b), (1, .ref (a 16)), (2, .ref (a2 16)), (3, .ref ob), (4, .int (nI (5 * j)))] → W p l e room_1 s m #[Value.ref b] below meth c H1 locs1 (28 + (j + 1)) (1132 + 6 * (j + 1)) Q (F0 m 1396 ls1 [])) {N : Nat} {F : Nat → Nat → Int32} {g : Nat → Int32} {th : Int32} {fo : Nat → Int64} {H : Heap} {locs : List Loc} {ls : Array Slot} (hW : wf F N) (hH : hol2 F N) (hP : va_P D vwCl (wA a a2 cA F g F th ob cL fo) H) (hD : va_D (fun q : Nat => s.heap.size ≤ q) (wA a a2 cA F g F th ob cL fo)) (hS : va_S (fun q : Nat => s.heap.size ≤ q) s.heap H locs) (hl : lv_has ls 7 [(0, .ref b), (1, .ref (a 16)), (2, .ref (a2 16)), (3, .ref ob), (4, .int (nI (5 * j)))]) : W p l e room_1 s m #[Value.ref b] below meth c H locs (28 + j) (1132 + 6 * j) Q (F0 m 264 ls []) := by
  have hA : ∀ q : Nat, s.heap.size ≤ q → (fun q : Nat => s.heap.size ≤ q) q := fun _ h => h
  have hbA : ¬ (fun q : Nat => s.heap.size ≤ q) b := Nat.not_le.mpr hbl
  have hKA : KA D cA s := hK.sub [0] rfl
  refine lv_aload_n hx hb dL_law_264 rfl (lv_at hl 1 rfl) ?_
  refine lv_aload_n hx hb dL_law_265 rfl (lv_at hl 0 rfl) ?_
  refine lv_iload hx hb dL_law_266 (lv_at hl 4 rfl) ?_
  refine lv_iconst (v := 1) hx hb dL_law_268 (by decide) ?_
  refine lv_iadd hx hb dL_law_269 ?_
  refine ri_sld (jj := 5 * j + 1) hx hb hX hbl hbA hS (nI_add (5 * j) 1) (by omega) hL dL_law_270 ?_
  refine lv_aload_n hx hb dL_law_271 rfl (lv_at hl 0 rfl) ?_
  refine lv_iload hx hb dL_law_272 (lv_at hl 4 rfl) ?_
  refine lv_iconst (v := 2) hx hb dL_law_274 (by decide) ?_
  refine lv_iadd hx hb dL_law_275 ?_
  refine ri_sld (jj := 5 * j + 2) hx hb hX hbl hbA hS (nI_add (5 * j) 2) (by omega) hL dL_law_276 ?_
  refine Lw.callS (rest := []) (wr := (wM a2 cA F th ++ wO ob cL fo)) [0, 1, 2, 3, 4, 5, 6, 7, 8, 9, 10, 11, 12, 13] [14, 15, 16, 17, 18, 19, 20, 21, 22, 23, 24, 25, 26, 27] ⟨hx, hb, hml, hown, hts⟩ (c_L_setEqual l hl9 D cA cL a F g N hW (xs (5 * j + 1)) (xs (5 * j + 2))) (vx_cwSW 3 hts gL_law_L_setEqual rfl rfl rfl (by decide +kernel) ⟨Nat.le_of_ble_eq_true rfl, Nat.le_of_ble_eq_true rfl⟩) hK hP hD hS hA (hZ.later hS) rfl rfl (by decide) (by decide) (by decide) rfl rfl hl.1 (Nat.le_of_ble_eq_true rfl) dL_law_277 ⟨(by show 28 + j + 1 ≤ 1055; omega), (by show 1132 + 6 * j + 6 ≤ 9342; omega)⟩ (fun r9 u9 H locs hu9 hP hD hS => ?_)
  obtain ⟨hk9, h09, hn9⟩ := hu9
  have hP : va_P D vwCl (wA a a2 cA u9.1 u9.2 F th ob cL fo) H := hP.sub [14, 15, 16, 17, 18, 19, 20, 21, 22, 23, 24, 25, 26, 27, 0, 1, 2, 3, 4, 5, 6, 7, 8, 9, 10, 11, 12, 13] rfl
  have hD : va_D (fun q : Nat => s.heap.size ≤ q) (wA a a2 cA u9.1 u9.2 F th ob cL fo) := hD.sub [14, 15, 16, 17, 18, 19, 20, 21, 22, 23, 24, 25, 26, 27, 0, 1, 2, 3, 4, 5, 6, 7, 8, 9, 10, 11, 12, 13] (by decide) rfl
  refine lv_istore (lv' := [(5, .int r9), (0, .ref b), (1, .ref (a 16)), (2, .ref (a2 16)), (3, .ref ob), (4, .int (nI (5 * j)))]) hx hb dL_law_280 hl (by decide) rfl (fun ls hl => ?_)
  refine lv_aload_n hx hb dL_law_282 rfl (lv_at hl 3 rfl) ?_
  refine lv_aload_n hx hb dL_law_283 rfl (lv_at hl 1 rfl) ?_
  refine lv_iload hx hb dL_law_284 (lv_at hl 5 rfl) ?_
  refine lv_iconst (v := 1) hx hb dL_law_286 (by decide) ?_
  refine lv_iadd hx hb dL_law_287 ?_
  refine ri_sld (jj := 5 * j + 1) hx hb hX hbl hbA hS (nI_add (5 * j) 1) (by omega) hL dL_law_288 ?_
  refine lv_aload_n hx hb dL_law_289 rfl (lv_at hl 1 rfl) ?_
  refine lv_iload hx hb dL_law_290 (lv_at hl 5 rfl) ?_
  refine lv_iconst (v := 2) hx hb dL_law_292 (by decide) ?_
  refine lv_iadd hx hb dL_law_293 ?_
  refine ri_sld (jj := 5 * j + 2) hx hb hX hbl hbA hS (nI_add (5 * j) 2) (by omega) hL dL_law_294 ?_
  refine Wv.callV (rest := []) (q0 := 14) (ci := 1) (wr := (wX a cA u9.1 u9.2 ++ wO ob cL fo)) [14, 15, 16, 17, 18, 19, 20, 21, 22, 23, 24, 25, 26] [0, 1, 2, 3, 4, 5, 6, 7, 8, 9, 10, 11, 12, 13, 27] ⟨hx, hb, hml, hown, hts⟩ (c_X1_setEqual l D cA a2 F th N hW (xs (5 * j + 1)) (xs (5 * j + 2))) (cwV 2 hts gL_law_X1_setEqual rfl rfl rfl (by decide +kernel) ⟨Nat.le_of_ble_eq_true rfl, Nat.le_of_ble_eq_true rfl⟩) hKA hP hD hS hA rfl rfl (by decide) (by decide) (by decide) rfl rfl rfl rfl rfl hl.1 (Nat.le_of_ble_eq_true rfl) dL_law_295 ⟨(by show 28 + j + 1 ≤ 1055; omega), (by show 1132 + 6 * j + 6 ≤ 9342; omega)⟩ (fun u8 H locs hu8 hP hD hS => ?_)
  obtain ⟨hk8, h08, hn8⟩ := hu8
  have hP : va_P D vwCl (wA a a2 cA u9.1 u9.2 u8.1 u8.2 ob cL fo) H := hP.sub [0, 1, 2, 3, 4, 5, 6, 7, 8, 9, 10, 11, 12, 13, 15, 16, 17, 18, 19, 20, 21, 22, 23, 24, 25, 26, 27, 14] rfl
  have hD : va_D (fun q : Nat => s.heap.size ≤ q) (wA a a2 cA u9.1 u9.2 u8.1 u8.2 ob cL fo) := hD.sub [0, 1, 2, 3, 4, 5, 6, 7, 8, 9, 10, 11, 12, 13, 15, 16, 17, 18, 19, 20, 21, 22, 23, 24, 25, 26, 27, 14] (by decide) rfl
  have hFF : u8.1 = u9.1 := F_same h09 hn9 h08 hn8
  rw [hFF] at hP hD
  obtain ⟨N1, hW1, hH1⟩ : INV u9.1 := inv_of hW hH h09 hn9 (fun _ => inv_equal hW hH _ _)
  refine lv_aload_n hx hb dL_law_298 rfl (lv_at hl 3 rfl) ?_
  refine Rd.callV (rest := []) (q0 := 0) (ci := 1) ⟨hx, hb, hml, hown, hts⟩ (c_X1_thrown l D cA a2 u9.1 u8.2) (cwV 0 hts gL_law_X1_thrown rfl rfl rfl (by decide +kernel) ⟨Nat.le_of_ble_eq_true rfl, Nat.le_of_ble_eq_true rfl⟩) hKA (hP.sub [14, 15, 16, 17, 18, 19, 20, 21, 22, 23, 24, 25, 26] rfl : va_P D vwCl (wM a2 cA u9.1 u8.2) H) rfl rfl rfl rfl rfl hl.1 (Nat.le_of_ble_eq_true rfl) dL_law_299 ⟨(by show 28 + j + 1 ≤ 1055; omega), (by show 1132 + 6 * j + 6 ≤ 9342; omega)⟩ ?_
  refine lv_iload hx hb dL_law_302 (lv_at hl 0 rfl) ?_
  refine lv_icmp_eq (tgt := 309) hx hb dL_law_304 (by decide) (fun c_304 => ?_) (fun c_304 => (c_304 (hk8.trans hk9.symm) : False).elim)
  refine lv_goto (tgt := 1396) hx hb dL_law_309 (by decide) ?_
  refine W.widen (k := 28 + (j + 1)) (n := 1132 + 6 * (j + 1)) (by omega) (by omega) ?_
  exact KK N1 _ _ _ _ _ _ ls hW1 hH1 hP hD hS (lv_sub hl [1, 2, 3, 4, 5] rfl)
set_option maxHeartbeats 4000000 in
set_option maxRecDepth 100000 in
theorem law_shift {p : Program} {l : Launch} (hl9 : l.stackTraces = false) {e : Env} {s : State} {m : MethodId} {below : List Frame} {meth : Method} {c : Code} {Q : State → Prop} {D : va_G} {cA cL : ClassId} {b L : Nat} {xs : Nat → Int32} (hL : L ≤ 2560) (hx : p.tables.exec = Jvm.exec) (hb : c.code = code) (hml : c.maxLocals = 7) (hown : s.vm.findClass RL = some m.cls) (hts : ∀ w ∈ wsL_law, w.before #[Value.ref b] s = true) (hX : va_X b L xs s s.heap) (hbl : b < s.heap.size) (hK : KL D cA cL s) (hZ : ZX s) {a a2 : Nat → Nat} {ob : Nat} (j : Nat) (hj : 5 * j + 5 ≤ L) (KK : ∀ (N1 : Nat) (F1 : Nat → Nat → Int32) (g1 : Nat → Int32) (th1 : Int32) (fo1 : Nat → Int64) (H1 : Heap) (locs1 : List Loc) (ls1 : Array Slot), wf F1 N1 → hol2 F1 N1 → va_P D vwCl (wA a a2 cA F1 g1 F1 th1 ob cL fo1) H1 → va_D (fun q : Nat => s.heap.size ≤ q) (wA a a2 cA F1 g1 F1 th1 ob cL fo1) → va_S (fun q : Nat => s.heap.size ≤ q) s.heap H1 locs1 → lv_has ls1 7 [(0, .ref b), (1, .ref (a 16)), (2, .ref (a2 16)), (3, .ref ob), (4, .int (nI (5 * j)))] → W p l e room_1 s m #[Value.ref b] below meth c H1 locs1 (28 + (j + 1)) (1132 + 6 * (j + 1)) Q (F0 m 1396 ls1 [])) {N : Nat} {F : Nat → Nat → Int32} {g : Nat → Int32} {th : Int32} {fo : Nat → Int64} {H : Heap} {locs : List Loc} {ls : Array Slot} (hW : wf F N) (hH : hol2 F N) (hP : va_P D vwCl (wA a a2 cA F g F th ob cL fo) H) (hD : va_D (fun q : Nat => s.heap.size ≤ q) (wA a a2 cA F g F th ob cL fo)) (hS : va_S (fun q : Nat => s.heap.size ≤ q) s.heap H locs) (hl : lv_has ls 7 [(0, .ref b), (1, .ref (a 16)), (2, .ref (a2 16)), (3, .ref ob), (4, .int (nI (5 * j)))]) : W p l e room_1 s m #[Value.ref b] below meth c H locs (28 + j) (1132 + 6 * j) Q (F0 m 312 ls []) := by
  have hA : ∀ q : Nat, s.heap.size ≤ q → (fun q : Nat => s.heap.size ≤ q) q := fun _ h => h
  have hbA : ¬ (fun q : Nat => s.heap.size ≤ q) b := Nat.not_le.mpr hbl
  have hKA : KA D cA s := hK.sub [0] rfl
  refine lv_aload_n hx hb dL_law_312 rfl (lv_at hl 1 rfl) ?_
  refine lv_aload_n hx hb dL_law_313 rfl (lv_at hl 0 rfl) ?_
  refine lv_iload hx hb dL_law_314 (lv_at hl 4 rfl) ?_
  refine lv_iconst (v := 1) hx hb dL_law_316 (by decide) ?_
  refine lv_iadd hx hb dL_law_317 ?_
  refine ri_sld (jj := 5 * j + 1) hx hb hX hbl hbA hS (nI_add (5 * j) 1) (by omega) hL dL_law_318 ?_
  refine lv_aload_n hx hb dL_law_319 rfl (lv_at hl 0 rfl) ?_
  refine lv_iload hx hb dL_law_320 (lv_at hl 4 rfl) ?_
  refine lv_iconst (v := 2) hx hb dL_law_322 (by decide) ?_
  refine lv_iadd hx hb dL_law_323 ?_
  refine ri_sld (jj := 5 * j + 2) hx hb hX hbl hbA hS (nI_add (5 * j) 2) (by omega) hL dL_law_324 ?_
  refine lv_aload_n hx hb dL_law_325 rfl (lv_at hl 0 rfl) ?_
  refine lv_iload hx hb dL_law_326 (lv_at hl 4 rfl) ?_
  refine lv_iconst (v := 3) hx hb dL_law_328 (by decide) ?_
  refine lv_iadd hx hb dL_law_329 ?_
  refine ri_sld (jj := 5 * j + 3) hx hb hX hbl hbA hS (nI_add (5 * j) 3) (by omega) hL dL_law_330 ?_
  refine lv_aload_n hx hb dL_law_331 rfl (lv_at hl 0 rfl) ?_
  refine lv_iload hx hb dL_law_332 (lv_at hl 4 rfl) ?_
  refine lv_iconst (v := 4) hx hb dL_law_334 (by decide) ?_
  refine lv_iadd hx hb dL_law_335 ?_
  refine ri_sld (jj := 5 * j + 4) hx hb hX hbl hbA hS (nI_add (5 * j) 4) (by omega) hL dL_law_336 ?_
  refine lv_aload_n hx hb dL_law_337 rfl (lv_at hl 3 rfl) ?_
  refine Lw.callS (rest := []) (wr := (wM a2 cA F th)) [0, 1, 2, 3, 4, 5, 6, 7, 8, 9, 10, 11, 12, 13, 27] [14, 15, 16, 17, 18, 19, 20, 21, 22, 23, 24, 25, 26] ⟨hx, hb, hml, hown, hts⟩ (c_L_shift l hl9 D cA cL a F g ob fo N hW (xs (5 * j + 1)) (xs (5 * j + 2)) (xs (5 * j + 3)) (xs (5 * j + 4))) (vx_cwSW 6 hts gL_law_L_shift rfl rfl rfl (by decide +kernel) ⟨Nat.le_of_ble_eq_true rfl, Nat.le_of_ble_eq_true rfl⟩) hK hP hD hS hA (hZ.later hS) rfl rfl (by decide) (by decide) (by decide) rfl rfl hl.1 (Nat.le_of_ble_eq_true rfl) dL_law_338 ⟨(by show 28 + j + 1 ≤ 1055; omega), (by show 1132 + 6 * j + 6 ≤ 9342; omega)⟩ (fun r9 u9 H locs hu9 hP hD hS => ?_)
  obtain ⟨hk9, h09, hn9⟩ := hu9
  have hP : va_P D vwCl (wA a a2 cA u9.1 u9.2.1 F th ob cL u9.2.2) H := hP.sub [13, 14, 15, 16, 17, 18, 19, 20, 21, 22, 23, 24, 25, 26, 0, 1, 2, 3, 4, 5, 6, 7, 8, 9, 10, 11, 12, 27] rfl
  have hD : va_D (fun q : Nat => s.heap.size ≤ q) (wA a a2 cA u9.1 u9.2.1 F th ob cL u9.2.2) := hD.sub [13, 14, 15, 16, 17, 18, 19, 20, 21, 22, 23, 24, 25, 26, 0, 1, 2, 3, 4, 5, 6, 7, 8, 9, 10, 11, 12, 27] (by decide) rfl
  refine lv_istore (lv' := [(5, .int r9), (0, .ref b), (1, .ref (a 16)), (2, .ref (a2 16)), (3, .ref ob), (4, .int (nI (5 * j)))]) hx hb dL_law_341 hl (by decide) rfl (fun ls hl => ?_)
  refine lv_aload_n hx hb dL_law_343 rfl (lv_at hl 3 rfl) ?_
  refine lv_aload_n hx hb dL_law_344 rfl (lv_at hl 1 rfl) ?_
  refine lv_iload hx hb dL_law_345 (lv_at hl 5 rfl) ?_
  refine lv_iconst (v := 1) hx hb dL_law_347 (by decide) ?_
  refine lv_iadd hx hb dL_law_348 ?_
  refine ri_sld (jj := 5 * j + 1) hx hb hX hbl hbA hS (nI_add (5 * j) 1) (by omega) hL dL_law_349 ?_
  refine lv_aload_n hx hb dL_law_350 rfl (lv_at hl 1 rfl) ?_
  refine lv_iload hx hb dL_law_351 (lv_at hl 5 rfl) ?_
  refine lv_iconst (v := 2) hx hb dL_law_353 (by decide) ?_
  refine lv_iadd hx hb dL_law_354 ?_
  refine ri_sld (jj := 5 * j + 2) hx hb hX hbl hbA hS (nI_add (5 * j) 2) (by omega) hL dL_law_355 ?_
  refine lv_aload_n hx hb dL_law_356 rfl (lv_at hl 1 rfl) ?_
  refine lv_iload hx hb dL_law_357 (lv_at hl 5 rfl) ?_
  refine lv_iconst (v := 3) hx hb dL_law_359 (by decide) ?_
  refine lv_iadd hx hb dL_law_360 ?_
  refine ri_sld (jj := 5 * j + 3) hx hb hX hbl hbA hS (nI_add (5 * j) 3) (by omega) hL dL_law_361 ?_
  refine lv_aload_n hx hb dL_law_362 rfl (lv_at hl 1 rfl) ?_
  refine lv_iload hx hb dL_law_363 (lv_at hl 5 rfl) ?_
  refine lv_iconst (v := 4) hx hb dL_law_365 (by decide) ?_
  refine lv_iadd hx hb dL_law_366 ?_
  refine ri_sld (jj := 5 * j + 4) hx hb hX hbl hbA hS (nI_add (5 * j) 4) (by omega) hL dL_law_367 ?_
  refine Wi.callV (rest := []) (q0 := 14) (ci := 1) (wr := (wX a cA u9.1 u9.2.1 ++ wO ob cL u9.2.2)) [14, 15, 16, 17, 18, 19, 20, 21, 22, 23, 24, 25, 26] [0, 1, 2, 3, 4, 5, 6, 7, 8, 9, 10, 11, 12, 13, 27] ⟨hx, hb, hml, hown, hts⟩ (c_X1_shift l D cA a2 F th N hW (xs (5 * j + 1)) (xs (5 * j + 2)) (xs (5 * j + 3)) (xs (5 * j + 4))) (cwV 4 hts gL_law_X1_shift rfl rfl rfl (by decide +kernel) ⟨Nat.le_of_ble_eq_true rfl, Nat.le_of_ble_eq_true rfl⟩) hKA hP hD hS hA rfl rfl (by decide) (by decide) (by decide) rfl rfl rfl rfl rfl hl.1 (Nat.le_of_ble_eq_true rfl) dL_law_368 ⟨(by show 28 + j + 1 ≤ 1055; omega), (by show 1132 + 6 * j + 6 ≤ 9342; omega)⟩ (fun r8 u8 H locs hu8 hP hD hS => ?_)
  obtain ⟨hk8, h08, hn8⟩ := hu8
  have hP : va_P D vwCl (wA a a2 cA u9.1 u9.2.1 u8.1 u8.2 ob cL u9.2.2) H := hP.sub [0, 1, 2, 3, 4, 5, 6, 7, 8, 9, 10, 11, 12, 13, 15, 16, 17, 18, 19, 20, 21, 22, 23, 24, 25, 26, 27, 14] rfl
  have hD : va_D (fun q : Nat => s.heap.size ≤ q) (wA a a2 cA u9.1 u9.2.1 u8.1 u8.2 ob cL u9.2.2) := hD.sub [0, 1, 2, 3, 4, 5, 6, 7, 8, 9, 10, 11, 12, 13, 15, 16, 17, 18, 19, 20, 21, 22, 23, 24, 25, 26, 27, 14] (by decide) rfl
  have hFF : u8.1 = u9.1 := F_same (fun h => (h09 h).1) hn9 (fun h => (h08 h).2) hn8
  rw [hFF] at hP hD
  obtain ⟨N1, hW1, hH1⟩ : INV u9.1 := inv_of hW hH (fun h => (h09 h).1) hn9 (fun h => by obtain ⟨q1, q2, q3, q4, q5, -⟩ := kShift_0 F N (xs (5 * j + 1)) (xs (5 * j + 2)) (xs (5 * j + 3)) (xs (5 * j + 4)) h; exact inv_shift hW hH q1 q2 q3 q4 q5)
  refine lv_istore (lv' := [(6, .int r8), (5, .int r9), (0, .ref b), (1, .ref (a 16)), (2, .ref (a2 16)), (3, .ref ob), (4, .int (nI (5 * j)))]) hx hb dL_law_371 hl (by decide) rfl (fun ls hl => ?_)
  refine lv_aload_n hx hb dL_law_373 rfl (lv_at hl 4 rfl) ?_
  refine Rd.callV (rest := []) (q0 := 0) (ci := 1) ⟨hx, hb, hml, hown, hts⟩ (c_X1_thrown l D cA a2 u9.1 u8.2) (cwV 0 hts gL_law_X1_thrown rfl rfl rfl (by decide +kernel) ⟨Nat.le_of_ble_eq_true rfl, Nat.le_of_ble_eq_true rfl⟩) hKA (hP.sub [14, 15, 16, 17, 18, 19, 20, 21, 22, 23, 24, 25, 26] rfl : va_P D vwCl (wM a2 cA u9.1 u8.2) H) rfl rfl rfl rfl rfl hl.1 (Nat.le_of_ble_eq_true rfl) dL_law_374 ⟨(by show 28 + j + 1 ≤ 1055; omega), (by show 1132 + 6 * j + 6 ≤ 9342; omega)⟩ ?_
  refine lv_iload hx hb dL_law_377 (lv_at hl 1 rfl) ?_
  refine lv_icmp_eq (tgt := 384) hx hb dL_law_379 (by decide) (fun c_379 => ?_) (fun c_379 => (c_379 (hk8.trans hk9.symm) : False).elim)
  refine lv_iload hx hb dL_law_384 (lv_at hl 1 rfl) ?_
  refine lv_if_ne (tgt := 401) hx hb dL_law_386 (by decide) (fun c_386 => ?_) (fun c_386 => ?_)
  · skip
    refine lv_goto (tgt := 1396) hx hb dL_law_401 (by decide) ?_
    refine W.widen (k := 28 + (j + 1)) (n := 1132 + 6 * (j + 1)) (by omega) (by omega) ?_
    exact KK N1 _ _ _ _ _ _ ls hW1 hH1 hP hD hS (lv_sub hl [2, 3, 4, 5, 6] rfl)
  · skip
    have h0 : kShift F N (xs (5 * j + 1)) (xs (5 * j + 2)) (xs (5 * j + 3)) (xs (5 * j + 4)) = 0 := hk9.symm.trans c_386
    have hfo : u9.2.2 0 = (F 7 0 : Int32).toInt64 := (h09 h0).2
    have hr8 : r8 = F 7 0 := (h08 h0).1
    refine lv_aload_n hx hb dL_law_389 rfl (lv_at hl 5 rfl) ?_
    refine lv_iconst (v := 0) hx hb dL_law_390 (by decide) ?_
    refine va_lald hx hb hK hP 27 1 rfl rfl (vp_in_nI (n := 0) (N := 1) (by decide) (by decide)) dL_law_391 ?_
    refine lv_iload hx hb dL_law_392 (lv_at hl 0 rfl) ?_
    refine lv_i2l (v := (r8 : Int32).toInt64) hx hb dL_law_394 rfl ?_
    refine W.lcmp hx hb dL_law_395 ?_
    refine lv_if_eq (tgt := 401) hx hb dL_law_396 (by decide) (fun c_396 => ?_) (fun c_396 => (c_396 ((lg_cmp_eq _ _).mpr (by rw [hr8]; exact hfo)) : False).elim)
    refine lv_goto (tgt := 1396) hx hb dL_law_401 (by decide) ?_
    refine W.widen (k := 28 + (j + 1)) (n := 1132 + 6 * (j + 1)) (by omega) (by omega) ?_
    exact KK N1 _ _ _ _ _ _ ls hW1 hH1 hP hD hS (lv_sub hl [2, 3, 4, 5, 6] rfl)
set_option maxHeartbeats 4000000 in
set_option maxRecDepth 100000 in
theorem law_correct {p : Program} {l : Launch} (hl9 : l.stackTraces = false) {e : Env} {s : State} {m : MethodId} {below : List Frame} {meth : Method} {c : Code} {Q : State → Prop} {D : va_G} {cA cL : ClassId} {b L : Nat} {xs : Nat → Int32} (hL : L ≤ 2560) (hx : p.tables.exec = Jvm.exec) (hb : c.code = code) (hml : c.maxLocals = 7) (hown : s.vm.findClass RL = some m.cls) (hts : ∀ w ∈ wsL_law, w.before #[Value.ref b] s = true) (hX : va_X b L xs s s.heap) (hbl : b < s.heap.size) (hK : KL D cA cL s) (hZ : ZX s) {a a2 : Nat → Nat} {ob : Nat} (j : Nat) (hj : 5 * j + 5 ≤ L) (KK : ∀ (N1 : Nat) (F1 : Nat → Nat → Int32) (g1 : Nat → Int32) (th1 : Int32) (fo1 : Nat → Int64) (H1 : Heap) (locs1 : List Loc) (ls1 : Array Slot), wf F1 N1 → hol2 F1 N1 → va_P D vwCl (wA a a2 cA F1 g1 F1 th1 ob cL fo1) H1 → va_D (fun q : Nat => s.heap.size ≤ q) (wA a a2 cA F1 g1 F1 th1 ob cL fo1) → va_S (fun q : Nat => s.heap.size ≤ q) s.heap H1 locs1 → lv_has ls1 7 [(0, .ref b), (1, .ref (a 16)), (2, .ref (a2 16)), (3, .ref ob), (4, .int (nI (5 * j)))] → W p l e room_1 s m #[Value.ref b] below meth c H1 locs1 (28 + (j + 1)) (1132 + 6 * (j + 1)) Q (F0 m 1396 ls1 [])) {N : Nat} {F : Nat → Nat → Int32} {g : Nat → Int32} {th : Int32} {fo : Nat → Int64} {H : Heap} {locs : List Loc} {ls : Array Slot} (hW : wf F N) (hH : hol2 F N) (hP : va_P D vwCl (wA a a2 cA F g F th ob cL fo) H) (hD : va_D (fun q : Nat => s.heap.size ≤ q) (wA a a2 cA F g F th ob cL fo)) (hS : va_S (fun q : Nat => s.heap.size ≤ q) s.heap H locs) (hl : lv_has ls 7 [(0, .ref b), (1, .ref (a 16)), (2, .ref (a2 16)), (3, .ref ob), (4, .int (nI (5 * j)))]) : W p l e room_1 s m #[Value.ref b] below meth c H locs (28 + j) (1132 + 6 * j) Q (F0 m 404 ls []) := by
  have hA : ∀ q : Nat, s.heap.size ≤ q → (fun q : Nat => s.heap.size ≤ q) q := fun _ h => h
  have hbA : ¬ (fun q : Nat => s.heap.size ≤ q) b := Nat.not_le.mpr hbl
  have hKA : KA D cA s := hK.sub [0] rfl
  refine lv_aload_n hx hb dL_law_404 rfl (lv_at hl 1 rfl) ?_
  refine lv_aload_n hx hb dL_law_405 rfl (lv_at hl 0 rfl) ?_
  refine lv_iload hx hb dL_law_406 (lv_at hl 4 rfl) ?_
  refine lv_iconst (v := 1) hx hb dL_law_408 (by decide) ?_
  refine lv_iadd hx hb dL_law_409 ?_
  refine ri_sld (jj := 5 * j + 1) hx hb hX hbl hbA hS (nI_add (5 * j) 1) (by omega) hL dL_law_410 ?_
  refine lv_aload_n hx hb dL_law_411 rfl (lv_at hl 0 rfl) ?_
  refine lv_iload hx hb dL_law_412 (lv_at hl 4 rfl) ?_
  refine lv_iconst (v := 2) hx hb dL_law_414 (by decide) ?_
  refine lv_iadd hx hb dL_law_415 ?_
  refine ri_sld (jj := 5 * j + 2) hx hb hX hbl hbA hS (nI_add (5 * j) 2) (by omega) hL dL_law_416 ?_
  refine lv_aload_n hx hb dL_law_417 rfl (lv_at hl 3 rfl) ?_
  refine Lw.callS (rest := []) (wr := (wM a2 cA F th)) [0, 1, 2, 3, 4, 5, 6, 7, 8, 9, 10, 11, 12, 13, 27] [14, 15, 16, 17, 18, 19, 20, 21, 22, 23, 24, 25, 26] ⟨hx, hb, hml, hown, hts⟩ (c_L_correct l hl9 D cA cL a F g ob fo N hW (xs (5 * j + 1)) (xs (5 * j + 2))) (vx_cwSW 4 hts gL_law_L_correct rfl rfl rfl (by decide +kernel) ⟨Nat.le_of_ble_eq_true rfl, Nat.le_of_ble_eq_true rfl⟩) hK hP hD hS hA (hZ.later hS) rfl rfl (by decide) (by decide) (by decide) rfl rfl hl.1 (Nat.le_of_ble_eq_true rfl) dL_law_418 ⟨(by show 28 + j + 1 ≤ 1055; omega), (by show 1132 + 6 * j + 6 ≤ 9342; omega)⟩ (fun r9 u9 H locs hu9 hP hD hS => ?_)
  obtain ⟨hk9, h09, hn9⟩ := hu9
  have hP : va_P D vwCl (wA a a2 cA u9.1 u9.2.1 F th ob cL u9.2.2) H := hP.sub [13, 14, 15, 16, 17, 18, 19, 20, 21, 22, 23, 24, 25, 26, 0, 1, 2, 3, 4, 5, 6, 7, 8, 9, 10, 11, 12, 27] rfl
  have hD : va_D (fun q : Nat => s.heap.size ≤ q) (wA a a2 cA u9.1 u9.2.1 F th ob cL u9.2.2) := hD.sub [13, 14, 15, 16, 17, 18, 19, 20, 21, 22, 23, 24, 25, 26, 0, 1, 2, 3, 4, 5, 6, 7, 8, 9, 10, 11, 12, 27] (by decide) rfl
  refine lv_istore (lv' := [(5, .int r9), (0, .ref b), (1, .ref (a 16)), (2, .ref (a2 16)), (3, .ref ob), (4, .int (nI (5 * j)))]) hx hb dL_law_421 hl (by decide) rfl (fun ls hl => ?_)
  refine lv_aload_n hx hb dL_law_423 rfl (lv_at hl 3 rfl) ?_
  refine lv_aload_n hx hb dL_law_424 rfl (lv_at hl 1 rfl) ?_
  refine lv_iload hx hb dL_law_425 (lv_at hl 5 rfl) ?_
  refine lv_iconst (v := 1) hx hb dL_law_427 (by decide) ?_
  refine lv_iadd hx hb dL_law_428 ?_
  refine ri_sld (jj := 5 * j + 1) hx hb hX hbl hbA hS (nI_add (5 * j) 1) (by omega) hL dL_law_429 ?_
  refine lv_aload_n hx hb dL_law_430 rfl (lv_at hl 1 rfl) ?_
  refine lv_iload hx hb dL_law_431 (lv_at hl 5 rfl) ?_
  refine lv_iconst (v := 2) hx hb dL_law_433 (by decide) ?_
  refine lv_iadd hx hb dL_law_434 ?_
  refine ri_sld (jj := 5 * j + 2) hx hb hX hbl hbA hS (nI_add (5 * j) 2) (by omega) hL dL_law_435 ?_
  refine Wi.callV (rest := []) (q0 := 14) (ci := 1) (wr := (wX a cA u9.1 u9.2.1 ++ wO ob cL u9.2.2)) [14, 15, 16, 17, 18, 19, 20, 21, 22, 23, 24, 25, 26] [0, 1, 2, 3, 4, 5, 6, 7, 8, 9, 10, 11, 12, 13, 27] ⟨hx, hb, hml, hown, hts⟩ (c_X1_correct l D cA a2 F th N hW (xs (5 * j + 1)) (xs (5 * j + 2)) (hH.hol hW)) (cwV 2 hts gL_law_X1_correct rfl rfl rfl (by decide +kernel) ⟨Nat.le_of_ble_eq_true rfl, Nat.le_of_ble_eq_true rfl⟩) hKA hP hD hS hA rfl rfl (by decide) (by decide) (by decide) rfl rfl rfl rfl rfl hl.1 (Nat.le_of_ble_eq_true rfl) dL_law_436 ⟨(by show 28 + j + 1 ≤ 1055; omega), (by show 1132 + 6 * j + 6 ≤ 9342; omega)⟩ (fun r8 u8 H locs hu8 hP hD hS => ?_)
  obtain ⟨hk8, h08, hn8⟩ := hu8
  have hP : va_P D vwCl (wA a a2 cA u9.1 u9.2.1 u8.1 u8.2 ob cL u9.2.2) H := hP.sub [0, 1, 2, 3, 4, 5, 6, 7, 8, 9, 10, 11, 12, 13, 15, 16, 17, 18, 19, 20, 21, 22, 23, 24, 25, 26, 27, 14] rfl
  have hD : va_D (fun q : Nat => s.heap.size ≤ q) (wA a a2 cA u9.1 u9.2.1 u8.1 u8.2 ob cL u9.2.2) := hD.sub [0, 1, 2, 3, 4, 5, 6, 7, 8, 9, 10, 11, 12, 13, 15, 16, 17, 18, 19, 20, 21, 22, 23, 24, 25, 26, 27, 14] (by decide) rfl
  have hFF : u8.1 = u9.1 := F_same (fun h => (h09 h).1) hn9 (fun h => (h08 h).2) hn8
  rw [hFF] at hP hD
  obtain ⟨N1, hW1, hH1⟩ : INV u9.1 := inv_of hW hH (fun h => (h09 h).1) hn9 (fun h => by obtain ⟨q1, q2, -, q4⟩ := kCorrect_0 F N (xs (5 * j + 1)) (xs (5 * j + 2)) h; exact inv_correct hW hH q1 q2 q4)
  refine lv_istore (lv' := [(6, .int r8), (5, .int r9), (0, .ref b), (1, .ref (a 16)), (2, .ref (a2 16)), (3, .ref ob), (4, .int (nI (5 * j)))]) hx hb dL_law_439 hl (by decide) rfl (fun ls hl => ?_)
  refine lv_aload_n hx hb dL_law_441 rfl (lv_at hl 4 rfl) ?_
  refine Rd.callV (rest := []) (q0 := 0) (ci := 1) ⟨hx, hb, hml, hown, hts⟩ (c_X1_thrown l D cA a2 u9.1 u8.2) (cwV 0 hts gL_law_X1_thrown rfl rfl rfl (by decide +kernel) ⟨Nat.le_of_ble_eq_true rfl, Nat.le_of_ble_eq_true rfl⟩) hKA (hP.sub [14, 15, 16, 17, 18, 19, 20, 21, 22, 23, 24, 25, 26] rfl : va_P D vwCl (wM a2 cA u9.1 u8.2) H) rfl rfl rfl rfl rfl hl.1 (Nat.le_of_ble_eq_true rfl) dL_law_442 ⟨(by show 28 + j + 1 ≤ 1055; omega), (by show 1132 + 6 * j + 6 ≤ 9342; omega)⟩ ?_
  refine lv_iload hx hb dL_law_445 (lv_at hl 1 rfl) ?_
  refine lv_icmp_eq (tgt := 452) hx hb dL_law_447 (by decide) (fun c_447 => ?_) (fun c_447 => (c_447 (hk8.trans hk9.symm) : False).elim)
  refine lv_iload hx hb dL_law_452 (lv_at hl 1 rfl) ?_
  refine lv_if_ne (tgt := 469) hx hb dL_law_454 (by decide) (fun c_454 => ?_) (fun c_454 => ?_)
  · skip
    refine lv_goto (tgt := 1396) hx hb dL_law_469 (by decide) ?_
    refine W.widen (k := 28 + (j + 1)) (n := 1132 + 6 * (j + 1)) (by omega) (by omega) ?_
    exact KK N1 _ _ _ _ _ _ ls hW1 hH1 hP hD hS (lv_sub hl [2, 3, 4, 5, 6] rfl)
  · skip
    have h0 : kCorrect F N (xs (5 * j + 1)) (xs (5 * j + 2)) = 0 := hk9.symm.trans c_454
    have hfo : u9.2.2 0 = (F 11 (xs (5 * j + 1)).toNatClampNeg : Int32).toInt64 := (h09 h0).2
    have hr8 : r8 = F 11 (xs (5 * j + 1)).toNatClampNeg := (h08 h0).1
    refine lv_aload_n hx hb dL_law_457 rfl (lv_at hl 5 rfl) ?_
    refine lv_iconst (v := 0) hx hb dL_law_458 (by decide) ?_
    refine va_lald hx hb hK hP 27 1 rfl rfl (vp_in_nI (n := 0) (N := 1) (by decide) (by decide)) dL_law_459 ?_
    refine lv_iload hx hb dL_law_460 (lv_at hl 0 rfl) ?_
    refine lv_i2l (v := (r8 : Int32).toInt64) hx hb dL_law_462 rfl ?_
    refine W.lcmp hx hb dL_law_463 ?_
    refine lv_if_eq (tgt := 469) hx hb dL_law_464 (by decide) (fun c_464 => ?_) (fun c_464 => (c_464 ((lg_cmp_eq _ _).mpr (by rw [hr8]; exact hfo)) : False).elim)
    refine lv_goto (tgt := 1396) hx hb dL_law_469 (by decide) ?_
    refine W.widen (k := 28 + (j + 1)) (n := 1132 + 6 * (j + 1)) (by omega) (by omega) ?_
    exact KK N1 _ _ _ _ _ _ ls hW1 hH1 hP hD hS (lv_sub hl [2, 3, 4, 5, 6] rfl)
set_option maxHeartbeats 4000000 in
set_option maxRecDepth 100000 in
theorem law_shifts {p : Program} {l : Launch} (hl9 : l.stackTraces = false) {e : Env} {s : State} {m : MethodId} {below : List Frame} {meth : Method} {c : Code} {Q : State → Prop} {D : va_G} {cA cL : ClassId} {b L : Nat} {xs : Nat → Int32} (hL : L ≤ 2560) (hx : p.tables.exec = Jvm.exec) (hb : c.code = code) (hml : c.maxLocals = 7) (hown : s.vm.findClass RL = some m.cls) (hts : ∀ w ∈ wsL_law, w.before #[Value.ref b] s = true) (hX : va_X b L xs s s.heap) (hbl : b < s.heap.size) (hK : KL D cA cL s) (hZ : ZX s) {a a2 : Nat → Nat} {ob : Nat} (j : Nat) (hj : 5 * j + 5 ≤ L) (KK : ∀ (N1 : Nat) (F1 : Nat → Nat → Int32) (g1 : Nat → Int32) (th1 : Int32) (fo1 : Nat → Int64) (H1 : Heap) (locs1 : List Loc) (ls1 : Array Slot), wf F1 N1 → hol2 F1 N1 → va_P D vwCl (wA a a2 cA F1 g1 F1 th1 ob cL fo1) H1 → va_D (fun q : Nat => s.heap.size ≤ q) (wA a a2 cA F1 g1 F1 th1 ob cL fo1) → va_S (fun q : Nat => s.heap.size ≤ q) s.heap H1 locs1 → lv_has ls1 7 [(0, .ref b), (1, .ref (a 16)), (2, .ref (a2 16)), (3, .ref ob), (4, .int (nI (5 * j)))] → W p l e room_1 s m #[Value.ref b] below meth c H1 locs1 (28 + (j + 1)) (1132 + 6 * (j + 1)) Q (F0 m 1396 ls1 [])) {N : Nat} {F : Nat → Nat → Int32} {g : Nat → Int32} {th : Int32} {fo : Nat → Int64} {H : Heap} {locs : List Loc} {ls : Array Slot} (hW : wf F N) (hH : hol2 F N) (hP : va_P D vwCl (wA a a2 cA F g F th ob cL fo) H) (hD : va_D (fun q : Nat => s.heap.size ≤ q) (wA a a2 cA F g F th ob cL fo)) (hS : va_S (fun q : Nat => s.heap.size ≤ q) s.heap H locs) (hl : lv_has ls 7 [(0, .ref b), (1, .ref (a 16)), (2, .ref (a2 16)), (3, .ref ob), (4, .int (nI (5 * j)))]) : W p l e room_1 s m #[Value.ref b] below meth c H locs (28 + j) (1132 + 6 * j) Q (F0 m 472 ls []) := by
  have hA : ∀ q : Nat, s.heap.size ≤ q → (fun q : Nat => s.heap.size ≤ q) q := fun _ h => h
  have hbA : ¬ (fun q : Nat => s.heap.size ≤ q) b := Nat.not_le.mpr hbl
  have hKA : KA D cA s := hK.sub [0] rfl
  refine lv_aload_n hx hb dL_law_472 rfl (lv_at hl 1 rfl) ?_
  refine Rd.callV (rest := []) (q0 := 0) (ci := 0) ⟨hx, hb, hml, hown, hts⟩ (c_X0_shifts l D cA a F g) (cwV 0 hts gL_law_X0_shifts rfl rfl rfl (by decide +kernel) ⟨Nat.le_of_ble_eq_true rfl, Nat.le_of_ble_eq_true rfl⟩) hKA (hP.sub [0, 1, 2, 3, 4, 5, 6, 7, 8, 9, 10, 11, 12, 13] rfl : va_P D vwCl (wX a cA F g) H) rfl rfl rfl rfl rfl hl.1 (Nat.le_of_ble_eq_true rfl) dL_law_473 ⟨(by show 28 + j ≤ 1055; omega), (by show 1132 + 6 * j ≤ 9342; omega)⟩ ?_
  refine lv_aload_n hx hb dL_law_476 rfl (lv_at hl 2 rfl) ?_
  refine Wi.callV (rest := [.int (F 7 0)]) (q0 := 14) (ci := 1) (wr := wX a cA F g ++ wO ob cL fo) [14, 15, 16, 17, 18, 19, 20, 21, 22, 23, 24, 25, 26] [0, 1, 2, 3, 4, 5, 6, 7, 8, 9, 10, 11, 12, 13, 27] ⟨hx, hb, hml, hown, hts⟩ (c_X1_shifts l D cA a2 F th) (cwV 0 hts gL_law_X1_shifts rfl rfl rfl (by decide +kernel) ⟨Nat.le_of_ble_eq_true rfl, Nat.le_of_ble_eq_true rfl⟩) hKA hP hD hS hA rfl rfl (by decide) (by decide) (by decide) rfl rfl rfl rfl rfl hl.1 (Nat.le_of_ble_eq_true rfl) dL_law_477 ⟨(by show 28 + j ≤ 1055; omega), (by show 1132 + 6 * j ≤ 9342; omega)⟩ (fun r8 u8 H locs hu8 hP hD hS => ?_)
  have hP : va_P D vwCl (wA a a2 cA F g F 0 ob cL fo) H := hP.sub [0, 1, 2, 3, 4, 5, 6, 7, 8, 9, 10, 11, 12, 13, 15, 16, 17, 18, 19, 20, 21, 22, 23, 24, 25, 26, 27, 14] rfl
  have hD : va_D (fun q : Nat => s.heap.size ≤ q) (wA a a2 cA F g F 0 ob cL fo) := hD.sub [0, 1, 2, 3, 4, 5, 6, 7, 8, 9, 10, 11, 12, 13, 15, 16, 17, 18, 19, 20, 21, 22, 23, 24, 25, 26, 27, 14] (by decide) rfl
  refine lv_icmp_eq (tgt := 1396) hx hb dL_law_480 (by decide) (fun c_480 => ?_) (fun c_480 => (c_480 hu8.symm : False).elim)
  refine W.widen (k := 28 + (j + 1)) (n := 1132 + 6 * (j + 1)) (by omega) (by omega) ?_
  exact KK N _ _ _ _ _ _ ls hW hH hP hD hS (lv_sub hl [0, 1, 2, 3, 4] rfl)
set_option maxHeartbeats 4000000 in
set_option maxRecDepth 100000 in
theorem law_hours {p : Program} {l : Launch} (hl9 : l.stackTraces = false) {e : Env} {s : State} {m : MethodId} {below : List Frame} {meth : Method} {c : Code} {Q : State → Prop} {D : va_G} {cA cL : ClassId} {b L : Nat} {xs : Nat → Int32} (hL : L ≤ 2560) (hx : p.tables.exec = Jvm.exec) (hb : c.code = code) (hml : c.maxLocals = 7) (hown : s.vm.findClass RL = some m.cls) (hts : ∀ w ∈ wsL_law, w.before #[Value.ref b] s = true) (hX : va_X b L xs s s.heap) (hbl : b < s.heap.size) (hK : KL D cA cL s) (hZ : ZX s) {a a2 : Nat → Nat} {ob : Nat} (j : Nat) (hj : 5 * j + 5 ≤ L) (KK : ∀ (N1 : Nat) (F1 : Nat → Nat → Int32) (g1 : Nat → Int32) (th1 : Int32) (fo1 : Nat → Int64) (H1 : Heap) (locs1 : List Loc) (ls1 : Array Slot), wf F1 N1 → hol2 F1 N1 → va_P D vwCl (wA a a2 cA F1 g1 F1 th1 ob cL fo1) H1 → va_D (fun q : Nat => s.heap.size ≤ q) (wA a a2 cA F1 g1 F1 th1 ob cL fo1) → va_S (fun q : Nat => s.heap.size ≤ q) s.heap H1 locs1 → lv_has ls1 7 [(0, .ref b), (1, .ref (a 16)), (2, .ref (a2 16)), (3, .ref ob), (4, .int (nI (5 * j)))] → W p l e room_1 s m #[Value.ref b] below meth c H1 locs1 (28 + (j + 1)) (1132 + 6 * (j + 1)) Q (F0 m 1396 ls1 [])) {N : Nat} {F : Nat → Nat → Int32} {g : Nat → Int32} {th : Int32} {fo : Nat → Int64} {H : Heap} {locs : List Loc} {ls : Array Slot} (hW : wf F N) (hH : hol2 F N) (hP : va_P D vwCl (wA a a2 cA F g F th ob cL fo) H) (hD : va_D (fun q : Nat => s.heap.size ≤ q) (wA a a2 cA F g F th ob cL fo)) (hS : va_S (fun q : Nat => s.heap.size ≤ q) s.heap H locs) (hl : lv_has ls 7 [(0, .ref b), (1, .ref (a 16)), (2, .ref (a2 16)), (3, .ref ob), (4, .int (nI (5 * j)))]) : W p l e room_1 s m #[Value.ref b] below meth c H locs (28 + j) (1132 + 6 * j) Q (F0 m 485 ls []) := by
  have hA : ∀ q : Nat, s.heap.size ≤ q → (fun q : Nat => s.heap.size ≤ q) q := fun _ h => h
  have hbA : ¬ (fun q : Nat => s.heap.size ≤ q) b := Nat.not_le.mpr hbl
  have hKA : KA D cA s := hK.sub [0] rfl
  refine lv_aload_n hx hb dL_law_485 rfl (lv_at hl 1 rfl) ?_
  refine lv_aload_n hx hb dL_law_486 rfl (lv_at hl 0 rfl) ?_
  refine lv_iload hx hb dL_law_487 (lv_at hl 4 rfl) ?_
  refine lv_iconst (v := 1) hx hb dL_law_489 (by decide) ?_
  refine lv_iadd hx hb dL_law_490 ?_
  refine ri_sld (jj := 5 * j + 1) hx hb hX hbl hbA hS (nI_add (5 * j) 1) (by omega) hL dL_law_491 ?_
  refine lv_aload_n hx hb dL_law_492 rfl (lv_at hl 0 rfl) ?_
  refine lv_iload hx hb dL_law_493 (lv_at hl 4 rfl) ?_
  refine lv_iconst (v := 2) hx hb dL_law_495 (by decide) ?_
  refine lv_iadd hx hb dL_law_496 ?_
  refine ri_sld (jj := 5 * j + 2) hx hb hX hbl hbA hS (nI_add (5 * j) 2) (by omega) hL dL_law_497 ?_
  refine lv_aload_n hx hb dL_law_498 rfl (lv_at hl 3 rfl) ?_
  refine Lw.callS (rest := []) (wr := (wM a2 cA F th)) [0, 1, 2, 3, 4, 5, 6, 7, 8, 9, 10, 11, 12, 13, 27] [14, 15, 16, 17, 18, 19, 20, 21, 22, 23, 24, 25, 26] ⟨hx, hb, hml, hown, hts⟩ (c_L_hours l hl9 D cA cL a F g ob fo N hW (xs (5 * j + 1)) (xs (5 * j + 2))) (vx_cwSW 4 hts gL_law_L_hours rfl rfl rfl (by decide +kernel) ⟨Nat.le_of_ble_eq_true rfl, Nat.le_of_ble_eq_true rfl⟩) hK hP hD hS hA (hZ.later hS) rfl rfl (by decide) (by decide) (by decide) rfl rfl hl.1 (Nat.le_of_ble_eq_true rfl) dL_law_499 ⟨(by show 28 + j + 1 ≤ 1055; omega), (by show 1132 + 6 * j + 6 ≤ 9342; omega)⟩ (fun r9 u9 H locs hu9 hP hD hS => ?_)
  obtain ⟨hk9, h09, hn9⟩ := hu9
  have hP : va_P D vwCl (wA a a2 cA u9.1 u9.2.1 F th ob cL u9.2.2) H := hP.sub [13, 14, 15, 16, 17, 18, 19, 20, 21, 22, 23, 24, 25, 26, 0, 1, 2, 3, 4, 5, 6, 7, 8, 9, 10, 11, 12, 27] rfl
  have hD : va_D (fun q : Nat => s.heap.size ≤ q) (wA a a2 cA u9.1 u9.2.1 F th ob cL u9.2.2) := hD.sub [13, 14, 15, 16, 17, 18, 19, 20, 21, 22, 23, 24, 25, 26, 0, 1, 2, 3, 4, 5, 6, 7, 8, 9, 10, 11, 12, 27] (by decide) rfl
  refine lv_istore (lv' := [(5, .int r9), (0, .ref b), (1, .ref (a 16)), (2, .ref (a2 16)), (3, .ref ob), (4, .int (nI (5 * j)))]) hx hb dL_law_502 hl (by decide) rfl (fun ls hl => ?_)
  refine lv_aload_n hx hb dL_law_504 rfl (lv_at hl 3 rfl) ?_
  refine lv_aload_n hx hb dL_law_505 rfl (lv_at hl 1 rfl) ?_
  refine lv_iload hx hb dL_law_506 (lv_at hl 5 rfl) ?_
  refine lv_iconst (v := 1) hx hb dL_law_508 (by decide) ?_
  refine lv_iadd hx hb dL_law_509 ?_
  refine ri_sld (jj := 5 * j + 1) hx hb hX hbl hbA hS (nI_add (5 * j) 1) (by omega) hL dL_law_510 ?_
  refine lv_aload_n hx hb dL_law_511 rfl (lv_at hl 1 rfl) ?_
  refine lv_iload hx hb dL_law_512 (lv_at hl 5 rfl) ?_
  refine lv_iconst (v := 2) hx hb dL_law_514 (by decide) ?_
  refine lv_iadd hx hb dL_law_515 ?_
  refine ri_sld (jj := 5 * j + 2) hx hb hX hbl hbA hS (nI_add (5 * j) 2) (by omega) hL dL_law_516 ?_
  refine Wi.callV (rest := []) (q0 := 14) (ci := 1) (wr := (wX a cA u9.1 u9.2.1 ++ wO ob cL u9.2.2)) [14, 15, 16, 17, 18, 19, 20, 21, 22, 23, 24, 25, 26] [0, 1, 2, 3, 4, 5, 6, 7, 8, 9, 10, 11, 12, 13, 27] ⟨hx, hb, hml, hown, hts⟩ (c_X1_hours l D cA a2 F th N hW (xs (5 * j + 1)) (xs (5 * j + 2))) (cwV 2 hts gL_law_X1_hours rfl rfl rfl (by decide +kernel) ⟨Nat.le_of_ble_eq_true rfl, Nat.le_of_ble_eq_true rfl⟩) hKA hP hD hS hA rfl rfl (by decide) (by decide) (by decide) rfl rfl rfl rfl rfl hl.1 (Nat.le_of_ble_eq_true rfl) dL_law_517 ⟨(by show 28 + j + 1 ≤ 1055; omega), (by show 1132 + 6 * j + 6 ≤ 9342; omega)⟩ (fun r8 u8 H locs hu8 hP hD hS => ?_)
  obtain ⟨hk8, h08, hn8⟩ := hu8
  have hP : va_P D vwCl (wA a a2 cA u9.1 u9.2.1 u8.1 u8.2 ob cL u9.2.2) H := hP.sub [0, 1, 2, 3, 4, 5, 6, 7, 8, 9, 10, 11, 12, 13, 15, 16, 17, 18, 19, 20, 21, 22, 23, 24, 25, 26, 27, 14] rfl
  have hD : va_D (fun q : Nat => s.heap.size ≤ q) (wA a a2 cA u9.1 u9.2.1 u8.1 u8.2 ob cL u9.2.2) := hD.sub [0, 1, 2, 3, 4, 5, 6, 7, 8, 9, 10, 11, 12, 13, 15, 16, 17, 18, 19, 20, 21, 22, 23, 24, 25, 26, 27, 14] (by decide) rfl
  have hFF : u8.1 = u9.1 := F_same (fun h => (h09 h).1) hn9 (fun h => (h08 h).2) hn8
  rw [hFF] at hP hD
  obtain ⟨N1, hW1, hH1⟩ : INV u9.1 := inv_of hW hH (fun h => (h09 h).1) hn9 (fun _ => ⟨N, hW, hH⟩)
  refine lv_istore (lv' := [(6, .int r8), (5, .int r9), (0, .ref b), (1, .ref (a 16)), (2, .ref (a2 16)), (3, .ref ob), (4, .int (nI (5 * j)))]) hx hb dL_law_520 hl (by decide) rfl (fun ls hl => ?_)
  refine lv_aload_n hx hb dL_law_522 rfl (lv_at hl 4 rfl) ?_
  refine Rd.callV (rest := []) (q0 := 0) (ci := 1) ⟨hx, hb, hml, hown, hts⟩ (c_X1_thrown l D cA a2 u9.1 u8.2) (cwV 0 hts gL_law_X1_thrown rfl rfl rfl (by decide +kernel) ⟨Nat.le_of_ble_eq_true rfl, Nat.le_of_ble_eq_true rfl⟩) hKA (hP.sub [14, 15, 16, 17, 18, 19, 20, 21, 22, 23, 24, 25, 26] rfl : va_P D vwCl (wM a2 cA u9.1 u8.2) H) rfl rfl rfl rfl rfl hl.1 (Nat.le_of_ble_eq_true rfl) dL_law_523 ⟨(by show 28 + j + 1 ≤ 1055; omega), (by show 1132 + 6 * j + 6 ≤ 9342; omega)⟩ ?_
  refine lv_iload hx hb dL_law_526 (lv_at hl 1 rfl) ?_
  refine lv_icmp_eq (tgt := 533) hx hb dL_law_528 (by decide) (fun c_528 => ?_) (fun c_528 => (c_528 (hk8.trans hk9.symm) : False).elim)
  refine lv_iload hx hb dL_law_533 (lv_at hl 1 rfl) ?_
  refine lv_if_ne (tgt := 550) hx hb dL_law_535 (by decide) (fun c_535 => ?_) (fun c_535 => ?_)
  · skip
    refine lv_goto (tgt := 1396) hx hb dL_law_550 (by decide) ?_
    refine W.widen (k := 28 + (j + 1)) (n := 1132 + 6 * (j + 1)) (by omega) (by omega) ?_
    exact KK N1 _ _ _ _ _ _ ls hW1 hH1 hP hD hS (lv_sub hl [2, 3, 4, 5, 6] rfl)
  · skip
    have h0 : kWW (xs (5 * j + 1)) (xs (5 * j + 2)) = 0 := hk9.symm.trans c_535
    have hfo : u9.2.2 0 = (ps (tWk F (xs (5 * j + 1)) (xs (5 * j + 2))) N : Int32).toInt64 := (h09 h0).2
    have hr8 : r8 = ps (tWk F (xs (5 * j + 1)) (xs (5 * j + 2))) N := (h08 h0).1
    refine lv_aload_n hx hb dL_law_538 rfl (lv_at hl 5 rfl) ?_
    refine lv_iconst (v := 0) hx hb dL_law_539 (by decide) ?_
    refine va_lald hx hb hK hP 27 1 rfl rfl (vp_in_nI (n := 0) (N := 1) (by decide) (by decide)) dL_law_540 ?_
    refine lv_iload hx hb dL_law_541 (lv_at hl 0 rfl) ?_
    refine lv_i2l (v := (r8 : Int32).toInt64) hx hb dL_law_543 rfl ?_
    refine W.lcmp hx hb dL_law_544 ?_
    refine lv_if_eq (tgt := 550) hx hb dL_law_545 (by decide) (fun c_545 => ?_) (fun c_545 => (c_545 ((lg_cmp_eq _ _).mpr (by rw [hr8]; exact hfo)) : False).elim)
    refine lv_goto (tgt := 1396) hx hb dL_law_550 (by decide) ?_
    refine W.widen (k := 28 + (j + 1)) (n := 1132 + 6 * (j + 1)) (by omega) (by omega) ?_
    exact KK N1 _ _ _ _ _ _ ls hW1 hH1 hP hD hS (lv_sub hl [2, 3, 4, 5, 6] rfl)

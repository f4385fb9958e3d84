/-! the law's start; by program (wip/p23/gen) -/
section LAWROWS
variable {p : Program} {l : Launch} {e : Env} {R : Room} {s : State} {m : MethodId} {args : Array Value} {below : List Frame} {meth : Method} {c : Code} {H : Heap} {locs : List Loc} {cells slots : Nat} {Q : State → Prop}
variable {cc : ByteArray} {pc : Nat} {ls : Array Slot} {rest st0 : List Value} {D : va_G} {cA : ClassId} {A0 : Nat → Prop} {H0 : Heap}
variable {nL maxL n index : Nat} {Ts ws : List Cond} {own : String} {y : MethodName} {bytes : ByteArray} {ret : Option FieldType} {rm : Room} {As : List Value}
theorem Cn.callI {wc wr w0 : va_W} {ww : (Nat → Nat) → va_W} {h mc ms : Nat} (isC isR : List Nat) (S : CallFix p m c cc nL s args Ts own) (hM : Cn l D cA w0 h ww y ws rm mc ms) (cw : CallB R s args own index y bytes maxL none ws rm mc ms 0 ∧ y.name = "<init>" ∧ (Cond.instanceMethod y).before args s = true) (hK : KA D cA s) (hP : va_P D vwCl wc H) (hD : va_D A0 wc) (hS : va_S A0 H0 H locs) (hA : ∀ q : Nat, H0.size ≤ q → A0 q)
    (hC : isC.map (fun i => wc[i]?) = w0.map some) (hR : isR.map (fun i => wc[i]?) = wr.map some) (hnC : va_nd isC = true) (hnR : va_nd isR = true) (hdis : ∀ i ∈ isR, i ∉ isC)
    (hst : st0 = .ref h :: rest) (hls : ls.size = nL) (hrm : (rest.map fun v => v.category).sum ≤ 8) (hdg : decode cc pc = .ok (.invokespecial index, 3)) (hf : cells + mc ≤ R.cells ∧ slots + ms ≤ R.slots)
    (kk : ∀ (a : Nat → Nat) (H1 : Heap) (locs1 : List Loc), a 16 = h → va_P D vwCl (wr ++ ww a) H1 → va_D A0 (wr ++ ww a) → va_S A0 H0 H1 locs1 → W p l e R s m args below meth c H1 locs1 (cells + mc) (slots + ms) Q (F0 m (pc + 3) ls rest)) : W p l e R s m args below meth c H locs cells slots Q (F0 m pc ls st0) := by
  have hF := va_free hD hS hA isC hC
  have hpre := PreWr (As := [.ref h]) isC hC hnC hK hP hD
  refine va_callv (va_runI (As := []) (rest := rest) S (hM H.size) cw hpre rfl rfl hls hst (lv_room hrm) hdg hf) hS (fun q _ h => hF q h) hF (fun u t H1 locs1 ht hvm hw hB hz1 hk1 hS1 => ?_)
  obtain ⟨hP1, hK1, hD1⟩ := hB
  rw [ht] at hP1
  obtain ⟨hP2, hD2⟩ := va_join hP hD isC isR hC hR hnR hdis hk1 hF hP1 hD1
  exact kk u H1 locs1 hw hP2 hD2 hS1
end LAWROWS
theorem arr_known {ty : FieldType} {s : State} {args : Array Value} (h : (Cond.arrayClass ty).before args s = true) (ht : ∀ C, ty ≠ .object C) : ∃ cA : ClassId, ArrOfT s cA ty ∧ va_RA s cA ty := by
  obtain ⟨c, k, comp, h1, h2, h3⟩ := Cond.arrayClass_spec h
  refine ⟨c, fun n z => ⟨fun k h => (by cases h), k, h2, comp, h3⟩, ?_⟩
  cases ty with
  | object C => exact absurd rfl (ht C)
  | _ => exact h1

/-- what a throw needs, out of the Statement -/
theorem zx_start {s : State} {b : Nat} (hts0 : ∀ w ∈ lw_tbl, w.before #[Value.ref b] s = true) (hgv : (Jvm.Cond.and given_1 narrow_1).before #[Value.ref b] s = true) : ZX s := by
  have hs := flat_of_before _ hgv
  have hA : ∀ a : Nat, a < s.heap.size → ¬ s.heap.size ≤ a := fun a h => Nat.not_le.mpr h
  have hst : ∀ (k : Nat) (tx : String), (Cond.stringRef RX0 k tx).before #[Value.ref b] s = true → (Cond.exactly (.string RX0 k) "java/lang/String").before #[Value.ref b] s = true → ∃ a : Nat, vk_R RX0 k tx a s := by
    intro k tx h1 h2
    obtain ⟨a, c, cell, kk, h3, -⟩ := Cond.exactly_spec h2
    exact ⟨a, vk_R.of h1 h3⟩
  refine ⟨⟨?_, ?_, ?_, ?_, ?_, ?_, ?_, ?_, ?_, ?_, ?_⟩, ?_, ?_, ?_⟩
  · exact vx_Zqof (hts0 _ (by decide +kernel)) (hts0 _ (by decide +kernel)) (hs _ (by decide +kernel)) hA
  · exact vx_Zqof (hts0 _ (by decide +kernel)) (hts0 _ (by decide +kernel)) (hs _ (by decide +kernel)) hA
  · exact hst _ _ (hts0 _ (by decide +kernel)) (hs _ (by decide +kernel))
  · exact hst _ _ (hts0 _ (by decide +kernel)) (hs _ (by decide +kernel))
  · exact hst _ _ (hts0 _ (by decide +kernel)) (hs _ (by decide +kernel))
  · exact va_Nw.of rfl (hts0 _ (by decide +kernel))
  · exact va_Nw.of rfl (hts0 _ (by decide +kernel))
  · exact va_Nw.of rfl (hts0 _ (by decide +kernel))
  · exact va_Nw.of rfl (hts0 _ (by decide +kernel))
  · exact va_Nw.of rfl (hts0 _ (by decide +kernel))
  · exact va_Nw.of rfl (hts0 _ (by decide +kernel))
  · exact va_Nc.of (hs _ (by decide +kernel))
  · exact va_Nc.of (hs _ (by decide +kernel))
  · exact va_Nc.of (hs _ (by decide +kernel))

abbrev over (below : List Frame) (s : State) : State → Prop := fun t => Within t below ∧ s.heap.size + 125 ≤ t.heap.size
theorem W.stop {p : Program} {l : Launch} {e : Env} {R : Room} {s : State} {m : MethodId} {args : Array Value} {below : List Frame} {meth : Method} {c : Code} {H : Heap} {locs : List Loc} {cells slots : Nat} {pc : Nat} {ls : Array Slot} {st : List Value} (h : s.heap.size + 125 ≤ H.size) : W p l e R s m args below meth c H locs cells slots (over below s) (F0 m pc ls st) := by
  intro T hT X
  refine ⟨T.setTop (F0 m pc ls st), Steps.refl _, X.here.within _, ?_⟩
  show s.heap.size + 125 ≤ T.heap.size
  rw [hT]; exact h
/-- from the law's entry, at a script of one number that is 0, with room: the law's first turn comes to its end, and 125 cells at least are new -/
theorem law_over {p : Program} {e : Env} {s : State} {m : MethodId} {below : List Frame} {meth : Method} {c : Code} (l : Launch) (hflags : l.flags = flags0) {b : Nat} {xs : Nat → Int32} (hx0 : xs 0 = 0) (hx : p.tables.exec = Jvm.exec) (hb : c.code = code) (hml : c.maxLocals = 16) (hown : s.vm.findClass RL = some m.cls) (hts0 : ∀ w ∈ lw_tbl, w.before #[Value.ref b] s = true) (hX : va_X b 1 xs s s.heap) (hbl : b < s.heap.size) (hgv : (Jvm.Cond.and given_1 narrow_1).before #[Value.ref b] s = true) : W p l e R9 s m #[Value.ref b] below meth c s.heap [] 0 0 (over below s) (entryFrame m ([Value.ref b] : List Value).toArray 16) := by
  have hts : ∀ w ∈ wsL_law, w.before #[Value.ref b] s = true := fun w h => hts0 w (wsL_law_in w h)
  have hl9 : l.stackTraces = false := by
    show (!l.flags.contains noTraceFlag) = false
    rw [hflags]; decide
  have hZ : ZX s := zx_start hts0 hgv
  have hA : ∀ q : Nat, s.heap.size ≤ q → (fun q : Nat => s.heap.size ≤ q) q := fun _ h => h
  have hbA : ¬ (fun q : Nat => s.heap.size ≤ q) b := Nat.not_le.mpr hbl
  obtain ⟨c0, iS0, hKn0⟩ := u_known (C := RX0) (T := TX0) (N := 16) (n := 16) hts0 inX0 (hts0 (.instantiable RX0 16) (by decide +kernel))
  obtain ⟨D, hKc⟩ : ∃ D : va_G, ∀ (k : Nat) (q : vw_C), vwCl[k]? = some q → u_Kn s q.1 q.2.1 q.2.2 (D.1 k) (D.2 k) := by
    refine ⟨(fun _ => c0, fun _ => iS0), ?_⟩
    intro k q hq
    match k, hq with
    | 0, hq => cases hq; exact hKn0
    | k + 1, hq => simp [vwCl] at hq
  obtain ⟨cA, hA1, hA2⟩ := arr_known (ty := .int) (hts0 (.arrayClass .int) (by decide +kernel)) (fun C h => by cases h)
  have hK : KA D cA s := by
    refine ⟨hKc, fun k q h => ?_⟩
    match k, h with
    | 0, h => cases h; exact ⟨hA1, hA2⟩
    | k + 1, h => simp at h
  have hS : va_S (fun q : Nat => s.heap.size ≤ q) s.heap s.heap [] := va_S.rf
  have hP : va_P D vwCl [] s.heap := fun k q h => by simp at h
  have hD : va_D (fun q : Nat => s.heap.size ≤ q) [] := ⟨fun i j p q h => by simp at h, fun k q h => by simp at h⟩
  have hl := lv_entry ([.ref b]) (n := 16) (Nat.le_of_ble_eq_true rfl)
  rw [lg_entry_eq]
  generalize (lg_sl ([.ref b]) ++ List.replicate (16 - (lg_sl ([.ref b])).length) Slot.unset).toArray = ls at hl ⊢
  have hl : lv_has ls 16 [(0, .ref b)] := hl
  refine va_new (ci := 0) (fs := [.null, .null, .null, .null, .null, .int 0, .int 0, .int 0, .null, .null, .null, .null, .null, .null, .null, .null]) (C := RX0) (T := TX0) (N := 16) hx hb hts0 inX0 tyX0 tyX0_ok hown (hts0 (.classLink RL 10 RX0) (by decide +kernel)) (hts0 (.instantiable RX0 16) (by decide +kernel)) (hts0 (.initialized RX0) (by decide +kernel)) hK hP hD hS hA rfl (fun j hj => by rcases (show j = 0 ∨ j = 1 ∨ j = 2 ∨ j = 3 ∨ j = 4 ∨ j = 5 ∨ j = 6 ∨ j = 7 ∨ j = 8 ∨ j = 9 ∨ j = 10 ∨ j = 11 ∨ j = 12 ∨ j = 13 ∨ j = 14 ∨ j = 15 by omega) with rfl | rfl | rfl | rfl | rfl | rfl | rfl | rfl | rfl | rfl | rfl | rfl | rfl | rfl | rfl | rfl <;> rfl) (Nat.le_of_ble_eq_true rfl) (Nat.le_of_ble_eq_true rfl) dL_law_0 (fun q0 H hP hD hS => ?_)
  have hP : va_P D vwCl [(q0, .inr (0, [.null, .null, .null, .null, .null, .int 0, .int 0, .int 0, .null, .null, .null, .null, .null, .null, .null, .null]))] H := hP
  have hD : va_D (fun q : Nat => s.heap.size ≤ q) [(q0, .inr (0, [.null, .null, .null, .null, .null, .int 0, .int 0, .int 0, .null, .null, .null, .null, .null, .null, .null, .null]))] := hD
  refine W.widen (k := 1) (n := 16) (by omega) (by omega) ?_
  refine lv_dup hx hb dL_law_3 rfl ?_
  refine Cn.callI (rest := [.ref q0]) (wr := []) [0] [] ⟨hx, hb, hml, hown, hts⟩ (c_X0_init l D cA q0) (cwI 0 hts gL_law_X0_init rfl rfl rfl (hts0 (.initialized RX0) (by decide +kernel)) (hts0 (.methodLink RL 128 yX0_init) (by decide +kernel)) (hts0 (.instanceMethod yX0_init) (by decide +kernel)) rfl (by decide +kernel) ⟨Nat.le_of_ble_eq_true rfl, Nat.le_of_ble_eq_true rfl⟩) hK hP hD hS hA rfl rfl (by decide) (by decide) (by decide) rfl hl.1 (Nat.le_of_ble_eq_true rfl) dL_law_4 ⟨Nat.le_of_ble_eq_true rfl, Nat.le_of_ble_eq_true rfl⟩ (fun a H locs ha hP hD hS => ?_)
  have hP : va_P D vwCl (wX a cA (F0s 4) (fun _ => 0)) H := hP
  have hD : va_D (fun q : Nat => s.heap.size ≤ q) (wX a cA (F0s 4) (fun _ => 0)) := hD
  rw [← ha]
  refine W.widen (k := 14) (n := 569) (by omega) (by omega) ?_
  refine lv_astore_n (lv' := [(1, .ref (a 16)), (0, .ref b)]) hx hb dL_law_7 rfl hl (by decide) rfl (fun ls hl => ?_)
  refine lv_bipush (v := 60) hx hb dL_law_8 (by decide) ?_
  refine ri_newa (N' := 60) hx hb (hts0 (.arrayClass .int) (by decide +kernel)) hK hP hD hS hA (by decide) (by decide) (by decide) (Nat.le_of_ble_eq_true rfl) (Nat.le_of_ble_eq_true rfl) dL_law_10 (fun at_ H hP hD hS => ?_)
  have hP : va_P D vwCl (wX a cA (F0s 4) (fun _ => 0) ++ [(at_, .inl (cA, 60, .inl (fun _ => 0)))]) H := hP
  have hD : va_D (fun q : Nat => s.heap.size ≤ q) (wX a cA (F0s 4) (fun _ => 0) ++ [(at_, .inl (cA, 60, .inl (fun _ => 0)))]) := hD
  refine W.widen (k := 15) (n := 629) (by omega) (by omega) ?_
  refine lv_astore_n (lv' := [(2, .ref at_), (1, .ref (a 16)), (0, .ref b)]) hx hb dL_law_12 rfl hl (by decide) rfl (fun ls hl => ?_)
  refine lv_bipush (v := 22) hx hb dL_law_13 (by decide) ?_
  refine ri_newa (N' := 22) hx hb (hts0 (.arrayClass .int) (by decide +kernel)) hK hP hD hS hA (by decide) (by decide) (by decide) (Nat.le_of_ble_eq_true rfl) (Nat.le_of_ble_eq_true rfl) dL_law_15 (fun ar H hP hD hS => ?_)
  have hP : va_P D vwCl (wX a cA (F0s 4) (fun _ => 0) ++ [(at_, .inl (cA, 60, .inl (fun _ => 0)))] ++ [(ar, .inl (cA, 22, .inl (fun _ => 0)))]) H := hP
  have hD : va_D (fun q : Nat => s.heap.size ≤ q) (wX a cA (F0s 4) (fun _ => 0) ++ [(at_, .inl (cA, 60, .inl (fun _ => 0)))] ++ [(ar, .inl (cA, 22, .inl (fun _ => 0)))]) := hD
  refine W.widen (k := 16) (n := 651) (by omega) (by omega) ?_
  refine lv_astore_n (lv' := [(3, .ref ar), (2, .ref at_), (1, .ref (a 16)), (0, .ref b)]) hx hb dL_law_17 rfl hl (by decide) rfl (fun ls hl => ?_)
  refine lv_bipush (v := 7) hx hb dL_law_18 (by decide) ?_
  refine ri_newa (N' := 7) hx hb (hts0 (.arrayClass .int) (by decide +kernel)) hK hP hD hS hA (by decide) (by decide) (by decide) (Nat.le_of_ble_eq_true rfl) (Nat.le_of_ble_eq_true rfl) dL_law_20 (fun am H hP hD hS => ?_)
  have hP : va_P D vwCl (wX a cA (F0s 4) (fun _ => 0) ++ [(at_, .inl (cA, 60, .inl (fun _ => 0)))] ++ [(ar, .inl (cA, 22, .inl (fun _ => 0)))] ++ [(am, .inl (cA, 7, .inl (fun _ => 0)))]) H := hP
  have hD : va_D (fun q : Nat => s.heap.size ≤ q) (wX a cA (F0s 4) (fun _ => 0) ++ [(at_, .inl (cA, 60, .inl (fun _ => 0)))] ++ [(ar, .inl (cA, 22, .inl (fun _ => 0)))] ++ [(am, .inl (cA, 7, .inl (fun _ => 0)))]) := hD
  refine W.widen (k := 17) (n := 658) (by omega) (by omega) ?_
  refine lv_astore (lv' := [(4, .ref am), (3, .ref ar), (2, .ref at_), (1, .ref (a 16)), (0, .ref b)]) hx hb dL_law_22 hl (by decide) rfl (fun ls hl => ?_)
  have hP : va_P D vwCl (wK a cA (F0s 4) (fun _ => 0) am ar (fun _ => 0)) H := hP.sub [0, 1, 2, 3, 4, 5, 6, 7, 8, 9, 10, 11, 12, 13, 16, 15] rfl
  have hD : va_D (fun q : Nat => s.heap.size ≤ q) (wK a cA (F0s 4) (fun _ => 0) am ar (fun _ => 0)) := hD.sub [0, 1, 2, 3, 4, 5, 6, 7, 8, 9, 10, 11, 12, 13, 16, 15] (by decide) rfl
  exact law_body hl9 hx hb hts hown hml hK hA ⟨hZ.1.1, hZ.1.2.1, hZ⟩ hX hx0 hbl hbA (fun H locs ls hG => W.stop (Nat.le_trans (Nat.add_le_add_left (by decide) _) hG)) _ _ H _ ls hP hD hS (lv_sub hl [4, 3, 2, 1, 0] rfl)

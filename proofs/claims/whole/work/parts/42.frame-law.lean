/-! FRAME of the law's body -/
abbrev wA (a a2 : Nat → Nat) (cA : ClassId) (F : Nat → Nat → Int32) (g : Nat → Int32) (F2 : Nat → Nat → Int32) (th : Int32) (ob : Nat) (cL : ClassId) (fo : Nat → Int64) : va_W := wX a cA F g ++ (wM a2 cA F2 th ++ wO ob cL fo)
theorem ZqLater {C n d : String} {s U : State} {H : Heap} {locs : List Loc} (h : vx_Zq C n d (fun q => s.heap.size ≤ q) s s.heap) (hS : va_S (fun q => s.heap.size ≤ q) s.heap H locs) (hU : U.heap = H) (hW : s.WarmedH U.vm) : vx_Zq C n d (fun q => U.heap.size ≤ q) U U.heap := by
  rw [hU]
  exact ((h.moved hW.alike).kept (fun a h1 h2 => hS.2.1 a h1 h2)).narrow (fun q hq => Nat.le_trans hS.1 hq)
theorem ZX.later {s : State} {H : Heap} {locs : List Loc} (hZ : ZX s) (hS : va_S (fun q => s.heap.size ≤ q) s.heap H locs) : ∀ U : State, U.heap = H → s.WarmedH U.vm → ZX U := by
  intro U hU hW
  obtain ⟨⟨h1, h2, ⟨a1, h3⟩, ⟨a2, h4⟩, ⟨a3, h5⟩, h6, h7, h8, h9, h10, h11⟩, n1, n2, n3⟩ := hZ
  exact ⟨⟨ZqLater h1 hS hU hW, ZqLater h2 hS hU hW, ⟨a1, vk_R.warm hW h3⟩, ⟨a2, vk_R.warm hW h4⟩, ⟨a3, vk_R.warm hW h5⟩, va_Nw.warmC hW h6, va_Nw.warmC hW h7, va_Nw.warmC hW h8, va_Nw.warmD hW h9, va_Nw.warmD hW h10, va_Nw.warmD hW h11⟩, va_Nc.moved hW.alike n1, va_Nc.moved hW.alike n2, va_Nc.moved hW.alike n3⟩
section LAWROWS
variable {p : Program} {l : Launch} {e : Env} {R : Room} {s : State} {m : MethodId} {args : Array Value} {below : List Frame} {meth : Method} {c : Code} {H : Heap} {locs : List Loc} {cells slots : Nat} {Q : State → Prop}
variable {cc : ByteArray} {pc : Nat} {ls : Array Slot} {rest st0 : List Value} {D : va_G} {cA cL : ClassId} {A0 : Nat → Prop} {H0 : Heap}
variable {nL maxL n index : Nat} {Ts ws : List Cond} {own : String} {y : MethodName} {bytes : ByteArray} {ret : Option FieldType} {rm : Room} {As : List Value}
theorem ri_sld {b L : Nat} {xs : Nat → Int32} {i : Int32} {jj : Nat} (hx : p.tables.exec = Jvm.exec) (hb : c.code = cc) (hX : va_X b L xs s H0) (hbl : b < H0.size) (hbA : ¬ A0 b) (hS : va_S A0 H0 H locs) (ei : i = nI jj) (hj : jj < L) (hL : L ≤ 2560) (hdg : decode cc pc = .ok (.iaload, 1))
    (kk : W p l e R s m args below meth c H locs cells slots Q (F0 m (pc + 1) ls (.int (xs jj) :: rest))) : W p l e R s m args below meth c H locs cells slots Q (F0 m pc ls (.int i :: .ref b :: rest)) := by
  subst ei
  refine va_sld hx hb hX hbl hbA hS (vp_in_nI hj (by omega)) hdg ?_
  rw [nI_clamp (by omega)]
  exact kk
theorem Lw.callS {hh : List (Nat × Nat × Nat × Nat)} {S9 : Type} {wc wr w0 : va_W} {ww : S9 → va_W} {post : Int32 → S9 → Prop} (isC isR : List Nat) (S : CallFix p m c cc nL s args Ts own) (hM : Lw l D cA cL w0 ww y ws rm As post) (cw : vx_CSW R s args own index y bytes maxL ret hh ws rm 1 6 n) (hK : KL D cA cL s) (hP : va_P D vwCl wc H) (hD : va_D A0 wc) (hS : va_S A0 H0 H locs) (hA : ∀ q : Nat, H0.size ≤ q → A0 q) (hZ : ∀ U : State, U.heap = H → s.WarmedH U.vm → ZX U)
    (hC : isC.map (fun i => wc[i]?) = w0.map some) (hR : isR.map (fun i => wc[i]?) = wr.map some) (hnC : va_nd isC = true) (hnR : va_nd isR = true) (hdis : ∀ i ∈ isR, i ∉ isC)
    (hst : st0 = As.reverse ++ rest) (hn : As.length = n) (hls : ls.size = nL) (hrm : (rest.map fun v => v.category).sum ≤ 8) (hdg : decode cc pc = .ok (.invokestatic index, 3)) (hf : cells + 1 ≤ R.cells ∧ slots + 6 ≤ R.slots)
    (kk : ∀ (r : Int32) (u : S9) (H1 : Heap) (locs1 : List Loc), post r u → va_P D vwCl (wr ++ ww u) H1 → va_D A0 (wr ++ ww u) → va_S A0 H0 H1 locs1 → W p l e R s m args below meth c H1 locs1 (cells + 1) (slots + 6) Q (F0 m (pc + 3) ls (.int r :: rest))) : W p l e R s m args below meth c H locs cells slots Q (F0 m pc ls st0) := by
  have hF := va_free hD hS hA isC hC
  have hpre := PreWr (As := As) (cA := cA) isC hC hnC (hK.sub [0] rfl) hP hD
  have hP' : va_P D vwCl w0 H ∧ va_D (fun _ => True) w0 := by
    refine ⟨fun k z hk => ?_, (hD.sub isC hnC hC).weaken (fun _ _ _ _ => trivial)⟩
    have h1 : (isC.map (fun i => wc[i]?))[k]? = some (some z) := by rw [hC, List.getElem?_map, hk]; rfl
    rw [List.getElem?_map] at h1
    cases hi : isC[k]? with
    | none => rw [hi] at h1; cases h1
    | some i => rw [hi] at h1; exact hP i z (Option.some.inj h1)
  have hpre2 : PreS s H (LPre D cA cL w0 H.size As) As := ⟨fun a U g mk z => by obtain ⟨z0, z1, zP, zK, zD, zZ⟩ := z; exact ⟨z0, z1, zP, va_K.moved (u := U) (U := U.calling g mk a) (Vm.Alike.refl U.vm) zK, zD, ZX.same (u := U) (U := U.calling g mk a) rfl rfl zZ⟩,
    fun U hU hW => ⟨rfl, by rw [hU], by rw [hU]; exact hP'.1, va_K.moved hW.alike hK, hP'.2, hZ U hU hW⟩⟩
  refine va_calli (vx_runSW S (hM H.size) cw hpre2 rfl hn hls hst (lv_room hrm) hdg hf) hS (fun q _ h => hF q h) hF (fun r u t H1 locs1 ht hvm hw hB hz1 hk1 hS1 => ?_)
  obtain ⟨hP1, hK1, hD1⟩ := hB
  rw [ht] at hP1
  obtain ⟨hP2, hD2⟩ := va_join hP hD isC isR hC hR hnR hdis hk1 hF hP1 hD1
  exact kk r u H1 locs1 hw hP2 hD2 hS1
theorem Cn.callI {wc wr w0 : va_W} {ww : (Nat → Nat) → va_W} {h mc ms : Nat} (isC isR : List Nat) (S : CallFix p m c cc nL s args Ts own) (hM : Cn l D cA w0 h ww y ws rm mc ms) (cw : CallB R s args own index y bytes maxL none ws rm mc ms 0 ∧ y.name = "<init>" ∧ (Cond.instanceMethod y).before args s = true) (hK : KA D cA s) (hP : va_P D vwCl wc H) (hD : va_D A0 wc) (hS : va_S A0 H0 H locs) (hA : ∀ q : Nat, H0.size ≤ q → A0 q)
    (hC : isC.map (fun i => wc[i]?) = w0.map some) (hR : isR.map (fun i => wc[i]?) = wr.map some) (hnC : va_nd isC = true) (hnR : va_nd isR = true) (hdis : ∀ i ∈ isR, i ∉ isC)
    (hst : st0 = .ref h :: rest) (hls : ls.size = nL) (hrm : (rest.map fun v => v.category).sum ≤ 8) (hdg : decode cc pc = .ok (.invokespecial index, 3)) (hf : cells + mc ≤ R.cells ∧ slots + ms ≤ R.slots)
    (kk : ∀ (a : Nat → Nat) (H1 : Heap) (locs1 : List Loc), a 16 = h → va_P D vwCl (wr ++ ww a) H1 → va_D A0 (wr ++ ww a) → va_S A0 H0 H1 locs1 → W p l e R s m args below meth c H1 locs1 (cells + mc) (slots + ms) Q (F0 m (pc + 3) ls rest)) : W p l e R s m args below meth c H locs cells slots Q (F0 m pc ls st0) := by
  have hF := va_free hD hS hA isC hC
  have hpre := PreWr (As := [.ref h]) isC hC hnC hK hP hD
  refine va_callv (va_runI (As := []) (rest := rest) S (hM H.size) cw hpre rfl rfl hls hst (lv_room hrm) hdg hf) hS (fun q _ h => hF q h) hF (fun u t H1 locs1 ht hvm hw hB hz1 hk1 hS1 => ?_)
  obtain ⟨hP1, hK1, hD1⟩ := hB
  rw [ht] at hP1
  obtain ⟨hP2, hD2⟩ := va_join hP hD isC isR hC hR hnR hdis hk1 hF hP1 hD1
  exact kk u H1 locs1 hw hP2 hD2 hS1
end LAWROWS
theorem arr_known {ty : FieldType} {s : State} {args : Array Value} (h : (Cond.arrayClass ty).before args s = true) (ht : ∀ C, ty ≠ .object C) : ∃ cA : ClassId, ArrOfT s cA ty ∧ va_RA s cA ty := by
  obtain ⟨c, k, comp, h1, h2, h3⟩ := Cond.arrayClass_spec h
  refine ⟨c, fun n z => ⟨fun k h => (by cases h), k, h2, comp, h3⟩, ?_⟩
  cases ty with
  | object C => exact absurd rfl (ht C)
  | _ => exact h1

/-! dice, at a script of one number that is 0 -/
abbrev R9 : Room := { frames := 20, cells := 200, slots := 2000, locals := 900 }
abbrev rmL_dice : Room := { frames := 0, cells := 0, slots := 0, locals := 0 }
abbrev PcD (b : Nat) (xs : Nat → Int32) : Array Value → State → Prop := va_Pc [.ref b, .int 0] (fun U => va_X b 1 xs U U.heap ∧ b < U.heap.size)
set_option maxHeartbeats 4000000 in
set_option maxRecDepth 100000 in
theorem k_L_dice (l : Launch) {b : Nat} {xs : Nat → Int32} (h0 : xs 0 = 0) : Met l yL_dice wsL_dice rmL_dice (PcD b xs) (vp_Si (fun r => r = 0)) 0 0 (fun _ => False) := by
  refine Met.ofW (cc := cL_dice) (maxL := 2) (ret := (some .int)) (by decide) rfl ?_
  intro p e s m args below meth c s₁ B hml hv
  obtain ⟨rfl, hX, hbl⟩ := hv
  rw [lg_entry_eq]
  have hx := B.exec
  have hb := B.bytes
  have hts : ∀ w ∈ wsL_dice, w.before ([.ref b, .int 0] : List Value).toArray s = true := atoms_spec (ws := wsL_dice) B.pre
  have hown : s.vm.findClass RL = some m.cls := findClass_of_methodNamed B.named
  have key : ∀ ls : Array Slot, lv_has ls 2 [(0, .ref b), (1, .int 0)] → W p l e (headSpec wsL_dice rmL_dice).room s m ([.ref b, .int 0] : List Value).toArray below meth c s.heap [] 0 0 (MQ below (vp_Si (fun r => r = 0)) ([.ref b, .int 0] : List Value).toArray s 0 0 (fun _ => False)) (F0 m 0 ls []) := by
    intro ls hl
    refine lv_iload_n hx hb dL_dice_0 rfl (lv_at hl 1 rfl) ?_
    refine lv_aload_n hx hb dL_dice_1 rfl (lv_at hl 0 rfl) ?_
    refine va_slen (A := fun _ => False) hx hb hX hbl (fun h => h) va_S.rf dL_dice_2 ?_
    refine lv_icmp_ge (tgt := 12) hx hb dL_dice_3 (by decide) (fun c_3 => (absurd c_3 (by decide) : False).elim) (fun c_3 => ?_)
    refine lv_aload_n hx hb dL_dice_6 rfl (lv_at hl 0 rfl) ?_
    refine lv_iload_n hx hb dL_dice_7 rfl (lv_at hl 1 rfl) ?_
    refine va_sld (A := fun _ => False) hx hb hX hbl (fun h => h) va_S.rf (vp_in_nI (n := 0) (N := 1) (by decide) (by decide)) dL_dice_8 ?_
    refine ri_top 0 (by have e9 : (0 : Int32).toNatClampNeg = 0 := rfl; rw [e9]; exact h0) ?_
    refine lv_goto (tgt := 31) hx hb dL_dice_9 (by decide) ?_
    refine lv_ldc (own := RL) (index := 8) (v := 2147483647) hx hb hown (hts (.constant RL 8 (2147483647)) (by decide +kernel)) dL_dice_31 ?_
    refine lv_iand hx hb dL_dice_33 ?_
    refine ri_top 0 (by decide +kernel) ?_
    exact W.iret (v := 0) hx hb B.returns (fun t ht hW => ⟨0, rfl, rfl, ht⟩) (fun _ h => nomatch h) dL_dice_34 B.notSynchronized
  exact key _ (lv_entry [.ref b, .int 0] (n := 2) (Nat.le_of_ble_eq_true rfl))
theorem PreD {s : State} {H : Heap} {locs : List Loc} {A : Nat → Prop} {b : Nat} {xs : Nat → Int32} (hX : va_X b 1 xs s s.heap) (hbl : b < s.heap.size) (hbA : ¬ A b) (hS : va_S A s.heap H locs) : PreS s H (PcD b xs) [.ref b, .int 0] :=
  ⟨fun a U g mk z => by obtain ⟨z0, zX, zb⟩ := z; exact ⟨z0, va_X.moved (u := U) (U := U.calling g mk a) (Vm.Alike.refl U.vm) zX, zb⟩,
    fun U hU hW => ⟨rfl, by rw [hU]; exact (va_X.moved hW.alike hX).kept (hS.2.1 b hbl hbA), by rw [hU]; exact Nat.lt_of_lt_of_le hbl hS.1⟩⟩
section DROWS
variable {p : Program} {l : Launch} {e : Env} {R : Room} {s : State} {m : MethodId} {args : Array Value} {below : List Frame} {meth : Method} {c : Code} {H : Heap} {locs : List Loc} {cells slots : Nat} {Q : State → Prop}
variable {cc : ByteArray} {pc : Nat} {ls : Array Slot} {rest st0 : List Value} {nL maxL n index : Nat} {Ts ws : List Cond} {own : String} {y : MethodName} {bytes : ByteArray} {ret : Option FieldType} {rm : Room} {As : List Value} {v : Int32}
theorem Mi.callS {Pc : Array Value → State → Prop} (S : CallFix p m c cc nL s args Ts own) (hM : Met l y ws rm Pc (vp_Si (fun r => r = v)) 0 0 (fun _ => False)) (cw : CallB R s args own index y bytes maxL ret ws rm 0 0 n ∧ (Cond.static y).before args s = true) (hp : PreS s H Pc As) (hst : st0 = As.reverse ++ rest) (hn : As.length = n) (hls : ls.size = nL) (hrm : (rest.map fun v => v.category).sum ≤ 8) (hdg : decode cc pc = .ok (.invokestatic index, 3)) (hf : cells ≤ R.cells ∧ slots ≤ R.slots)
    (kk : W p l e R s m args below meth c H locs cells slots Q (F0 m (pc + 3) ls (.int v :: rest))) : W p l e R s m args below meth c H locs cells slots Q (F0 m pc ls st0) :=
  vp_callSi (W.runS S hM cw hp rfl hn hls hst (lv_room hrm) hdg ⟨hf.1, hf.2⟩) (fun r hr => by subst hr; exact kk)
end DROWS
theorem ix5 (i k : Nat) : (5 : Int32) * nI i + nI k = nI (5 * i + k) := (congrArg (· + nI k) (pk_mul 5 i)).trans (nI_add _ _)
theorem zs_F0 : zs (F0s 4) := ⟨⟨Nat.zero_le _, rfl, fun i h => absurd h (Nat.not_lt_zero i)⟩, rfl, fun _ => rfl, fun _ => rfl, fun _ => rfl⟩
theorem zs_F1 : zs (fUp (fUp (F0s 4) 0 (0 : Int32).toNatClampNeg 1) 1 (0 : Int32).toNatClampNeg 1) := ⟨⟨Nat.zero_le _, rfl, fun i h => absurd h (Nat.not_lt_zero i)⟩, rfl, fun _ => rfl, fun _ => rfl, fun _ => rfl⟩

/-! PURE LEMMAS: the class' ways of computing against the reference's -/
def wksM (F : Nat → Nat → Int32) (w t : Int32) : Nat → Int32
  | 0 => 0
  | n + 1 => if F 8 n = w ∧ F 9 n = t ∧ 1 ≤ F 11 n then wksM F w t n ||| (1 <<< (F 10 n / 7 &&& 31)) else wksM F w t n
theorem wks_s (F : Nat → Nat → Int32) (w t : Int32) (n : Nat) : wksM F w t (n + 1) = if F 8 n = w ∧ F 9 n = t ∧ 1 ≤ F 11 n then wksM F w t n ||| (1 <<< (F 10 n / 7 &&& 31)) else wksM F w t n := rfl
theorem eqL_s (b : Nat → Bool) (gap : Int32) (k : Nat) (wo mi : Int32) : eqL b gap (k + 1) wo mi = if mi ≤ gap then (if b k = true then eqL b gap k (wo + 1) 0 else eqL b gap k wo (mi + 1)) else wo := rfl
abbrev ahT (F : Nat → Nat → Int32) (one j i : Nat) : Prop := (F 10 i < F 10 one ∨ (F 10 i = F 10 one ∧ nI i < nI one)) ∧ (F 8 i = F 8 one ∧ F 10 i / 7 = F 10 one / 7) ∧ dayN F i % 7 = j
def tAh (F : Nat → Nat → Int32) (one j : Nat) : Nat → Int32 := fun i => if ahT F one j i then F 11 i else 0
theorem i32_m1 (x : Int32) : x + Int32.ofInt (-1) = x - 1 := by rw [Int32.sub_eq_add_neg]; rfl
theorem z_upd {g : Nat → Int32} {i : Nat} (inv : ∀ j, j < i → g j = 0) : ∀ j, j < i + 1 → upd g i 0 j = 0 := by
  intro j h
  by_cases e : j = i
  · subst e; exact pk_us
  · exact (pk_un e).trans (inv j (by omega))
theorem ah_skip {F : Nat → Nat → Int32} {one i : Nat} {g : Nat → Int32} (inv : ∀ j, j < 7 → g j = ps (tAh F one j) i) (hn : ∀ j, ¬ ahT F one j i) : ∀ j, j < 7 → g j = ps (tAh F one j) (i + 1) := by
  intro j h
  rw [ps_s, inv j h]; unfold tAh; rw [if_neg (hn j), i32_a0]
theorem ah_upd {F : Nat → Nat → Int32} {one i : Nat} {g : Nat → Int32} (inv : ∀ j, j < 7 → g j = ps (tAh F one j) i) (hc : F 10 i < F 10 one ∨ (F 10 i = F 10 one ∧ nI i < nI one)) (hq : F 8 i = F 8 one ∧ F 10 i / 7 = F 10 one / 7) :
    ∀ j, j < 7 → upd g (dayN F i % 7) (g (dayN F i % 7) + F 11 i) j = ps (tAh F one j) (i + 1) := by
  intro j h
  rw [ps_s]
  by_cases e : j = dayN F i % 7
  · have h9 : tAh F one j i = F 11 i := if_pos ⟨hc, hq, e.symm⟩
    rw [h9, ← inv j h, e]; exact pk_us
  · have h9 : tAh F one j i = 0 := if_neg (fun z => e z.2.2.symm)
    rw [h9, i32_a0, ← inv j h]; exact pk_un e
theorem nI_or (a b : Nat) : nI a ||| nI b = nI (a ||| b) := by
  apply Int32.toBitVec_inj.1
  show BitVec.ofNat 32 a ||| BitVec.ofNat 32 b = BitVec.ofNat 32 (a ||| b)
  apply BitVec.eq_of_getLsbD_eq
  intro i hi
  simp [hi]
theorem sh_amt : ∀ k, k < 20 → ((nI k &&& 31).toBitVec.smod 32).toNat = k := by decide +kernel
theorem one_shl {q : Nat} (hq : q < 20) : (1 : Int32) <<< (nI q &&& 31) = nI (2 ^ q) := by
  have h := pk_shlN (n := 1) (nI q &&& 31) q (sh_amt q hq) (by rw [Nat.one_mul]; exact Nat.pow_lt_pow_right (by omega) (by omega))
  rw [Nat.one_mul] at h
  exact h
theorem wks_nat {F : Nat → Nat → Int32} {N : Nat} (hW : wf F N) (w t : Int32) : ∀ n, n ≤ N → ∃ M : Nat, M < 2 ^ 20 ∧ wksM F w t n = nI M ∧ ∀ k, k < 20 → M.testBit k = wkd F w t (nI k) n := by
  intro n
  induction n with
  | zero => intro _; exact ⟨0, by decide, rfl, fun k _ => Nat.zero_testBit k⟩
  | succ n ih =>
    intro hn
    obtain ⟨M, h1, h2, h3⟩ := ih (by omega)
    obtain ⟨hd, ed⟩ := hW.day (i := n) (by omega)
    have ew := hW.week (i := n) (by omega)
    obtain ⟨eh, hh⟩ := hW.hn (i := n) (by omega)
    have h01 : 1 ≤ F 11 n ↔ 0 < F 11 n := by
      rw [eh]
      exact (nI_leI (a := 1) (by omega) (by omega)).trans (nI_ltI (a := 0) (by omega) (by omega)).symm
    rw [wks_s]
    by_cases hq : F 8 n = w ∧ F 9 n = t ∧ 1 ≤ F 11 n
    · rw [if_pos hq, h2, ew, one_shl (by omega), nI_or]
      refine ⟨_, Nat.or_lt_two_pow h1 (Nat.pow_lt_pow_right (by omega) (by omega)), rfl, fun k hk => ?_⟩
      rw [Nat.testBit_or, h3 k hk, Nat.testBit_two_pow]
      show (wkd F w t (nI k) n || decide (dayN F n / 7 = k)) = (wkd F w t (nI k) n || decide (F 8 n = w ∧ F 9 n = t ∧ F 10 n / 7 = nI k ∧ 0 < F 11 n))
      congr 1
      apply decide_eq_decide.mpr
      rw [ew, nI_eq (by omega) (by omega)]
      exact ⟨fun z => ⟨hq.1, hq.2.1, z, h01.mp hq.2.2⟩, fun z => z.2.2.1⟩
    · rw [if_neg hq]
      refine ⟨M, h1, h2, fun k hk => ?_⟩
      rw [h3 k hk]
      show _ = (wkd F w t (nI k) n || decide (F 8 n = w ∧ F 9 n = t ∧ F 10 n / 7 = nI k ∧ 0 < F 11 n))
      rw [decide_eq_false (fun z => hq ⟨z.1, z.2.1, h01.mpr z.2.2.2⟩), Bool.or_false]
theorem wks_bit {F : Nat → Nat → Int32} {N : Nat} (hW : wf F N) (w t : Int32) {k : Nat} (hk : k < 20) : ((wksM F w t N >>> (nI k &&& 31)) &&& 1 = 1) ↔ wkd F w t (nI k) N = true := by
  obtain ⟨M, h1, h2, h3⟩ := wks_nat hW w t N (Nat.le_refl _)
  rw [h2, ← h3 k hk, pk_shrN (n := M) (by omega) (nI k &&& 31) k (sh_amt k hk), pk_andN (n := M / 2 ^ k) (Nat.lt_of_le_of_lt (Nat.div_le_self _ _) (by omega)) (m := 1) 1 (by decide)]
  rw [Nat.testBit_eq_decide_div_mod_eq]
  have h9 : nI (M / 2 ^ k % 2 ^ 1) = 1 ↔ M / 2 ^ k % 2 ^ 1 = 1 := nI_eq (b := 1) (Nat.lt_of_lt_of_le (Nat.mod_lt _ (by decide)) (by decide)) (by omega)
  rw [h9]
  simp
theorem iteN {P Q : Prop} (dP : Decidable P) (dQ : Decidable Q) (h : P ↔ Q) (x : Nat) : @ite Nat P dP x 0 = @ite Nat Q dQ x 0 := by
  by_cases z : P
  · rw [if_pos z, if_pos (h.mp z)]
  · rw [if_neg z, if_neg (fun y => z (h.mpr y))]
theorem ah_iff {F : Nat → Nat → Int32} {N one i j : Nat} (hW : wf F N) (ho : one < N) (hi : i < N) : ahT F one j i ↔ ((dayN F i < dayN F one ∨ (dayN F i = dayN F one ∧ i < one)) ∧ (F 8 i = F 8 one ∧ dayN F i / 7 = dayN F one / 7) ∧ dayN F i % 7 = j) := by
  obtain ⟨h1, e1⟩ := hW.day hi
  obtain ⟨h2, e2⟩ := hW.day ho
  have hN := hW.n
  have a1 : F 10 i < F 10 one ↔ dayN F i < dayN F one := by rw [e1, e2, nI_ltI (by omega) (by omega)]
  have a2 : F 10 i = F 10 one ↔ dayN F i = dayN F one := by rw [e1, e2, nI_eq (by omega) (by omega)]
  have a3 : nI i < nI one ↔ i < one := nI_ltI (by omega) (by omega)
  have a4 : F 10 i / 7 = F 10 one / 7 ↔ dayN F i / 7 = dayN F one / 7 := by rw [hW.week hi, hW.week ho, nI_eq (by omega) (by omega)]
  unfold ahT
  rw [a1, a2, a3, a4]
def aH (F : Nat → Nat → Int32) (one N j : Nat) : Nat := sN (fun i => if ahT F one j i then hrN F i else 0) N
theorem tAh_nI {F : Nat → Nat → Int32} {N one : Nat} (hW : wf F N) (j : Nat) : ps (tAh F one j) N = nI (aH F one N j) := by
  refine ps_nI (fun i hi => ?_)
  unfold tAh
  by_cases h : ahT F one j i
  · rw [if_pos h, if_pos h]; exact (hW.hn hi).1
  · rw [if_neg h, if_neg h]; rfl
theorem aH_lt {F : Nat → Nat → Int32} {N one j : Nat} (hW : wf F N) (ho : one < N) (hj : j < dayN F one % 7) : aH F one N j = dhw F (F 8 one) (7 * (dayN F one / 7) + j) N := by
  refine sN_congr (fun i hi => iteN _ _ ?_ _)
  rw [ah_iff hW ho hi]
  constructor
  · intro h; exact ⟨h.2.1.1, by omega⟩
  · intro h; exact ⟨Or.inl (by omega), ⟨h.1, by omega⟩, by omega⟩
theorem aH_eq {F : Nat → Nat → Int32} {N one : Nat} (hW : wf F N) (ho : one < N) : aH F one N (dayN F one % 7) = dhw F (F 8 one) (dayN F one) one := by
  have h1 : aH F one N (dayN F one % 7) = sN (fun i => if ahT F one (dayN F one % 7) i then hrN F i else 0) one := by
    refine sN_cut (by omega) (fun i h1 h2 => if_neg (fun h => ?_))
    rw [ah_iff hW ho h2] at h
    omega
  rw [h1]
  refine sN_congr (fun i hi => iteN _ _ ?_ _)
  rw [ah_iff hW ho (by omega)]
  constructor
  · intro h; exact ⟨h.2.1.1, by omega⟩
  · intro h; exact ⟨Or.inr ⟨h.2, hi⟩, ⟨h.1, by rw [h.2]⟩, by rw [h.2]⟩
theorem aH_gt {F : Nat → Nat → Int32} {N one j : Nat} (hW : wf F N) (ho : one < N) (hj : dayN F one % 7 < j) : aH F one N j = 0 := by
  have h1 : aH F one N j = sN (fun i => if ahT F one j i then hrN F i else 0) 0 := by
    refine sN_cut (Nat.zero_le _) (fun i h1 h2 => if_neg (fun h => ?_))
    rw [ah_iff hW ho h2] at h
    omega
  rw [h1]; rfl
theorem iflt8 {x : Nat} (hx : x < 2 ^ 31) : (if nI x < 8 then nI x else 8) = nI (min x 8) := iflt (y := 8) hx (by omega)
theorem ov_eq {F : Nat → Nat → Int32} {N one : Nat} (hW : wf F N) (h1 : one < N) {g : Nat → Int32} (hg : ∀ j, j < 7 → g j = ps (tAh F one j) N) {sd S own : Int32} (esd : sd = g (dayN F one % 7)) (eS : S = ps (fun i => if g i < 8 then g i else 8) 7) (eo : own = F 11 one) :
    own - (if (if 0 < 40 - S then 40 - S else 0) < ((if sd + own < 8 then sd + own else 8) - (if sd < 8 then sd else 8)) then (if 0 < 40 - S then 40 - S else 0) else ((if sd + own < 8 then sd + own else 8) - (if sd < 8 then sd else 8))) = sOv F N one := by
  obtain ⟨eh, hh⟩ := hW.hn h1
  have hr : dayN F one % 7 < 7 := Nat.mod_lt _ (by omega)
  have hb := dhw_le hW (F 8 one) (dayN F one) (n := one) (by omega)
  have hgA : ∀ j, j < 7 → g j = nI (aH F one N j) := fun j hj => (hg j hj).trans (tAh_nI hW j)
  have hA : ∀ j, j < 7 → aH F one N j ≤ 1280 := by
    intro j hj
    rcases Nat.lt_trichotomy j (dayN F one % 7) with q | q | q
    · rw [aH_lt hW h1 q]; exact dhw_le hW _ _ (Nat.le_refl _)
    · rw [q, aH_eq hW h1]; exact hb
    · rw [aH_gt hW h1 q]; exact Nat.zero_le _
  have eS2 : S = nI (sN (fun j => min 8 (aH F one N j)) 7) := by
    rw [eS]
    refine ps_nI (fun j hj => ?_)
    have h9 := hA j hj
    show (if g j < 8 then g j else 8) = _
    rw [hgA j hj, Nat.min_comm]
    exact iflt (y := 8) (by omega) (by omega)
  have eT : sN (fun j => min 8 (aH F one N j)) 7 = wkS F (F 8 one) N (7 * (dayN F one / 7)) (dayN F one % 7) + min 8 (dhw F (F 8 one) (dayN F one) one) := by
    have c1 : sN (fun j => min 8 (aH F one N j)) 7 = sN (fun j => min 8 (aH F one N j)) (dayN F one % 7 + 1) := sN_cut (by omega) (fun j q1 q2 => by rw [aH_gt hW h1 (by omega)]; rfl)
    rw [c1, sN_s, aH_eq hW h1]
    congr 1
    exact sN_congr (fun j hj => by rw [aH_lt hW h1 hj])
  rw [sOv_nI hW h1, esd, hgA _ hr, aH_eq hW h1, eS2, eT, eo, eh]
  have hT : wkS F (F 8 one) N (7 * (dayN F one / 7)) (dayN F one % 7) ≤ 8 * (dayN F one % 7) := sN_le (fun j _ => Nat.min_le_left _ _)
  generalize wkS F (F 8 one) N (7 * (dayN F one / 7)) (dayN F one % 7) = W9 at hT ⊢
  generalize dhw F (F 8 one) (dayN F one) one = b at hb ⊢
  generalize hrN F one = h at hh ⊢
  have e40 : (if 0 < 40 - nI (W9 + min 8 b) then 40 - nI (W9 + min 8 b) else 0) = nI (40 - (W9 + min 8 b)) := by
    rcases Nat.lt_or_ge 40 (W9 + min 8 b) with q | q
    · have h9 : (40 : Int32) - nI (W9 + min 8 b) < 0 := pk_sneg (a := 40) (by omega) q
      rw [if_neg (fun z => absurd h9 (Int32.lt_asymm z)), show 40 - (W9 + min 8 b) = 0 by omega]; rfl
    · have h9 : (40 : Int32) - nI (W9 + min 8 b) = nI (40 - (W9 + min 8 b)) := pk_sub (a := 40) q
      rw [h9]
      by_cases z : 0 < 40 - (W9 + min 8 b)
      · rw [if_pos (show (0 : Int32) < nI (40 - (W9 + min 8 b)) from nI_lt (a := 0) z (by omega))]
      · rw [if_neg (show ¬ (0 : Int32) < nI (40 - (W9 + min 8 b)) from nI_nlt (a := 0) (b := 40 - (W9 + min 8 b)) (by omega) (by omega)), show 40 - (W9 + min 8 b) = 0 by omega]; rfl
  have eP : (if nI b + nI h < 8 then nI b + nI h else 8) - (if nI b < 8 then nI b else 8) = nI (min (b + h) 8 - min b 8) := by
    rw [nI_add, iflt8 (x := b + h) (by omega), iflt8 (x := b) (by omega)]
    exact pk_sub (by omega)
  rw [e40, eP, iflt (by omega) (by omega), pk_sub (by omega)]
  unfold itsN
  congr 1
  omega
theorem rem7 {F : Nat → Nat → Int32} {N i : Nat} (hW : wf F N) (h : i < N) : F 10 i - F 10 i / 7 * 7 = nI (dayN F i % 7) := by
  obtain ⟨h1, h2⟩ := hW.day h
  rw [h2]
  have e : dayN F i = (nI (dayN F i)).toNatClampNeg := (nI_clamp (by omega)).symm
  exact pk_rem (d := 7) (by omega) (by omega) (by omega)
theorem P_upd {D : va_G} {A : Nat → Prop} {H H1 : Heap} {w : va_W} {k b : Nat} {e0 e1 : va_E} (hP : va_P D vwCl w H) (hD : va_D A w) (hk : w[k]? = some (b, e0)) (h1 : va_at D vwCl (b, e1) H1) (hkeep : ∀ q : Nat, q < H.size → q ≠ b → H1[q]? = H[q]?) : va_P D vwCl (w.set k (b, e1)) H1 := by
  intro i z hz
  have hlt : k < w.length := (List.getElem?_eq_some_iff.mp hk).1
  by_cases hi : i = k
  · subst hi
    rw [List.getElem?_set_self hlt] at hz
    cases hz
    exact h1
  · rw [List.getElem?_set_ne (fun h => hi h.symm)] at hz
    exact (hP i z hz).kept (hkeep z.1 (hP i z hz).lt (fun h => hi (hD.1 i k z (b, e0) hz hk h)))

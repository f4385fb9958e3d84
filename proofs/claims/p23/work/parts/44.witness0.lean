/-! a start at the script [0]: the printed witness's own, with another script -/
set_option maxRecDepth 16384
def ab0 : State := start1.aboutOf #[.int 0]
theorem ab0_vm : ab0.vm = start1.about.vm := rfl
theorem ab0_codes {L : List Jvm.Cond} (h : ∀ c ∈ L, c.before start1.args0 start1.about = true) : ∀ c ∈ L.filter su_isCode, c.before start1.args0 ab0 = true := by
  intro c hc
  obtain ⟨h1, h2⟩ := List.mem_filter.mp hc
  have hW : start1.about.WarmedH ab0.vm := by rw [ab0_vm]; exact State.WarmedH.refl start1.about
  refine word_at hW (Or.inl ?_) (h c h1)
  cases c <;> first | rfl | (exact absurd h2 (by simp [su_isCode]))
theorem ab0_o10 : (tables_1_1.take 40).all (fun c => su_isCode c || c.before start1.args0 ab0) = true := by decide +kernel
theorem ab0_o11 : ((tables_1_1.drop 40).take 40).all (fun c => su_isCode c || c.before start1.args0 ab0) = true := by decide +kernel
theorem ab0_o12 : (((tables_1_1.drop 40).drop 40).take 40).all (fun c => su_isCode c || c.before start1.args0 ab0) = true := by decide +kernel
theorem ab0_o13 : ((((tables_1_1.drop 40).drop 40).drop 40).take 40).all (fun c => su_isCode c || c.before start1.args0 ab0) = true := by decide +kernel
theorem ab0_o14 : ((((tables_1_1.drop 40).drop 40).drop 40).drop 40).all (fun c => su_isCode c || c.before start1.args0 ab0) = true := by decide +kernel
theorem ab0_o1 : tables_1_1.all (fun c => su_isCode c || c.before start1.args0 ab0) = true := start1.su_all_split _ 40 tables_1_1 ab0_o10 (start1.su_all_split _ 40 (tables_1_1.drop 40) ab0_o11 (start1.su_all_split _ 40 ((tables_1_1.drop 40).drop 40) ab0_o12 (start1.su_all_split _ 40 (((tables_1_1.drop 40).drop 40).drop 40) ab0_o13 ab0_o14)))
theorem ab0_o20 : (tables_1_2.take 40).all (fun c => su_isCode c || c.before start1.args0 ab0) = true := by decide +kernel
theorem ab0_o21 : ((tables_1_2.drop 40).take 40).all (fun c => su_isCode c || c.before start1.args0 ab0) = true := by decide +kernel
theorem ab0_o22 : (((tables_1_2.drop 40).drop 40).take 40).all (fun c => su_isCode c || c.before start1.args0 ab0) = true := by decide +kernel
theorem ab0_o23 : ((((tables_1_2.drop 40).drop 40).drop 40).take 40).all (fun c => su_isCode c || c.before start1.args0 ab0) = true := by decide +kernel
theorem ab0_o24 : ((((tables_1_2.drop 40).drop 40).drop 40).drop 40).all (fun c => su_isCode c || c.before start1.args0 ab0) = true := by decide +kernel
theorem ab0_o2 : tables_1_2.all (fun c => su_isCode c || c.before start1.args0 ab0) = true := start1.su_all_split _ 40 tables_1_2 ab0_o20 (start1.su_all_split _ 40 (tables_1_2.drop 40) ab0_o21 (start1.su_all_split _ 40 ((tables_1_2.drop 40).drop 40) ab0_o22 (start1.su_all_split _ 40 (((tables_1_2.drop 40).drop 40).drop 40) ab0_o23 ab0_o24)))
theorem ab0_words : ∀ c ∈ (Cond.code x code maxLocals ret :: tables_1), c.before start1.args0 ab0 = true := by
  intro c hc
  rcases List.mem_cons.mp hc with h | h
  · rw [h]
    have hW : start1.about.WarmedH ab0.vm := by rw [ab0_vm]; exact State.WarmedH.refl start1.about
    exact word_at hW (Or.inl rfl) start1.word_code
  · rcases List.mem_append.mp (show c ∈ tables_1_1 ++ tables_1_2 from h) with h2 | h2
    · exact su_words ab0_o1 (ab0_codes start1.words_1) c h2
    · exact su_words ab0_o2 (ab0_codes start1.words_2) c h2
theorem ab0_applies (R : Room) (h1 : ab0.hasRoom start1.e0.platform R = true) : (headSpec (Cond.code x code maxLocals ret :: tables_1) R).applies x start1.e0.platform ab0 = true :=
  (Spec.applies_iff rfl).mpr ⟨rfl, rfl, rfl, by decide +kernel, by decide +kernel, by decide +kernel, h1, atoms_intro ab0_words⟩
theorem ab0_atStart : AtStart classFile x code maxLocals ret World_1 tables_1 room_1 Calls_1 rest_1 Pre_1 launch0 start1.p0 start1.e0 ab0 ⟨0, 0⟩ start1.args0 Lib.HandBits.below0 :=
  ⟨lists_1, trivial, launch0.admits_env _ _ _, launch0.least_env, fairChoices_fair.cas, fairChoices_fair.clock, rfl, by decide +kernel, by decide +kernel,
    ab0_applies room_1 (launch0.hasRoom_least _ room_1 (by decide +kernel) (by decide +kernel) (by decide +kernel) (by decide +kernel) (by decide +kernel) (by decide +kernel)),
    trivial, (show rest_1_c.before start1.args0 ab0 = true by decide +kernel), (show (Cond.and given_1 narrow_1).before start1.args0 ab0 = true by decide +kernel)⟩
theorem ab0_applies9 : (headSpec (Cond.code x code maxLocals ret :: tables_1) R9).applies x start1.e0.platform ab0 = true :=
  ab0_applies R9 (launch0.hasRoom_least _ R9 (by decide +kernel) (by decide +kernel) (by decide +kernel) (by decide +kernel) (by decide +kernel) (by decide +kernel))
theorem ab0_script : ab0.IntsAt 0 [0] := by
  obtain ⟨b, xs, hb, hx⟩ := State.ints_of_pre (args := start1.args0) (s := ab0) rfl (show (Cond.arrayOf (.arg 0) .int).before start1.args0 ab0 = true by decide +kernel) (show (Cond.isInt (.length (.arg 0))).before start1.args0 ab0 = true by decide +kernel) (show (Cond.all (.arg 0) (.isInt (.elem (.arg 0) (.index 0)))).before start1.args0 ab0 = true by decide +kernel)
  cases (Option.some.inj hb)
  obtain ⟨scr, h1, h2, h3⟩ := hx
  obtain ⟨hcb, -⟩ := State.arrayAt?_spec h1
  have h4 : scr.slots = #[.int 0] := by
    have h5 : ab0.heap[0]? = some { cls := 12, slots := #[.int 0], vm := .none } := rfl
    rw [h5] at hcb
    cases hcb; rfl
  have h6 : xs = [0] := by
    rw [h4] at h2
    match xs, h2 with
    | [y], h2 => simp at h2; rw [h2]
    | [], h2 => simp at h2
    | _ :: _ :: _, h2 => simp at h2
  subst h6
  exact ⟨scr, h1, h2, h3⟩
/-- THE STATEMENT IS FALSE, in each of its halves: no proof of it can be -/
theorem p23_false_1 : ¬ Claimed_1_1 := p23_arm_false rfl ab0_atStart ab0_applies9 rfl ab0_script (fun _ _ _ _ _ _ h => h.2)
theorem p23_false_2 : ¬ Claimed_1_2 := p23_arm_false rfl ab0_atStart ab0_applies9 rfl ab0_script (fun _ _ _ _ _ _ h => h.2)
theorem p23_no_vc : ¬ (Claimed_1_1 ∧ Claimed_1_2) := fun h => p23_false_1 h.1

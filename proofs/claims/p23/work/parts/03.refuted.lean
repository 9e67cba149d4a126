set_option maxRecDepth 16384 in
theorem rf_ok_law : rf_ok (Jvm.Cond.code x code maxLocals ret) = true := by decide +kernel
theorem rf_words : ∀ c ∈ (Jvm.Cond.code x code maxLocals ret :: tables_1), c.before start1.args0 rf_about = true := by
  intro c hc
  refine rf_word (start1.words c hc) ?_
  rcases List.mem_cons.mp hc with h | h
  · rw [h]; exact rf_ok_law
  · have h1 : c ∈ tables_1_1 ++ (tables_1_2 ++ (tables_1_3 ++ tables_1_4)) := h
    rcases List.mem_append.mp h1 with h2 | h1
    · exact List.all_eq_true.mp rf_oks_1 c h2
    rcases List.mem_append.mp h1 with h2 | h1
    · exact List.all_eq_true.mp rf_oks_2 c h2
    rcases List.mem_append.mp h1 with h2 | h1
    · exact List.all_eq_true.mp rf_oks_3 c h2
    exact List.all_eq_true.mp rf_oks_4 c h1
set_option maxRecDepth 16384 in
theorem rf_atStart : AtStart classFile x code maxLocals ret World_1 tables_1 room_1 Calls_1 rest_1 Pre_1 launch0 start1.p0 start1.e0 rf_about ⟨0, 0⟩ start1.args0 Lib.HandBits.below0 := by
  refine ⟨lists_1, trivial, launch0.admits_env _ _ _, launch0.least_env, fairChoices_fair.cas, fairChoices_fair.clock, rfl, ?_, ?_, (Spec.applies_iff rfl).mpr ⟨rfl, rfl, rfl, ?_, ?_, ?_, launch0.hasRoom_least _ room_1 ?_ ?_ ?_ ?_ ?_ ?_, atoms_intro rf_words⟩, trivial, ?_, ?_⟩
  · decide +kernel
  · decide +kernel
  · decide +kernel
  · decide +kernel
  · decide +kernel
  · decide +kernel
  · decide +kernel
  · decide +kernel
  · decide +kernel
  · decide +kernel
  · decide +kernel
  · show rest_1_c.before start1.args0 rf_about = true
    decide +kernel
  · show (Jvm.Cond.and given_1 narrow_1).before start1.args0 rf_about = true
    decide +kernel
theorem rf_refuted : RefutedClaimed_1_1 ∧ RefutedClaimed_1_2 := by
  obtain ⟨k, a, hw, hs, hf⟩ := rf_run_sound _ _ _ _ rf_fell
  refine ⟨⟨launch0, start1.p0, start1.e0, rf_about, ⟨0, 0⟩, start1.args0, Lib.HandBits.below0, rfl, rf_atStart, k, .threw a, hw, hs, hf, ?_⟩,
    ⟨launch0, start1.p0, start1.e0, rf_about, ⟨0, 0⟩, start1.args0, Lib.HandBits.below0, rfl, rf_atStart, k, .threw a, hw, hs, hf, ?_⟩⟩
  · intro h
    obtain ⟨v, hv⟩ := h.2.1
    cases hv
  · intro h
    obtain ⟨v, hv⟩ := h.2.1
    cases hv
theorem rf_not_claimed : ¬ Claimed_1_1 := by
  intro hA
  obtain ⟨k, a, hw, hs, hf⟩ := rf_run_sound _ _ _ _ rf_fell
  obtain ⟨hL, hW, had, -, hcas, hclk, hfr, hfit, hheap, happ, hcalls, hrest, hpre⟩ := rf_atStart
  obtain ⟨n, o, hin, -, hend, hpost⟩ := hA launch0 rfl hL hW start1.p0 start1.e0 had hcas hclk rf_about ⟨0, 0⟩ start1.args0 Lib.HandBits.below0 hfr hfit hheap happ ⟨hcalls, hrest, hpre⟩
  have he : Ended (stepsAlone start1.p0.tables start1.e0 k rf_about) Lib.HandBits.below0 (.threw a) := hf
  have hnk : n = k := by
    rcases Nat.lt_trichotomy n k with h | h | h
    · exact absurd (hw n h) hend.not_within
    · exact h
    · exact absurd (hin k h) he.not_within
  subst hnk
  have ho := he.outcome_unique hend
  subst ho
  obtain ⟨v, hv⟩ := hpost.2.1
  cases hv

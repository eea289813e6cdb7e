theorem fz_P : lw_P 0 fz_xs start1.args0 fz_s := ⟨rfl, ⟨_, rfl, rfl, ⟨fun k h => (by cases h), _, rfl, _, rfl⟩, by decide⟩, by decide, fz_pre⟩
/-- from that start the law comes to its end, and its answer is 0 -/
theorem fz_run : ∃ (n : Nat) (o : Outcome), (∀ k, k < n → Within (stepsAlone start1.p0.tables start1.e0 k fz_s) Lib.HandBits.below0) ∧ (stepsAlone start1.p0.tables start1.e0 n fz_s).status = Status.running ∧ Ended (stepsAlone start1.p0.tables start1.e0 n fz_s) Lib.HandBits.below0 o ∧ lw_Q start1.args0 fz_s o (stepsAlone start1.p0.tables start1.e0 n fz_s) := by
  obtain ⟨-, -, ha, -, hc, hk, hf, hfit, hheap, happ, -, -, -⟩ := fz_start
  obtain ⟨k, o, h1, h2, h3, hQ⟩ := lw_walk launch0 (st_flag rfl) 0 fz_xs ⟨100, fz_eval⟩ start1.p0 start1.e0 ha hc hk fz_s ⟨0, 0⟩ start1.args0 Lib.HandBits.below0 hf ((Spec.applies_iff_loose hf).mp happ).1 fz_P trivial
  exact ⟨k, o, h1, h2, h3, hQ⟩
theorem fz_npost {tb : Tables} {e : Env} {a : Array Value} {s t : State} : ¬ Post_1_2 tb e a s (.returned (some (.int 0))) t := by
  intro h
  have h1 : limb_1_2.after a s (.returned (some (.int 0))) t = true := h.1
  have h2 := Cond.after_iff.mp h1
  rw [show limb_1_2 = Cond.eq .result (.int 1) from rfl, Cond.eq_ints (x := 0) (y := 1) rfl rfl] at h2
  simp at h2
/-- the claim falls: a start that meets every premise of it, from which the law ends with another answer than 1 -/
theorem fz_falls : FallsFor flags0 classFile x code maxLocals ret World_1 tables_1 room_1 Calls_1 rest_1 Pre_1 Post_1_2 := by
  obtain ⟨n, o, r1, r2, r3, rfl, -⟩ := fz_run
  exact ⟨launch0, start1.p0, start1.e0, fz_s, ⟨0, 0⟩, start1.args0, Lib.HandBits.below0, rfl, fz_start, n, _, r1, r2, r3, fz_npost⟩
/-- the owed statement's second half is false -/
theorem fz_false : ¬ Claimed_1_2 := by
  intro h
  obtain ⟨hL, hW, ha, -, hc, hk, hf, hfit, hheap, happ, h1, h2, h3⟩ := fz_start
  obtain ⟨n, o, q1, q2, q3, q4⟩ := h launch0 rfl hL hW start1.p0 start1.e0 ha hc hk fz_s ⟨0, 0⟩ start1.args0 Lib.HandBits.below0 hf hfit hheap happ ⟨h1, h2, h3⟩
  obtain ⟨n', o', r1, r2, r3, r4, -⟩ := fz_run
  obtain ⟨-, ho⟩ := the_end_unique (f := fun k => stepsAlone start1.p0.tables start1.e0 k fz_s) q1 q3 r1 r3
  rw [ho, r4] at q4
  exact fz_npost q4
theorem fz_owed : ¬ (Claimed_1_1 ∧ Claimed_1_2) := fun h => fz_false h.2

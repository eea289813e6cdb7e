def fz_cells : Array Value := #[.int 9, .int 6500409, .int 859844923, .int 7, .int 0, .int 10, .int 0, .int 0, .int 0, .int 0]
/-- the printed witness's start, with this script in the place of its own -/
def fz_s : State := start1.aboutOf fz_cells
theorem fz_code {a : Array Value} {s t : State} (h : s.vm = t.vm) (c : Jvm.Cond) (hc : su_isCode c = true) : c.before a s = c.before a t := by
  cases c
  all_goals first
    | (exfalso; simp [su_isCode] at hc; done)
    | (simp only [Cond.before, Cond.holds, Cond.value, State.methodNamed?, h])
theorem fz_vm : fz_s.vm = start1.about.vm := rfl
set_option maxRecDepth 16384 in
theorem fz_o_1_0 : (tables_1_1.take 40).all (fun c => su_isCode c || c.before start1.args0 fz_s) = true := by decide +kernel
set_option maxRecDepth 16384 in
theorem fz_o_1_1 : ((tables_1_1.drop 40).take 40).all (fun c => su_isCode c || c.before start1.args0 fz_s) = true := by decide +kernel
set_option maxRecDepth 16384 in
theorem fz_o_1_2 : (((tables_1_1.drop 40).drop 40).take 40).all (fun c => su_isCode c || c.before start1.args0 fz_s) = true := by decide +kernel
set_option maxRecDepth 16384 in
theorem fz_o_1_3 : ((((tables_1_1.drop 40).drop 40).drop 40).take 40).all (fun c => su_isCode c || c.before start1.args0 fz_s) = true := by decide +kernel
set_option maxRecDepth 16384 in
theorem fz_o_1_4 : (((((tables_1_1.drop 40).drop 40).drop 40).drop 40).take 40).all (fun c => su_isCode c || c.before start1.args0 fz_s) = true := by decide +kernel
set_option maxRecDepth 16384 in
theorem fz_o_1_5 : (((((tables_1_1.drop 40).drop 40).drop 40).drop 40).drop 40).all (fun c => su_isCode c || c.before start1.args0 fz_s) = true := by decide +kernel
theorem fz_w_1 : ∀ c ∈ tables_1_1, c.before start1.args0 fz_s = true := fun c h => su_words (start1.su_all_split _ 40 tables_1_1 fz_o_1_0 (start1.su_all_split _ 40 (tables_1_1.drop 40) fz_o_1_1 (start1.su_all_split _ 40 ((tables_1_1.drop 40).drop 40) fz_o_1_2 (start1.su_all_split _ 40 (((tables_1_1.drop 40).drop 40).drop 40) fz_o_1_3 (start1.su_all_split _ 40 ((((tables_1_1.drop 40).drop 40).drop 40).drop 40) fz_o_1_4 fz_o_1_5))))) (fun c hc => (fz_code fz_vm c (List.mem_filter.mp hc).2).trans (start1.codes_hold_1 c hc)) c h
set_option maxRecDepth 16384 in
theorem fz_o_2_0 : (tables_1_2.take 40).all (fun c => su_isCode c || c.before start1.args0 fz_s) = true := by decide +kernel
set_option maxRecDepth 16384 in
theorem fz_o_2_1 : ((tables_1_2.drop 40).take 40).all (fun c => su_isCode c || c.before start1.args0 fz_s) = true := by decide +kernel
set_option maxRecDepth 16384 in
theorem fz_o_2_2 : (((tables_1_2.drop 40).drop 40).take 40).all (fun c => su_isCode c || c.before start1.args0 fz_s) = true := by decide +kernel
set_option maxRecDepth 16384 in
theorem fz_o_2_3 : ((((tables_1_2.drop 40).drop 40).drop 40).take 40).all (fun c => su_isCode c || c.before start1.args0 fz_s) = true := by decide +kernel
set_option maxRecDepth 16384 in
theorem fz_o_2_4 : (((((tables_1_2.drop 40).drop 40).drop 40).drop 40).take 40).all (fun c => su_isCode c || c.before start1.args0 fz_s) = true := by decide +kernel
set_option maxRecDepth 16384 in
theorem fz_o_2_5 : (((((tables_1_2.drop 40).drop 40).drop 40).drop 40).drop 40).all (fun c => su_isCode c || c.before start1.args0 fz_s) = true := by decide +kernel
theorem fz_w_2 : ∀ c ∈ tables_1_2, c.before start1.args0 fz_s = true := fun c h => su_words (start1.su_all_split _ 40 tables_1_2 fz_o_2_0 (start1.su_all_split _ 40 (tables_1_2.drop 40) fz_o_2_1 (start1.su_all_split _ 40 ((tables_1_2.drop 40).drop 40) fz_o_2_2 (start1.su_all_split _ 40 (((tables_1_2.drop 40).drop 40).drop 40) fz_o_2_3 (start1.su_all_split _ 40 ((((tables_1_2.drop 40).drop 40).drop 40).drop 40) fz_o_2_4 fz_o_2_5))))) (fun c hc => (fz_code fz_vm c (List.mem_filter.mp hc).2).trans (start1.codes_hold_2 c hc)) c h
set_option maxRecDepth 16384 in
theorem fz_o_3_0 : (tables_1_3.take 40).all (fun c => su_isCode c || c.before start1.args0 fz_s) = true := by decide +kernel
set_option maxRecDepth 16384 in
theorem fz_o_3_1 : ((tables_1_3.drop 40).take 40).all (fun c => su_isCode c || c.before start1.args0 fz_s) = true := by decide +kernel
set_option maxRecDepth 16384 in
theorem fz_o_3_2 : (((tables_1_3.drop 40).drop 40).take 40).all (fun c => su_isCode c || c.before start1.args0 fz_s) = true := by decide +kernel
set_option maxRecDepth 16384 in
theorem fz_o_3_3 : ((((tables_1_3.drop 40).drop 40).drop 40).take 40).all (fun c => su_isCode c || c.before start1.args0 fz_s) = true := by decide +kernel
set_option maxRecDepth 16384 in
theorem fz_o_3_4 : (((((tables_1_3.drop 40).drop 40).drop 40).drop 40).take 40).all (fun c => su_isCode c || c.before start1.args0 fz_s) = true := by decide +kernel
set_option maxRecDepth 16384 in
theorem fz_o_3_5 : (((((tables_1_3.drop 40).drop 40).drop 40).drop 40).drop 40).all (fun c => su_isCode c || c.before start1.args0 fz_s) = true := by decide +kernel
theorem fz_w_3 : ∀ c ∈ tables_1_3, c.before start1.args0 fz_s = true := fun c h => su_words (start1.su_all_split _ 40 tables_1_3 fz_o_3_0 (start1.su_all_split _ 40 (tables_1_3.drop 40) fz_o_3_1 (start1.su_all_split _ 40 ((tables_1_3.drop 40).drop 40) fz_o_3_2 (start1.su_all_split _ 40 (((tables_1_3.drop 40).drop 40).drop 40) fz_o_3_3 (start1.su_all_split _ 40 ((((tables_1_3.drop 40).drop 40).drop 40).drop 40) fz_o_3_4 fz_o_3_5))))) (fun c hc => (fz_code fz_vm c (List.mem_filter.mp hc).2).trans (start1.codes_hold_3 c hc)) c h
set_option maxRecDepth 16384 in
theorem fz_o_4_0 : (tables_1_4.take 40).all (fun c => su_isCode c || c.before start1.args0 fz_s) = true := by decide +kernel
set_option maxRecDepth 16384 in
theorem fz_o_4_1 : ((tables_1_4.drop 40).take 40).all (fun c => su_isCode c || c.before start1.args0 fz_s) = true := by decide +kernel
set_option maxRecDepth 16384 in
theorem fz_o_4_2 : ((tables_1_4.drop 40).drop 40).all (fun c => su_isCode c || c.before start1.args0 fz_s) = true := by decide +kernel
theorem fz_w_4 : ∀ c ∈ tables_1_4, c.before start1.args0 fz_s = true := fun c h => su_words (start1.su_all_split _ 40 tables_1_4 fz_o_4_0 (start1.su_all_split _ 40 (tables_1_4.drop 40) fz_o_4_1 fz_o_4_2)) (fun c hc => (fz_code fz_vm c (List.mem_filter.mp hc).2).trans (start1.codes_hold_4 c hc)) c h
theorem fz_words : ∀ c ∈ (Cond.code x code maxLocals ret :: tables_1), c.before start1.args0 fz_s = true := by
  intro c hc
  rcases List.mem_cons.mp hc with h | h
  · rw [h]; exact (fz_code fz_vm _ rfl).trans start1.word_code
  · have h1 : c ∈ tables_1_1 ++ (tables_1_2 ++ (tables_1_3 ++ (tables_1_4))) := h
    rcases List.mem_append.mp h1 with h2 | h1
    · exact fz_w_1 c h2
    rcases List.mem_append.mp h1 with h2 | h1
    · exact fz_w_2 c h2
    rcases List.mem_append.mp h1 with h2 | h1
    · exact fz_w_3 c h2
    exact fz_w_4 c h1
set_option maxRecDepth 16384 in
theorem fz_pre : (Jvm.Cond.and given_1 narrow_1).before start1.args0 fz_s = true := by decide +kernel
set_option maxRecDepth 16384 in
theorem fz_start : AtStart classFile x code maxLocals ret World_1 tables_1 room_1 Calls_1 rest_1 Pre_1 launch0 start1.p0 start1.e0 fz_s ⟨0, 0⟩ start1.args0 Lib.HandBits.below0 :=
  ⟨lists_1, trivial, launch0.admits_env _ _ _, launch0.least_env, fairChoices_fair.cas, fairChoices_fair.clock, rfl, by decide +kernel, by decide +kernel,
    (Spec.applies_iff rfl).mpr ⟨rfl, rfl, rfl, by decide +kernel, by decide +kernel, by decide +kernel, launch0.hasRoom_least _ room_1 (by decide +kernel) (by decide +kernel) (by decide +kernel) (by decide +kernel) (by decide +kernel) (by decide +kernel), atoms_intro fz_words⟩,
    trivial, (show rest_1_c.before start1.args0 fz_s = true by decide +kernel), fz_pre⟩

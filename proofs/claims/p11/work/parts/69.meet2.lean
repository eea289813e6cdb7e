def v_Q (T A C : Nat → Nat) (p : Nat) : Prop := T p ≠ 0 ∧ ∃ i, 41 ≤ i ∧ i < p ∧ v_P T A C p i
theorem v_cearl {n fu : Nat} {H T A B C : Nat → Nat} {hd th co se tr : Nat → Int32} (hfu : 63 ≤ fu) (w : w_ok n H T A B C) (h : w_c H T A B C hd th co se tr) {p : Nat} (hp1 : 41 ≤ p) (hp : p < 62) (ht : T p ≠ 0) : (v_Q T A C p → m_X0_meetsEarlier fu (nI p) th co tr = some 1) ∧ (¬ v_Q T A C p → m_X0_meetsEarlier fu (nI p) th co tr = some 0) := by
  have k := v_cmeets w h hp (fun _ => some 0) (p - 41) 41 fu (by omega) (by omega)
  constructor
  · intro q
    rw [m_X0_meetsEarlier, mt_j]
    exact k.2 q.2
  · intro q
    rw [m_X0_meetsEarlier, mt_j]
    exact k.1 (fun i z1 z2 z3 => q ⟨ht, i, z1, z2, z3⟩)
theorem v_csome {n FU : Nat} {H T A B C : Nat → Nat} {hd th co se tr : Nat → Int32} (hfu : 63 ≤ FU) (w : w_ok n H T A B C) (h : w_c H T A B C hd th co se tr) (K : Int32 → Option Int32) : ∀ (x j fu : Nat), 41 ≤ j → j + x = 62 → x < fu → ((∀ p, j ≤ p → p < 62 → ¬ v_Q T A C p) → m_X0_someCallsMeet_L3 FU th co tr K fu (nI j) = K (nI 62)) ∧ ((∃ p, j ≤ p ∧ p < 62 ∧ v_Q T A C p) → m_X0_someCallsMeet_L3 FU th co tr K fu (nI j) = some 1) := by
  intro x
  induction x with
  | zero =>
    intro j fu h41 hj hf
    obtain ⟨f, rfl⟩ : ∃ f, fu = f + 1 := ⟨fu - 1, by omega⟩
    have e : j = 62 := by omega
    subst e
    have g0 : (62 : Int32) ≤ nI 62 := nI_le (a := 62) (b := 62) (by omega) (by omega)
    exact ⟨fun _ => by rw [m_X0_someCallsMeet_L3, if_pos g0], fun ⟨i, z1, z2, _⟩ => by omega⟩
  | succ x ih =>
    intro j fu h41 hj hf
    obtain ⟨f, rfl⟩ : ∃ f, fu = f + 1 := ⟨fu - 1, by omega⟩
    have g1 : ¬ (62 : Int32) ≤ nI j := fun z => by have := (nI_leI (a := 62) (b := j) (by omega) (by omega)).mp z; omega
    obtain ⟨t1, t2, _⟩ := w_crow w h j (by omega)
    obtain ⟨ih1, ih2⟩ := ih (j + 1) f (by omega) (by omega) (by omega)
    have step : ¬ v_Q T A C j → m_X0_someCallsMeet_L3 FU th co tr K (f + 1) (nI j) = m_X0_someCallsMeet_L3 FU th co tr K f (nI (j + 1)) := fun hn => by
      rw [m_X0_someCallsMeet_L3, if_neg g1, w_isThere (by omega) t1 t2, Option.bind_some, nI_1]
      by_cases c : T j = 0
      · rw [c, if_pos nI_0]
      · have c1 : ¬ nI (T j) = 0 := fun z => c ((nI_eq (b := 0) (by omega) (by omega)).mp z)
        rw [if_neg c1, (v_cearl hfu w h h41 (by omega) c).2 hn, Option.bind_some, if_pos rfl]
    refine ⟨fun hn => (step (hn j (by omega) (by omega))).trans (ih1 (fun i z1 z2 => hn i (by omega) z2)), fun ⟨i, z1, z2, z3⟩ => ?_⟩
    by_cases y : v_Q T A C j
    · have c1 : ¬ nI (T j) = 0 := fun z => y.1 ((nI_eq (b := 0) (by omega) (by omega)).mp z)
      rw [m_X0_someCallsMeet_L3, if_neg g1, w_isThere (by omega) t1 t2, Option.bind_some, if_neg c1, (v_cearl hfu w h h41 (by omega) y.1).1 y, Option.bind_some, if_neg (by decide)]
    · by_cases q : i = j
      · subst q; exact absurd z3 y
      · exact (step y).trans (ih2 ⟨i, by omega, z2, z3⟩)
theorem v_msome {n FU : Nat} {H T A B C : Nat → Nat} {kd th fi ot la : Nat → Int32} (hfu : 63 ≤ FU) (w : w_ok n H T A B C) (h : w_m H T A B C kd th fi ot la) (K : Int32 → Option Int32) : ∀ (x j fu : Nat), 41 ≤ j → j + x = 62 → x < fu → ((∀ p, j ≤ p → p < 62 → ¬ v_Q T A C p) → m_X7_isTwice_L3 FU th fi la K fu (nI j) = K (nI 62)) ∧ ((∃ p, j ≤ p ∧ p < 62 ∧ v_Q T A C p) → m_X7_isTwice_L3 FU th fi la K fu (nI j) = some 1) := by
  intro x
  induction x with
  | zero =>
    intro j fu h41 hj hf
    obtain ⟨f, rfl⟩ : ∃ f, fu = f + 1 := ⟨fu - 1, by omega⟩
    have e : j = 62 := by omega
    subst e
    have g0 : (62 : Int32) ≤ nI 62 := nI_le (a := 62) (b := 62) (by omega) (by omega)
    exact ⟨fun _ => by rw [m_X7_isTwice_L3, if_pos g0], fun ⟨i, z1, z2, _⟩ => by omega⟩
  | succ x ih =>
    intro j fu h41 hj hf
    obtain ⟨f, rfl⟩ : ∃ f, fu = f + 1 := ⟨fu - 1, by omega⟩
    have g1 : ¬ (62 : Int32) ≤ nI j := fun z => by have := (nI_leI (a := 62) (b := j) (by omega) (by omega)).mp z; omega
    obtain ⟨ih1, ih2⟩ := ih (j + 1) f (by omega) (by omega) (by omega)
    have k := v_mmeets w h (p := j) (by omega) (fun _ => m_X7_isTwice_L3 FU th fi la K f (nI j + (1 : Int32))) (j - 41) 41 FU (by omega) (by omega)
    have step : ¬ v_Q T A C j → m_X7_isTwice_L3 FU th fi la K (f + 1) (nI j) = m_X7_isTwice_L3 FU th fi la K f (nI (j + 1)) := fun hn => by
      rw [m_X7_isTwice_L3, if_neg g1, mt_j, ← nI_1]
      refine k.1 ?_
      by_cases c : T j = 0
      · exact Or.inl c
      · exact Or.inr (fun i z1 z2 z3 => hn ⟨c, i, z1, z2, z3⟩)
    refine ⟨fun hn => (step (hn j (by omega) (by omega))).trans (ih1 (fun i z1 z2 => hn i (by omega) z2)), fun ⟨i, z1, z2, z3⟩ => ?_⟩
    by_cases y : v_Q T A C j
    · rw [m_X7_isTwice_L3, if_neg g1, mt_j]
      exact k.2 y.1 y.2
    · by_cases q : i = j
      · subst q; exact absurd z3 y
      · exact (step y).trans (ih2 ⟨i, by omega, z2, z3⟩)
/-- verdict 1 is the same -/
theorem v_one {n fu : Nat} {H T A B C : Nat → Nat} {hd th co se tr kd th2 fi ot la : Nat → Int32} (hfu : 63 ≤ fu) (w : w_ok n H T A B C) (h : w_c H T A B C hd th co se tr) (h2 : w_m H T A B C kd th2 fi ot la) : ∃ b : Int32, (b = 0 ∨ b = 1) ∧ m_X0_someCallsMeet fu th co tr = some b ∧ m_X7_isTwice fu th2 fi la = some b := by
  have k1 := v_csome hfu w h (fun _ => some 0) 21 41 fu (by omega) (by omega) (by omega)
  have k2 := v_msome hfu w h2 (fun _ => some 0) 21 41 fu (by omega) (by omega) (by omega)
  by_cases c : ∃ p, 41 ≤ p ∧ p < 62 ∧ v_Q T A C p
  · exact ⟨1, Or.inr rfl, by rw [m_X0_someCallsMeet, mt_j]; exact k1.2 c, by rw [m_X7_isTwice, mt_j]; exact k2.2 c⟩
  · have c' : ∀ p, 41 ≤ p → p < 62 → ¬ v_Q T A C p := fun p z1 z2 z3 => c ⟨p, z1, z2, z3⟩
    exact ⟨0, Or.inl rfl, by rw [m_X0_someCallsMeet, mt_j]; exact k1.1 c', by rw [m_X7_isTwice, mt_j]; exact k2.1 c'⟩

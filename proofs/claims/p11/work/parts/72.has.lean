/-! A unit with skill 2. -/
def v_H (T B : Nat → Nat) (u : Nat) : Prop := T u ≠ 0 ∧ 3 < B u
theorem v_bit2 : ∀ x, x < 8 → ((((nI x >>> ((2 : Int32) &&& 31)) &&& (1 : Int32)) = 1) ↔ 3 < x) := by decide
theorem v_chas {n : Nat} {H T A B C : Nat → Nat} {hd th co se tr : Nat → Int32} (w : w_ok n H T A B C) (h : w_c H T A B C hd th co se tr) (K : Int32 → Option Int32) : ∀ (x j fu : Nat), 30 ≤ j → j + x = 41 → x < fu → ((∀ u, j ≤ u → u < 41 → ¬ v_H T B u) → m_X0_someUnitHas_L3 (2 : Int32) th se K fu (nI j) = K (nI 41)) ∧ ((∃ u, j ≤ u ∧ u < 41 ∧ v_H T B u) → m_X0_someUnitHas_L3 (2 : Int32) th se K fu (nI j) = some 1) := by
  intro x
  induction x with
  | zero =>
    intro j fu h30 hj hf
    obtain ⟨f, rfl⟩ : ∃ f, fu = f + 1 := ⟨fu - 1, by omega⟩
    have e : j = 41 := by omega
    subst e
    have g0 : (41 : Int32) ≤ nI 41 := nI_le (a := 41) (b := 41) (by omega) (by omega)
    exact ⟨fun _ => by rw [m_X0_someUnitHas_L3, if_pos g0], fun ⟨i, z1, z2, _⟩ => by omega⟩
  | succ x ih =>
    intro j fu h30 hj hf
    obtain ⟨f, rfl⟩ : ∃ f, fu = f + 1 := ⟨fu - 1, by omega⟩
    have g1 : ¬ (41 : Int32) ≤ nI j := fun z => by have := (nI_leI (a := 41) (b := j) (by omega) (by omega)).mp z; omega
    obtain ⟨t1, t2, t3, t4, _⟩ := w_crow w h j (by omega)
    have b8 : T j ≠ 0 → B j < 8 := fun z => by
      have := w_B8 w (j - 30) (by omega)
      rw [show 30 + (j - 30) = j by omega] at this
      exact this z
    obtain ⟨ih1, ih2⟩ := ih (j + 1) f (by omega) (by omega) (by omega)
    have step : ¬ v_H T B j → m_X0_someUnitHas_L3 (2 : Int32) th se K (f + 1) (nI j) = m_X0_someUnitHas_L3 (2 : Int32) th se K f (nI (j + 1)) := fun hn => by
      rw [m_X0_someUnitHas_L3, if_neg g1, w_isThere (by omega) t1 t2, Option.bind_some, nI_1]
      by_cases c : T j = 0
      · rw [c, if_pos nI_0]
      · have c1 : ¬ nI (T j) = 0 := fun z => c ((nI_eq (b := 0) (by omega) (by omega)).mp z)
        rw [if_neg c1, w_second (by omega) t4, Option.bind_some, if_neg (fun z => hn ⟨c, (v_bit2 _ (b8 c)).mp z⟩)]
    refine ⟨fun hn => (step (hn j (by omega) (by omega))).trans (ih1 (fun i z1 z2 => hn i (by omega) z2)), fun ⟨i, z1, z2, z3⟩ => ?_⟩
    by_cases y : v_H T B j
    · have c1 : ¬ nI (T j) = 0 := fun z => y.1 ((nI_eq (b := 0) (by omega) (by omega)).mp z)
      rw [m_X0_someUnitHas_L3, if_neg g1, w_isThere (by omega) t1 t2, Option.bind_some, if_neg c1, w_second (by omega) t4, Option.bind_some, if_pos ((v_bit2 _ (b8 y.1)).mpr y.2)]
    · by_cases q : i = j
      · subst q; exact absurd z3 y
      · exact (step y).trans (ih2 ⟨i, by omega, z2, z3⟩)

/-! Calls that meet: both look through the pairs. -/
def v_P (T A C : Nat → Nat) (p i : Nat) : Prop := T i ≠ 0 ∧ C i = C p ∧ A i = A p
theorem v_cmeets {n : Nat} {H T A B C : Nat → Nat} {hd th co se tr : Nat → Int32} (w : w_ok n H T A B C) (h : w_c H T A B C hd th co se tr) {p : Nat} (hp : p < 62) (K : Int32 → Option Int32) : ∀ (x j fu : Nat), j + x = p → x < fu → ((∀ i, j ≤ i → i < p → ¬ v_P T A C p i) → m_X0_meetsEarlier_L3 (nI p) th co tr K fu (nI j) = K (nI p)) ∧ ((∃ i, j ≤ i ∧ i < p ∧ v_P T A C p i) → m_X0_meetsEarlier_L3 (nI p) th co tr K fu (nI j) = some 1) := by
  intro x
  induction x with
  | zero =>
    intro j fu hj hf
    obtain ⟨f, rfl⟩ : ∃ f, fu = f + 1 := ⟨fu - 1, by omega⟩
    have e : j = p := by omega
    subst e
    refine ⟨fun _ => by rw [m_X0_meetsEarlier_L3, if_pos (nI_le (Nat.le_refl _) (by omega))], fun ⟨i, z1, z2, _⟩ => by omega⟩
  | succ x ih =>
    intro j fu hj hf
    obtain ⟨f, rfl⟩ : ∃ f, fu = f + 1 := ⟨fu - 1, by omega⟩
    have g1 : ¬ nI p ≤ nI j := nI_ge (by omega) (by omega)
    obtain ⟨t1, t2, t3, t4, t5⟩ := w_crow w h j (by omega)
    obtain ⟨u1, u2, u3, u4, u5⟩ := w_crow w h p hp
    have bj := w_b3 w (p := j) (by omega)
    have bp := w_b3 w (p := p) hp
    obtain ⟨ih1, ih2⟩ := ih (j + 1) f (by omega) (by omega)
    have step : ¬ v_P T A C p j → m_X0_meetsEarlier_L3 (nI p) th co tr K (f + 1) (nI j) = m_X0_meetsEarlier_L3 (nI p) th co tr K f (nI (j + 1)) := fun hn => by
      rw [m_X0_meetsEarlier_L3, if_neg g1, w_isThere (by omega) t1 t2, Option.bind_some, nI_1]
      by_cases c : T j = 0
      · rw [c, if_pos nI_0]
      · have c1 : ¬ nI (T j) = 0 := fun z => c ((nI_eq (b := 0) (by omega) (by omega)).mp z)
        rw [if_neg c1, w_third (by omega) t5, Option.bind_some, w_third hp u5, Option.bind_some]
        by_cases c2 : C j = C p
        · rw [if_pos (by rw [c2]), w_corner (by omega) t3, Option.bind_some, w_corner hp u3, Option.bind_some, if_neg (fun z => hn ⟨c, c2, (nI_eq (by omega) (by omega)).mp z⟩)]
        · rw [if_neg (fun z => c2 ((nI_eq (by omega) (by omega)).mp z))]
    refine ⟨fun hn => (step (hn j (by omega) (by omega))).trans (ih1 (fun i z1 z2 => hn i (by omega) z2)), fun ⟨i, z1, z2, z3⟩ => ?_⟩
    by_cases y : v_P T A C p j
    · obtain ⟨c, c2, c3⟩ := y
      have c1 : ¬ nI (T j) = 0 := fun z => c ((nI_eq (b := 0) (by omega) (by omega)).mp z)
      rw [m_X0_meetsEarlier_L3, if_neg g1, w_isThere (by omega) t1 t2, Option.bind_some, if_neg c1, w_third (by omega) t5, Option.bind_some, w_third hp u5, Option.bind_some, if_pos (by rw [c2]), w_corner (by omega) t3, Option.bind_some, w_corner hp u3, Option.bind_some, if_pos (by rw [c3])]
    · by_cases q : i = j
      · subst q; exact absurd z3 y
      · exact (step y).trans (ih2 ⟨i, by omega, z2, z3⟩)
theorem v_mmeets {n : Nat} {H T A B C : Nat → Nat} {kd th fi ot la : Nat → Int32} (w : w_ok n H T A B C) (h : w_m H T A B C kd th fi ot la) {p : Nat} (hp : p < 62) (K : Int32 → Option Int32) : ∀ (x j fu : Nat), j + x = p → x < fu → ((T p = 0 ∨ ∀ i, j ≤ i → i < p → ¬ v_P T A C p i) → m_X7_isTwice_L12 th fi la (nI p) K fu (nI j) = K (nI p)) ∧ (T p ≠ 0 → (∃ i, j ≤ i ∧ i < p ∧ v_P T A C p i) → m_X7_isTwice_L12 th fi la (nI p) K fu (nI j) = some 1) := by
  intro x
  induction x with
  | zero =>
    intro j fu hj hf
    obtain ⟨f, rfl⟩ : ∃ f, fu = f + 1 := ⟨fu - 1, by omega⟩
    have e : j = p := by omega
    subst e
    refine ⟨fun _ => by rw [m_X7_isTwice_L12, if_pos (nI_le (Nat.le_refl _) (by omega))], fun _ ⟨i, z1, z2, _⟩ => by omega⟩
  | succ x ih =>
    intro j fu hj hf
    obtain ⟨f, rfl⟩ : ∃ f, fu = f + 1 := ⟨fu - 1, by omega⟩
    have g1 : ¬ nI p ≤ nI j := nI_ge (by omega) (by omega)
    obtain ⟨t1, t2, t3, t4, t5⟩ := w_mrow w h j (by omega)
    obtain ⟨u1, u2, u3, u4, u5⟩ := w_mrow w h p hp
    have bj := w_b3 w (p := j) (by omega)
    have bp := w_b3 w (p := p) hp
    have q1 : (nI j).toNatClampNeg = j := nI_clamp (by omega)
    have q3 : (nI p).toNatClampNeg = p := nI_clamp (by omega)
    have i1 : ¬ (nI j < 0 ∨ 62 ≤ j) := t_in2 (N := 62) (by omega) (by omega)
    have i3 : ¬ (nI p < 0 ∨ 62 ≤ p) := t_in2 hp (by omega)
    obtain ⟨ih1, ih2⟩ := ih (j + 1) f (by omega) (by omega)
    have step : (T p = 0 ∨ ¬ v_P T A C p j) → m_X7_isTwice_L12 th fi la (nI p) K (f + 1) (nI j) = m_X7_isTwice_L12 th fi la (nI p) K f (nI (j + 1)) := fun hn => by
      rw [m_X7_isTwice_L12, if_neg g1, q1, q3, t1, u1, t3, u3, t5, u5, nI_1, if_pos i3]
      by_cases c0 : T p = 0
      · rw [c0, if_pos nI_0]
      · have c9 : ¬ nI (T p) = 0 := fun z => c0 ((nI_eq (b := 0) (by omega) (by omega)).mp z)
        have hn2 := hn.resolve_left c0
        rw [if_neg c9, if_pos i1]
        by_cases c : T j = 0
        · rw [c, if_pos nI_0]
        · have c1 : ¬ nI (T j) = 0 := fun z => c ((nI_eq (b := 0) (by omega) (by omega)).mp z)
          rw [if_neg c1, if_pos i3, if_pos i1]
          by_cases c2 : C j = C p
          · rw [if_pos (by rw [c2]), if_pos i3, if_pos i1, if_neg (fun z => hn2 ⟨c, c2, ((nI_eq (by omega) (by omega)).mp z).symm⟩)]
          · rw [if_neg (fun z => c2 ((nI_eq (by omega) (by omega)).mp z).symm)]
    refine ⟨fun hn => (step (hn.imp id (fun z => z j (by omega) (by omega)))).trans (ih1 (hn.imp id (fun z i z1 z2 => z i (by omega) z2))), fun c0 ⟨i, z1, z2, z3⟩ => ?_⟩
    by_cases y : v_P T A C p j
    · obtain ⟨c, c2, c3⟩ := y
      have c9 : ¬ nI (T p) = 0 := fun z => c0 ((nI_eq (b := 0) (by omega) (by omega)).mp z)
      have c1 : ¬ nI (T j) = 0 := fun z => c ((nI_eq (b := 0) (by omega) (by omega)).mp z)
      rw [m_X7_isTwice_L12, if_neg g1, q1, q3, t1, u1, t3, u3, t5, u5, if_pos i3, if_neg c9, if_pos i1, if_neg c1, if_pos i3, if_pos i1, if_pos (by rw [c2]), if_pos i3, if_pos i1, if_pos (by rw [c3])]
    · by_cases q : i = j
      · subst q; exact absurd z3 y
      · exact (step (Or.inr y)).trans (ih2 c0 ⟨i, by omega, z2, z3⟩)

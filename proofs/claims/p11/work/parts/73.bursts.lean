/-! Bursts: a call with an earlier one of its minute. -/
def v_M (T C : Nat → Nat) (p i : Nat) : Prop := T i ≠ 0 ∧ C i = C p
def v_b (T C : Nat → Nat) (p : Nat) : Nat → Nat
  | 0 => 0
  | j + 1 => if T (41 + j) ≠ 0 ∧ C (41 + j) = C p then 1 else v_b T C p j
theorem v_b_le {T C : Nat → Nat} {p : Nat} : ∀ j, v_b T C p j ≤ 1 := by
  intro j
  induction j with
  | zero => exact Nat.zero_le _
  | succ j ih => rw [v_b]; split <;> omega
theorem v_b_y {T C : Nat → Nat} {p : Nat} : ∀ j, v_b T C p j = 1 ↔ ∃ i, 41 ≤ i ∧ i < 41 + j ∧ v_M T C p i := by
  intro j
  induction j with
  | zero => exact ⟨fun z => by rw [v_b] at z; omega, fun ⟨i, z, z2, _⟩ => by omega⟩
  | succ j ih =>
    rw [v_b]
    by_cases c : T (41 + j) ≠ 0 ∧ C (41 + j) = C p
    · rw [if_pos c]; exact ⟨fun _ => ⟨41 + j, by omega, by omega, c⟩, fun _ => rfl⟩
    · rw [if_neg c, ih]
      refine ⟨fun ⟨i, z1, z2, z3⟩ => ⟨i, z1, by omega, z3⟩, fun ⟨i, z1, z2, z3⟩ => ?_⟩
      by_cases q : i = 41 + j
      · subst q; exact absurd z3 c
      · exact ⟨i, z1, by omega, z3⟩
/-- a call of a burst -/
def v_bu (T C : Nat → Nat) (p : Nat) : Nat := if T p = 0 then 0 else v_b T C p (p - 41)
theorem v_cminute {n : Nat} {H T A B C : Nat → Nat} {hd th co se tr : Nat → Int32} (w : w_ok n H T A B C) (h : w_c H T A B C hd th co se tr) {p : Nat} (hp : p < 62) (K : Int32 → Option Int32) : ∀ (x j fu : Nat), j + x = p → x < fu → ((∀ i, j ≤ i → i < p → ¬ v_M T C p i) → m_X0_hasEarlierOfMinute_L3 (nI p) th tr K fu (nI j) = K (nI p)) ∧ ((∃ i, j ≤ i ∧ i < p ∧ v_M T C p i) → m_X0_hasEarlierOfMinute_L3 (nI p) th tr K fu (nI j) = some 1) := by
  intro x
  induction x with
  | zero =>
    intro j fu hj hf
    obtain ⟨f, rfl⟩ : ∃ f, fu = f + 1 := ⟨fu - 1, by omega⟩
    have e : j = p := by omega
    subst e
    refine ⟨fun _ => by rw [m_X0_hasEarlierOfMinute_L3, if_pos (nI_le (Nat.le_refl _) (by omega))], fun ⟨i, z1, z2, _⟩ => by omega⟩
  | succ x ih =>
    intro j fu hj hf
    obtain ⟨f, rfl⟩ : ∃ f, fu = f + 1 := ⟨fu - 1, by omega⟩
    have g1 : ¬ nI p ≤ nI j := nI_ge (by omega) (by omega)
    obtain ⟨t1, t2, t3, t4, t5⟩ := w_crow w h j (by omega)
    obtain ⟨u1, u2, u3, u4, u5⟩ := w_crow w h p hp
    have bj := w_b3 w (p := j) (by omega)
    have bp := w_b3 w (p := p) hp
    obtain ⟨ih1, ih2⟩ := ih (j + 1) f (by omega) (by omega)
    have step : ¬ v_M T C p j → m_X0_hasEarlierOfMinute_L3 (nI p) th tr K (f + 1) (nI j) = m_X0_hasEarlierOfMinute_L3 (nI p) th tr K f (nI (j + 1)) := fun hn => by
      rw [m_X0_hasEarlierOfMinute_L3, if_neg g1, w_isThere (by omega) t1 t2, Option.bind_some, nI_1]
      by_cases c : T j = 0
      · rw [c, if_pos nI_0]
      · have c1 : ¬ nI (T j) = 0 := fun z => c ((nI_eq (b := 0) (by omega) (by omega)).mp z)
        rw [if_neg c1, w_third (by omega) t5, Option.bind_some, w_third hp u5, Option.bind_some, if_neg (fun z => hn ⟨c, (nI_eq (by omega) (by omega)).mp z⟩)]
    refine ⟨fun hn => (step (hn j (by omega) (by omega))).trans (ih1 (fun i z1 z2 => hn i (by omega) z2)), fun ⟨i, z1, z2, z3⟩ => ?_⟩
    by_cases y : v_M T C p j
    · obtain ⟨c, c2⟩ := y
      have c1 : ¬ nI (T j) = 0 := fun z => c ((nI_eq (b := 0) (by omega) (by omega)).mp z)
      rw [m_X0_hasEarlierOfMinute_L3, if_neg g1, w_isThere (by omega) t1 t2, Option.bind_some, if_neg c1, w_third (by omega) t5, Option.bind_some, w_third hp u5, Option.bind_some, if_pos (by rw [c2])]
    · by_cases q : i = j
      · subst q; exact absurd z3 y
      · exact (step y).trans (ih2 ⟨i, by omega, z2, z3⟩)
theorem v_cminute2 {n fu : Nat} {H T A B C : Nat → Nat} {hd th co se tr : Nat → Int32} (hfu : 63 ≤ fu) (w : w_ok n H T A B C) (h : w_c H T A B C hd th co se tr) {p : Nat} (hp1 : 41 ≤ p) (hp : p < 62) : m_X0_hasEarlierOfMinute fu (nI p) th tr = some (nI (v_b T C p (p - 41))) := by
  have k := v_cminute w h hp (fun _ => some 0) (p - 41) 41 fu (by omega) (by omega)
  have y := v_b_y (T := T) (C := C) (p := p) (p - 41)
  have l := v_b_le (T := T) (C := C) (p := p) (p - 41)
  rw [show 41 + (p - 41) = p by omega] at y
  rw [m_X0_hasEarlierOfMinute, mt_j]
  by_cases c : v_b T C p (p - 41) = 1
  · rw [c]; exact k.2 (y.mp c)
  · have c0 : v_b T C p (p - 41) = 0 := by omega
    rw [c0]
    exact k.1 (fun i z1 z2 z3 => c (y.mpr ⟨i, z1, z2, z3⟩))
theorem v_cbursts {n FU : Nat} {H T A B C : Nat → Nat} {hd th co se tr : Nat → Int32} (hfu : 63 ≤ FU) (w : w_ok n H T A B C) (h : w_c H T A B C hd th co se tr) (K : Int32 → Int32 → Option Int32) : ∀ (x j fu : Nat), j + x = 21 → x < fu → m_X0_bursts_L5 FU th tr K fu (nI (w_n (v_bu T C) 41 j)) (nI (41 + j)) = K (nI (w_n (v_bu T C) 41 21)) (nI 62) := by
  intro x
  induction x with
  | zero =>
    intro j fu hj hf
    obtain ⟨f, rfl⟩ : ∃ f, fu = f + 1 := ⟨fu - 1, by omega⟩
    have e : j = 21 := by omega
    subst e
    have g0 : (62 : Int32) ≤ nI (41 + 21) := nI_le (a := 62) (b := 41 + 21) (by omega) (by omega)
    rw [m_X0_bursts_L5, if_pos g0]
  | succ x ih =>
    intro j fu hj hf
    obtain ⟨f, rfl⟩ : ∃ f, fu = f + 1 := ⟨fu - 1, by omega⟩
    have g1 : ¬ (62 : Int32) ≤ nI (41 + j) := fun z => by have := (nI_leI (a := 62) (b := 41 + j) (by omega) (by omega)).mp z; omega
    obtain ⟨t1, t2, t3, t4, t5⟩ := w_crow w h (41 + j) (by omega)
    have l := v_b_le (T := T) (C := C) (p := 41 + j) (41 + j - 41)
    have e0 : ∀ b : Nat, b = w_n (v_bu T C) 41 (j + 1) → m_X0_bursts_L5 FU th tr K f (nI b) (nI (41 + j + 1)) = m_X0_bursts_L5 FU th tr K f (nI (w_n (v_bu T C) 41 (j + 1))) (nI (41 + (j + 1))) := fun b hb => by rw [hb]; rfl
    rw [← ih (j + 1) f (by omega) (by omega), m_X0_bursts_L5, if_neg g1, w_isThere (by omega) t1 t2, Option.bind_some, nI_1, nI_1]
    by_cases c : T (41 + j) = 0
    · rw [c, if_pos nI_0]
      exact e0 _ (by rw [w_n, v_bu, if_pos c]; rfl)
    · have c1 : ¬ nI (T (41 + j)) = 0 := fun z => c ((nI_eq (b := 0) (by omega) (by omega)).mp z)
      rw [if_neg c1, v_cminute2 hfu w h (by omega) (by omega), Option.bind_some]
      by_cases c2 : v_b T C (41 + j) (41 + j - 41) = 0
      · rw [c2, if_pos nI_0]
        exact e0 _ (by rw [w_n, v_bu, if_neg c, c2]; rfl)
      · have c3 : v_b T C (41 + j) (41 + j - 41) = 1 := by omega
        rw [c3, if_neg (by decide)]
        exact e0 _ (by rw [w_n, v_bu, if_neg c, c3])

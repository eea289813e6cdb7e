/-! A long way of a unit to a call. -/
def v_L (T A B C : Nat → Nat) (u c : Nat) : Prop := T u ≠ 0 ∧ T c ≠ 0 ∧ 100 ≤ r_D T A B C (A u) (A c) ∧ r_D T A B C (A u) (A c) < 1000000
theorem v_way99 {T A B C : Nat → Nat} {a b : Nat} : r_way T A B C a b ≤ 99 ↔ ¬ (100 ≤ r_D T A B C a b ∧ r_D T A B C a b < 1000000) := by
  have l := r_D_bd (T := T) (A := A) (B := B) (C := C) a b
  rw [r_way]
  by_cases c : 1000000 ≤ r_D T A B C a b
  · rw [if_pos c]
    exact ⟨fun _ z => by omega, fun _ => by decide⟩
  · rw [if_neg c]
    have k := nI_leI (a := r_D T A B C a b) (b := 99) (by omega) (by omega)
    exact ⟨fun z y => by have := k.mp z; omega, fun z => k.mpr (by omega)⟩
theorem v_clong1 {n : Nat} {H T A B C : Nat → Nat} {hd th co se tr me : Nat → Int32} (w : w_ok n H T A B C) (h : w_c H T A B C hd th co se tr) {u : Nat} (ht : T u ≠ 0) (hm : r_row (r_D T A B C (A u)) me) (K : Unit → Option (Int32 × (Nat → Int32))) : ∀ (x j fu : Nat), j + x = 62 → x < fu → ((∀ c, j ≤ c → c < 62 → ¬ v_L T A B C u c) → m_X0_someWayIsLong_L33 th co me K fu (nI j) = K ()) ∧ ((∃ c, j ≤ c ∧ c < 62 ∧ v_L T A B C u c) → m_X0_someWayIsLong_L33 th co me K fu (nI j) = some (1, me)) := by
  intro x
  induction x with
  | zero =>
    intro j fu hj hf
    obtain ⟨f, rfl⟩ : ∃ f, fu = f + 1 := ⟨fu - 1, by omega⟩
    have e : j = 62 := by omega
    subst e
    have g0 : (62 : Int32) ≤ nI 62 := nI_le (a := 62) (b := 62) (by omega) (by omega)
    exact ⟨fun _ => by rw [m_X0_someWayIsLong_L33, if_pos g0], fun ⟨i, z1, z2, _⟩ => by omega⟩
  | succ x ih =>
    intro j fu hj hf
    obtain ⟨f, rfl⟩ : ∃ f, fu = f + 1 := ⟨fu - 1, by omega⟩
    have g1 : ¬ (62 : Int32) ≤ nI j := fun z => by have := (nI_leI (a := 62) (b := j) (by omega) (by omega)).mp z; omega
    obtain ⟨t1, t2, t3, _⟩ := w_crow w h j (by omega)
    have ha := w_A21 w j (by omega)
    obtain ⟨ih1, ih2⟩ := ih (j + 1) f (by omega) (by omega)
    have step : ¬ v_L T A B C u j → m_X0_someWayIsLong_L33 th co me K (f + 1) (nI j) = m_X0_someWayIsLong_L33 th co me K f (nI (j + 1)) := fun hn => by
      rw [m_X0_someWayIsLong_L33, if_neg g1, w_isThere (by omega) t1 t2, Option.bind_some, nI_1]
      by_cases c : T j = 0
      · rw [c, if_pos nI_0]
      · have c1 : ¬ nI (T j) = 0 := fun z => c ((nI_eq (b := 0) (by omega) (by omega)).mp z)
        rw [if_neg c1, w_corner (by omega) t3, Option.bind_some, r_metresTo ha hm, Option.bind_some, if_pos (v_way99.mpr (fun z => hn ⟨ht, c, z⟩))]
    refine ⟨fun hn => (step (hn j (by omega) (by omega))).trans (ih1 (fun i z1 z2 => hn i (by omega) z2)), fun ⟨i, z1, z2, z3⟩ => ?_⟩
    by_cases y : v_L T A B C u j
    · have c1 : ¬ nI (T j) = 0 := fun z => y.2.1 ((nI_eq (b := 0) (by omega) (by omega)).mp z)
      rw [m_X0_someWayIsLong_L33, if_neg g1, w_isThere (by omega) t1 t2, Option.bind_some, if_neg c1, w_corner (by omega) t3, Option.bind_some, r_metresTo ha hm, Option.bind_some, if_neg (fun z => v_way99.mp z y.2.2)]
    · by_cases q : i = j
      · subst q; exact absurd z3 y
      · exact (step y).trans (ih2 ⟨i, by omega, z2, z3⟩)
theorem v_clong {n FU : Nat} {H T A B C : Nat → Nat} {hd th co se tr : Nat → Int32} (hfu : 63 ≤ FU) (w : w_ok n H T A B C) (h : w_c H T A B C hd th co se tr) (G : (Nat → Int32) → Option (Int32 × (Nat → Int32))) : ∀ (x j fu : Nat), j + x = 41 → x < fu → ∀ me, ((∀ u, j ≤ u → u < 41 → ∀ c, 41 ≤ c → c < 62 → ¬ v_L T A B C u c) → ∃ me', m_X0_someWayIsLong_L3 FU th co se tr (fun _ m => G m) fu (nI j) me = G me') ∧ ((∃ u, j ≤ u ∧ u < 41 ∧ ∃ c, 41 ≤ c ∧ c < 62 ∧ v_L T A B C u c) → ∃ me', m_X0_someWayIsLong_L3 FU th co se tr (fun _ m => G m) fu (nI j) me = some (1, me')) := by
  intro x
  induction x with
  | zero =>
    intro j fu hj hf me
    obtain ⟨f, rfl⟩ : ∃ f, fu = f + 1 := ⟨fu - 1, by omega⟩
    have e : j = 41 := by omega
    subst e
    have g0 : (41 : Int32) ≤ nI 41 := nI_le (a := 41) (b := 41) (by omega) (by omega)
    exact ⟨fun _ => ⟨me, by rw [m_X0_someWayIsLong_L3, if_pos g0]⟩, fun ⟨i, z1, z2, _⟩ => by omega⟩
  | succ x ih =>
    intro j fu hj hf me
    obtain ⟨f, rfl⟩ : ∃ f, fu = f + 1 := ⟨fu - 1, by omega⟩
    have g1 : ¬ (41 : Int32) ≤ nI j := fun z => by have := (nI_leI (a := 41) (b := j) (by omega) (by omega)).mp z; omega
    obtain ⟨t1, t2, t3, _⟩ := w_crow w h j (by omega)
    have ha := w_A21 w j (by omega)
    by_cases c : T j = 0
    · obtain ⟨ih1, ih2⟩ := ih (j + 1) f (by omega) (by omega) me
      have step : m_X0_someWayIsLong_L3 FU th co se tr (fun _ m => G m) (f + 1) (nI j) me = m_X0_someWayIsLong_L3 FU th co se tr (fun _ m => G m) f (nI (j + 1)) me := by
        rw [m_X0_someWayIsLong_L3, if_neg g1, w_isThere (by omega) t1 t2, Option.bind_some, c, if_pos nI_0, nI_1]
      rw [step]
      refine ⟨fun hn => ih1 (fun u z1 z2 => hn u (by omega) z2), fun ⟨u, z1, z2, cc, z3, z4, z5⟩ => ?_⟩
      by_cases q : u = j
      · subst q; exact absurd c z5.1
      · exact ih2 ⟨u, by omega, z2, cc, z3, z4, z5⟩
    · have c1 : ¬ nI (T j) = 0 := fun z => c ((nI_eq (b := 0) (by omega) (by omega)).mp z)
      obtain ⟨m1, h1, h2⟩ := r_cmeasure (fu := FU) (by omega) ha (w_rok w) (w_crow w h) me
      obtain ⟨ih1, ih2⟩ := ih (j + 1) f (by omega) (by omega) m1
      have k := v_clong1 w h c h1 (fun _ => m_X0_someWayIsLong_L3 FU th co se tr (fun _ m => G m) f (nI j + (1 : Int32)) m1) 21 41 FU (by omega) (by omega)
      have step : m_X0_someWayIsLong_L3 FU th co se tr (fun _ m => G m) (f + 1) (nI j) me = m_X0_someWayIsLong_L33 th co m1 (fun _ => m_X0_someWayIsLong_L3 FU th co se tr (fun _ m => G m) f (nI j + (1 : Int32)) m1) FU (nI 41) := by
        rw [m_X0_someWayIsLong_L3, if_neg g1, w_isThere (by omega) t1 t2, Option.bind_some, if_neg c1, w_corner (by omega) t3, Option.bind_some, h2, Option.bind_some, mt_j]
        rfl
      rw [step]
      refine ⟨fun hn => ?_, fun ⟨u, z1, z2, cc, z3, z4, z5⟩ => ?_⟩
      · rw [k.1 (fun cc z1 z2 => hn j (by omega) (by omega) cc z1 z2), nI_1]
        exact ih1 (fun u z1 z2 => hn u (by omega) z2)
      · by_cases y : ∃ cc, 41 ≤ cc ∧ cc < 62 ∧ v_L T A B C j cc
        · exact ⟨m1, k.2 y⟩
        · rw [k.1 (fun cc z1 z2 z3 => y ⟨cc, z1, z2, z3⟩), nI_1]
          by_cases q : u = j
          · subst q; exact absurd ⟨cc, z3, z4, z5⟩ y
          · exact ih2 ⟨u, by omega, z2, cc, z3, z4, z5⟩

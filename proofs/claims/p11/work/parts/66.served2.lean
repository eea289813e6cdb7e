/-- whether one of the first j units can serve the call p -/
def w_s (T A B C : Nat → Nat) (p : Nat) : Nat → Nat
  | 0 => 0
  | j + 1 => if T (30 + j) ≠ 0 ∧ (B (30 + j)).testBit (B p) = true ∧ r_D T A B C (A p) (A (30 + j)) < 1000000 then 1 else w_s T A B C p j
theorem w_s_le {T A B C : Nat → Nat} {p : Nat} : ∀ j, w_s T A B C p j ≤ 1 := by
  intro j
  induction j with
  | zero => exact Nat.zero_le _
  | succ j ih => rw [w_s]; split <;> omega
theorem w_s_y {T A B C : Nat → Nat} {p : Nat} : ∀ j, w_s T A B C p j = 1 ↔ ∃ i, i < j ∧ T (30 + i) ≠ 0 ∧ (B (30 + i)).testBit (B p) = true ∧ r_D T A B C (A p) (A (30 + i)) < 1000000 := by
  intro j
  induction j with
  | zero => exact ⟨fun z => by rw [w_s] at z; omega, fun ⟨i, z, _⟩ => by omega⟩
  | succ j ih =>
    rw [w_s]
    by_cases c : T (30 + j) ≠ 0 ∧ (B (30 + j)).testBit (B p) = true ∧ r_D T A B C (A p) (A (30 + j)) < 1000000
    · rw [if_pos c]; exact ⟨fun _ => ⟨j, by omega, c⟩, fun _ => rfl⟩
    · rw [if_neg c, ih]
      refine ⟨fun ⟨i, z1, z2⟩ => ⟨i, by omega, z2⟩, fun ⟨i, z1, z2⟩ => ?_⟩
      by_cases q : i = j
      · subst q; exact absurd z2 c
      · exact ⟨i, by omega, z2⟩
theorem w_s_bit {T A B C : Nat → Nat} (hr : r_ok T A B C) (hA : ∀ p, p < 62 → A p < 21) {p : Nat} (hp : p < 62) : (s_it T A B (s_u T A B 11) 21 (A p)).testBit (B p) = true ↔ w_s T A B C p 11 = 1 := by
  rw [s_final (C := C) hr (hA p hp), w_s_y]
  constructor
  · intro ⟨i, z1, z2, z3, z4⟩
    exact ⟨i, z1, z2, z3, by rw [r_D_sym hr (hA p hp) (hA (30 + i) (by omega))]; exact z4⟩
  · intro ⟨i, z1, z2, z3, z4⟩
    exact ⟨i, z1, z2, z3, by rw [r_D_sym hr (hA (30 + i) (by omega)) (hA p hp)]; exact z4⟩
/-- the reference looks for a unit -/
theorem w_mserve {T A B C : Nat → Nat} {th fi ot la far : Nat → Int32} {p : Nat} (hp : p < 62) (hbp : B p < 3) (hA : ∀ p, p < 62 → A p < 21) (hb : ∀ i, i < 11 → T (30 + i) ≠ 0 → B (30 + i) < 8) (hrow : ∀ p, p < 62 → th p = nI (T p) ∧ T p ≤ 1 ∧ fi p = nI (A p) ∧ ot p = nI (B p) ∧ la p = nI (C p)) (hfar : r_row (r_D T A B C (A p)) far) (K : Int32 → Int32 → Option (Int32 × (Nat → Int32))) : ∀ (x j fu : Nat), j + x = 11 → x < fu → m_X7_isServed_L26 (nI p) th fi ot far K fu (nI (w_s T A B C p j)) (nI (30 + j)) = K (nI (w_s T A B C p 11)) (nI 41) := by
  intro x
  induction x with
  | zero =>
    intro j fu hj hf
    obtain ⟨f, rfl⟩ : ∃ f, fu = f + 1 := ⟨fu - 1, by omega⟩
    have e : j = 11 := by omega
    subst e
    have g0 : (41 : Int32) ≤ nI (30 + 11) := nI_le (a := 41) (b := 30 + 11) (by omega) (by omega)
    rw [m_X7_isServed_L26, if_pos g0]
  | succ x ih =>
    intro j fu hj hf
    obtain ⟨f, rfl⟩ : ∃ f, fu = f + 1 := ⟨fu - 1, by omega⟩
    have g1 : ¬ (41 : Int32) ≤ nI (30 + j) := fun z => by have := (nI_leI (a := 41) (b := 30 + j) (by omega) (by omega)).mp z; omega
    obtain ⟨t1, t2, t3, t4, t5⟩ := hrow (30 + j) (by omega)
    obtain ⟨u1, u2, u3, u4, u5⟩ := hrow p hp
    have ha := hA (30 + j) (by omega)
    have n10 : ¬ nI 1 = 0 := by decide
    have q1 : (nI (30 + j)).toNatClampNeg = 30 + j := nI_clamp (by omega)
    have q2 : (nI (A (30 + j))).toNatClampNeg = A (30 + j) := nI_clamp (by omega)
    have q3 : (nI p).toNatClampNeg = p := nI_clamp (by omega)
    have i1 : ¬ (nI (30 + j) < 0 ∨ 62 ≤ 30 + j) := t_in2 (N := 62) (by omega) (by omega)
    have i2 : ¬ (nI (A (30 + j)) < 0 ∨ 21 ≤ A (30 + j)) := t_in2 ha (by omega)
    have i3 : ¬ (nI p < 0 ∨ 62 ≤ p) := t_in2 hp (by omega)
    have l := r_D_bd (T := T) (A := A) (B := B) (C := C) (A p) (A (30 + j))
    rw [← ih (j + 1) f (by omega) (by omega), m_X7_isServed_L26, if_neg g1, nI_1, q1, q3, t1, t3, t4, u4, q2, hfar _ ha]
    have e0 : ∀ b : Nat, b = w_s T A B C p (j + 1) → ∀ z : Int32, z = nI b → m_X7_isServed_L26 (nI p) th fi ot far K f z (nI (30 + j + 1)) = m_X7_isServed_L26 (nI p) th fi ot far K f (nI (w_s T A B C p (j + 1))) (nI (30 + (j + 1))) := fun b hb z hz => by rw [hz, hb]; rfl
    by_cases c0 : w_s T A B C p j = 0
    · rw [c0, if_pos nI_0, if_pos i1]
      by_cases c : T (30 + j) = 0
      · rw [c, if_pos nI_0]
        exact e0 0 (by rw [w_s, if_neg (fun z => z.1 c), c0]) _ rfl
      · have c1 : ¬ nI (T (30 + j)) = 0 := fun z => c ((nI_eq (b := 0) (by omega) (by omega)).mp z)
        rw [if_neg c1, if_pos i1, if_pos i3]
        by_cases c2 : (B (30 + j)).testBit (B p) = true
        · rw [if_pos ((s_bit _ (hb j (by omega) c) _ hbp).mpr c2), if_pos i1, if_pos i2]
          by_cases c3 : r_D T A B C (A p) (A (30 + j)) < 1000000
          · have g : ¬ (1000000 : Int32) ≤ nI (r_D T A B C (A p) (A (30 + j))) := fun z => by have := (nI_leI (a := 1000000) (by omega) (by omega)).mp z; omega
            rw [if_neg g]
            exact e0 1 (by rw [w_s, if_pos ⟨c, c2, c3⟩]) _ rfl
          · have g : (1000000 : Int32) ≤ nI (r_D T A B C (A p) (A (30 + j))) := (nI_leI (a := 1000000) (by omega) (by omega)).mpr (by omega)
            rw [if_pos g]
            exact e0 0 (by rw [w_s, if_neg (fun z => c3 z.2.2), c0]) _ rfl
        · rw [if_neg (fun z => c2 ((s_bit _ (hb j (by omega) c) _ hbp).mp z))]
          exact e0 0 (by rw [w_s, if_neg (fun z => c2 z.2.1), c0]) _ rfl
    · have c1 : w_s T A B C p j = 1 := by have := w_s_le (T := T) (A := A) (B := B) (C := C) (p := p) j; omega
      rw [c1, if_neg n10]
      exact e0 1 (by rw [w_s]; split <;> omega) _ rfl
/-- served: the call is there and a unit can serve it -/
def w_sv (T A B C : Nat → Nat) (p : Nat) : Nat := if T p = 0 then 0 else w_s T A B C p 11
theorem w_isServed {T A B C : Nat → Nat} {th fi ot la far : Nat → Int32} {p fu : Nat} (hfu : 31 ≤ fu) (hp : p < 62) (hbp : B p < 3) (hr : r_ok T A B C) (hA : ∀ p, p < 62 → A p < 21) (hb : ∀ i, i < 11 → T (30 + i) ≠ 0 → B (30 + i) < 8) (hrow : ∀ p, p < 62 → th p = nI (T p) ∧ T p ≤ 1 ∧ fi p = nI (A p) ∧ ot p = nI (B p) ∧ la p = nI (C p)) : ∃ far', m_X7_isServed fu (nI p) th fi ot la far = some (nI (w_sv T A B C p), far') := by
  obtain ⟨u1, u2, u3, u4, u5⟩ := hrow p hp
  have q3 : (nI p).toNatClampNeg = p := nI_clamp (by omega)
  have i3 : ¬ (nI p < 0 ∨ 62 ≤ p) := t_in2 hp (by omega)
  by_cases c : T p = 0
  · refine ⟨far, ?_⟩
    rw [m_X7_isServed, q3, if_pos i3, u1, c, if_pos nI_0, w_sv, if_pos c]; rfl
  · have c1 : ¬ nI (T p) = 0 := fun z => c ((nI_eq (b := 0) (by omega) (by omega)).mp z)
    obtain ⟨f1, h1, h2⟩ := r_mreach (a := A p) hfu (hA p hp) hr hrow far
    refine ⟨f1, ?_⟩
    have h3 := w_mserve (far := f1) hp hbp hA hb hrow h1 (fun x _ => if (x &&& 1 = x) then some (x, f1) else none) 11 0 fu (by omega) (by omega)
    have l := w_s_le (T := T) (A := A) (B := B) (C := C) (p := p) 11
    have e : nI (w_s T A B C p 11) &&& 1 = nI (w_s T A B C p 11) := by
      have : ∀ x, x < 2 → nI x &&& 1 = nI x := by decide
      exact this _ (by omega)
    rw [m_X7_isServed, q3, if_pos i3, u1, if_neg c1, if_pos i3, u3, h2, Option.bind_some, mt_j, w_sv, if_neg c]
    refine Eq.trans h3 ?_
    show (if (nI (w_s T A B C p 11) &&& 1 = nI (w_s T A B C p 11)) then some (nI (w_s T A B C p 11), f1) else none) = _
    rw [if_pos e]

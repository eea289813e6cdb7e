/-! What the rows give, out of the town behind them. -/
theorem w_rok {n : Nat} {H T A B C : Nat → Nat} (w : w_ok n H T A B C) : r_ok T A B C := by
  intro k hk ht
  have h1 := w_ok_there w k (by omega)
  have h2 := w_ok_had w k (by omega)
  have h3 := w_ok_n20 w
  have h4 := w_ok_street w k hk (by omega)
  omega
theorem w_A21 {n : Nat} {H T A B C : Nat → Nat} (w : w_ok n H T A B C) : ∀ p, p < 62 → A p < 21 := fun p hp => by
  have := (w_b3 w hp).2.2.1
  omega
theorem w_B8 {n : Nat} {H T A B C : Nat → Nat} (w : w_ok n H T A B C) : ∀ i, i < 11 → T (30 + i) ≠ 0 → B (30 + i) < 8 := fun i hi ht => by
  have h1 := w_ok_there w (30 + i) (by omega)
  have h2 := w_ok_had w (30 + i) (by omega)
  have h4 := w_ok_unit w (30 + i) (by omega) (by omega) (by omega)
  omega
theorem w_B3 {n : Nat} {H T A B C : Nat → Nat} (w : w_ok n H T A B C) : ∀ p, 41 ≤ p → p < 62 → B p < 3 := fun p h1 h2 => by
  have h3 := w_ok_had w p h2
  by_cases c : H p = 1
  · have := w_ok_call w p h1 h2 c; omega
  · have := w_ok_none w p h2 (by omega); omega
theorem w_crow {n : Nat} {H T A B C : Nat → Nat} {hd th co se tr : Nat → Int32} (w : w_ok n H T A B C) (h : w_c H T A B C hd th co se tr) : ∀ p, p < 62 → th p = nI (T p) ∧ T p ≤ 1 ∧ co p = nI (A p) ∧ se p = nI (B p) ∧ tr p = nI (C p) := fun p hp =>
  ⟨(h p hp).2.1, (w_b3 w hp).2.1, (h p hp).2.2.1, (h p hp).2.2.2.1, (h p hp).2.2.2.2⟩
theorem w_mrow {n : Nat} {H T A B C : Nat → Nat} {kd th fi ot la : Nat → Int32} (w : w_ok n H T A B C) (h : w_m H T A B C kd th fi ot la) : ∀ p, p < 62 → th p = nI (T p) ∧ T p ≤ 1 ∧ fi p = nI (A p) ∧ ot p = nI (B p) ∧ la p = nI (C p) := fun p hp =>
  ⟨(h p hp).2.1, (w_b3 w hp).2.1, (h p hp).2.2.1, (h p hp).2.2.2.1, (h p hp).2.2.2.2⟩
theorem w_mkd {n : Nat} {H T A B C : Nat → Nat} {kd th fi ot la : Nat → Int32} (w : w_ok n H T A B C) (h : w_m H T A B C kd th fi ot la) : ∀ p, p < 62 → th p = nI (T p) ∧ T p ≤ H p ∧ H p ≤ 1 ∧ kd p = (if H p = 1 then nI (t_kd p) else (-1)) := fun p hp =>
  ⟨(h p hp).2.1, w_ok_there w p hp, w_ok_had w p hp, (h p hp).1⟩
theorem w_sv_le {T A B C : Nat → Nat} (p : Nat) : w_sv T A B C p ≤ 1 := by
  rw [w_sv]
  split
  · omega
  · exact w_s_le 11
/-- the class counts the served calls -/
theorem w_cserved {n : Nat} {H T A B C : Nat → Nat} {hd th co se tr sk : Nat → Int32} (w : w_ok n H T A B C) (h : w_c H T A B C hd th co se tr) (hsk : r_row (s_it T A B (s_u T A B 11) 21) sk) (K : Int32 → Int32 → Option (Int32 × (Nat → Int32))) : ∀ (x j fu : Nat), j + x = 21 → x < fu → m_X0_servedCalls_L13 th co se sk K fu (nI (w_n (w_sv T A B C) 41 j)) (nI (41 + j)) = K (nI (w_n (w_sv T A B C) 41 21)) (nI 62) := by
  intro x
  induction x with
  | zero =>
    intro j fu hj hf
    obtain ⟨f, rfl⟩ : ∃ f, fu = f + 1 := ⟨fu - 1, by omega⟩
    have e : j = 21 := by omega
    subst e
    have g0 : (62 : Int32) ≤ nI (41 + 21) := nI_le (a := 62) (b := 41 + 21) (by omega) (by omega)
    rw [m_X0_servedCalls_L13, if_pos g0]
  | succ x ih =>
    intro j fu hj hf
    obtain ⟨f, rfl⟩ : ∃ f, fu = f + 1 := ⟨fu - 1, by omega⟩
    have g1 : ¬ (62 : Int32) ≤ nI (41 + j) := fun z => by have := (nI_leI (a := 62) (b := 41 + j) (by omega) (by omega)).mp z; omega
    obtain ⟨t1, t2, t3, t4, t5⟩ := w_crow w h (41 + j) (by omega)
    have e0 : ∀ b : Nat, b = w_n (w_sv T A B C) 41 (j + 1) → m_X0_servedCalls_L13 th co se sk K f (nI b) (nI (41 + j + 1)) = m_X0_servedCalls_L13 th co se sk K f (nI (w_n (w_sv T A B C) 41 (j + 1))) (nI (41 + (j + 1))) := fun b hb => by rw [hb]; rfl
    rw [← ih (j + 1) f (by omega) (by omega), m_X0_servedCalls_L13, if_neg g1, w_isThere (by omega) t1 t2, Option.bind_some, nI_1, nI_1]
    by_cases c : T (41 + j) = 0
    · rw [c, if_pos nI_0]
      exact e0 _ (by rw [w_n, w_sv, if_pos c]; rfl)
    · have c1 : ¬ nI (T (41 + j)) = 0 := fun z => c ((nI_eq (b := 0) (by omega) (by omega)).mp z)
      rw [if_neg c1, w_corner (by omega) t3, Option.bind_some, w_second (by omega) t4, Option.bind_some, s_comesTo (w_A21 w _ (by omega)) (w_B3 w _ (by omega) (by omega)) (s_it_bd (s_u_bd (w_B8 w) 11 (by omega)) 21) hsk, Option.bind_some]
      have y := w_s_bit (w_rok w) (w_A21 w) (p := 41 + j) (by omega)
      by_cases c2 : w_s T A B C (41 + j) 11 = 1
      · rw [if_pos (y.mpr c2), if_neg (by decide)]
        exact e0 _ (by rw [w_n, w_sv, if_neg c, c2])
      · have c3 : w_s T A B C (41 + j) 11 = 0 := by have := w_s_le (T := T) (A := A) (B := B) (C := C) (p := 41 + j) 11; omega
        rw [if_neg (fun z => c2 (y.mp z)), if_pos rfl]
        exact e0 _ (by rw [w_n, w_sv, if_neg c, c3]; rfl)
theorem w_cservedAll {n fu : Nat} {H T A B C : Nat → Nat} {hd th co se tr sk : Nat → Int32} (hfu : 31 ≤ fu) (w : w_ok n H T A B C) (h : w_c H T A B C hd th co se tr) : ∃ sk', m_X0_servedCalls fu sk th co se = some (nI (w_n (w_sv T A B C) 41 21), sk') := by
  obtain ⟨s1, h1, h2⟩ := s_bring hfu (w_rok w) (w_A21 w) (w_B8 w) (w_crow w h) sk
  refine ⟨s1, ?_⟩
  rw [m_X0_servedCalls, h2, Option.bind_some, mt_j]
  exact w_cserved w h h1 (fun x _ => some (x, s1)) 21 0 fu (by omega) (by omega)
/-- metres of the streets that are there -/
def w_len (T C : Nat → Nat) (p : Nat) : Nat := if T p = 0 then 0 else C p
theorem w_clen {n : Nat} {H T A B C : Nat → Nat} {hd th co se tr : Nat → Int32} (w : w_ok n H T A B C) (h : w_c H T A B C hd th co se tr) (K : Int32 → Int32 → Option Int32) : ∀ (x j fu : Nat), j + x = 30 → x < fu → m_X0_metresOfStreets_L4 th tr K fu (nI (w_n (w_len T C) 0 j)) (nI j) = K (nI (w_n (w_len T C) 0 30)) (nI 30) := by
  intro x
  induction x with
  | zero =>
    intro j fu hj hf
    obtain ⟨f, rfl⟩ : ∃ f, fu = f + 1 := ⟨fu - 1, by omega⟩
    have e : j = 30 := by omega
    subst e
    have g0 : (30 : Int32) ≤ nI 30 := nI_le (a := 30) (b := 30) (by omega) (by omega)
    rw [m_X0_metresOfStreets_L4, if_pos g0]
  | succ x ih =>
    intro j fu hj hf
    obtain ⟨f, rfl⟩ : ∃ f, fu = f + 1 := ⟨fu - 1, by omega⟩
    have g1 : ¬ (30 : Int32) ≤ nI j := fun z => by have := (nI_leI (a := 30) (b := j) (by omega) (by omega)).mp z; omega
    obtain ⟨t1, t2, t3, t4, t5⟩ := w_crow w h j (by omega)
    rw [← ih (j + 1) f (by omega) (by omega), m_X0_metresOfStreets_L4, if_neg g1, w_isThere (by omega) t1 t2, Option.bind_some, nI_1]
    by_cases c : T j = 0
    · rw [c, if_pos nI_0, w_n, Nat.zero_add, w_len, if_pos c, Nat.add_zero (w_n (w_len T C) 0 j)]
    · have c1 : ¬ nI (T j) = 0 := fun z => c ((nI_eq (b := 0) (by omega) (by omega)).mp z)
      rw [if_neg c1, w_third (by omega) t5, Option.bind_some, nI_add, w_n, Nat.zero_add, w_len, if_neg c]

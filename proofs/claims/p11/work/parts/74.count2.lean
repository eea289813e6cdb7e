/-! The reference's count of served calls and of bursts. -/
def v_g (T C : Nat → Nat) (p m : Nat) : Nat := if T p = 0 then 0 else v_b T C p m
theorem v_mminute {n : Nat} {H T A B C : Nat → Nat} {kd th fi ot la : Nat → Int32} (w : w_ok n H T A B C) (h : w_m H T A B C kd th fi ot la) {p : Nat} (hp : p < 62) (K : Int32 → Int32 → Option (Int32 × Int32 × (Nat → Int32))) : ∀ (x m fu : Nat), 41 + m + x = p → x < fu → m_X7_count_L68 th la (nI p) K fu (nI (v_g T C p m)) (nI (41 + m)) = K (nI (v_g T C p (p - 41))) (nI p) := by
  intro x
  induction x with
  | zero =>
    intro m fu hj hf
    obtain ⟨f, rfl⟩ : ∃ f, fu = f + 1 := ⟨fu - 1, by omega⟩
    have e : 41 + m = p := by omega
    rw [m_X7_count_L68, if_pos (nI_le (by omega) (by omega)), e, show p - 41 = m by omega]
  | succ x ih =>
    intro m fu hj hf
    obtain ⟨f, rfl⟩ : ∃ f, fu = f + 1 := ⟨fu - 1, by omega⟩
    have g1 : ¬ nI p ≤ nI (41 + m) := nI_ge (by omega) (by omega)
    obtain ⟨t1, t2, t3, t4, t5⟩ := w_mrow w h (41 + m) (by omega)
    obtain ⟨u1, u2, u3, u4, u5⟩ := w_mrow w h p hp
    have bj := w_b3 w (p := 41 + m) (by omega)
    have bp := w_b3 w (p := p) hp
    have n10 : ¬ nI 1 = 0 := by decide
    have q1 : (nI (41 + m)).toNatClampNeg = 41 + m := nI_clamp (by omega)
    have q3 : (nI p).toNatClampNeg = p := nI_clamp (by omega)
    have i1 : ¬ (nI (41 + m) < 0 ∨ 62 ≤ 41 + m) := t_in2 (N := 62) (by omega) (by omega)
    have i3 : ¬ (nI p < 0 ∨ 62 ≤ p) := t_in2 hp (by omega)
    have l := v_b_le (T := T) (C := C) (p := p) m
    have e0 : ∀ b : Nat, b = v_g T C p (m + 1) → ∀ z : Int32, z = nI b → m_X7_count_L68 th la (nI p) K f z (nI (41 + m + 1)) = m_X7_count_L68 th la (nI p) K f (nI (v_g T C p (m + 1))) (nI (41 + (m + 1))) := fun b hb z hz => by rw [hz, hb]; rfl
    rw [← ih (m + 1) f (by omega) (by omega), m_X7_count_L68, if_neg g1, q1, q3, t1, u1, t5, u5, nI_1]
    by_cases c0 : T p = 0
    · rw [v_g, if_pos c0, if_pos nI_0, if_pos i3, c0, if_pos nI_0]
      exact e0 0 (by rw [v_g, if_pos c0]) _ rfl
    · have c9 : ¬ nI (T p) = 0 := fun z => c0 ((nI_eq (b := 0) (by omega) (by omega)).mp z)
      rw [v_g, if_neg c0]
      by_cases c1 : v_b T C p m = 0
      · rw [c1, if_pos nI_0, if_pos i3, if_neg c9, if_pos i1]
        by_cases c : T (41 + m) = 0
        · rw [c, if_pos nI_0]
          exact e0 0 (by rw [v_g, if_neg c0, v_b, if_neg (fun z => z.1 c), c1]) _ rfl
        · have c2 : ¬ nI (T (41 + m)) = 0 := fun z => c ((nI_eq (b := 0) (by omega) (by omega)).mp z)
          rw [if_neg c2, if_pos i3, if_pos i1]
          by_cases c3 : C (41 + m) = C p
          · rw [if_pos (by rw [c3])]
            exact e0 1 (by rw [v_g, if_neg c0, v_b, if_pos ⟨c, c3⟩]) _ rfl
          · rw [if_neg (fun z => c3 ((nI_eq (by omega) (by omega)).mp z).symm)]
            exact e0 0 (by rw [v_g, if_neg c0, v_b, if_neg (fun z => c3 z.2), c1]) _ rfl
      · have c2 : v_b T C p m = 1 := by omega
        rw [c2, if_neg n10]
        exact e0 1 (by rw [v_g, if_neg c0, v_b]; split <;> omega) _ rfl
theorem v_mcount {n FU : Nat} {H T A B C : Nat → Nat} {kd th fi ot la : Nat → Int32} (hfu : 63 ≤ FU) (w : w_ok n H T A B C) (h : w_m H T A B C kd th fi ot la) (G : Int32 → Int32 → (Nat → Int32) → Option (Int32 × Int32 × (Nat → Int32))) : ∀ (x j fu : Nat), j + x = 21 → x < fu → ∀ far, ∃ far', m_X7_count_L54 FU th fi ot la (fun a b _ m => G a b m) fu (nI (w_n (w_sv T A B C) 41 j)) (nI (w_n (v_bu T C) 41 j)) (nI (41 + j)) far = G (nI (w_n (w_sv T A B C) 41 21)) (nI (w_n (v_bu T C) 41 21)) far' := by
  intro x
  induction x with
  | zero =>
    intro j fu hj hf far
    obtain ⟨f, rfl⟩ : ∃ f, fu = f + 1 := ⟨fu - 1, by omega⟩
    have e : j = 21 := by omega
    subst e
    have g0 : (62 : Int32) ≤ nI (41 + 21) := nI_le (a := 62) (b := 41 + 21) (by omega) (by omega)
    exact ⟨far, by rw [m_X7_count_L54, if_pos g0]⟩
  | succ x ih =>
    intro j fu hj hf far
    obtain ⟨f, rfl⟩ : ∃ f, fu = f + 1 := ⟨fu - 1, by omega⟩
    have g1 : ¬ (62 : Int32) ≤ nI (41 + j) := fun z => by have := (nI_leI (a := 62) (b := 41 + j) (by omega) (by omega)).mp z; omega
    obtain ⟨f1, hf1⟩ := w_isServed (th := th) (fi := fi) (ot := ot) (la := la) (far := far) (p := 41 + j) (fu := FU) (by omega) (by omega) (w_B3 w _ (by omega) (by omega)) (w_rok w) (w_A21 w) (w_B8 w) (w_mrow w h)
    obtain ⟨f2, hf2⟩ := ih (j + 1) f (by omega) (by omega) f1
    refine ⟨f2, ?_⟩
    have l1 := w_sv_le (T := T) (A := A) (B := B) (C := C) (41 + j)
    have l2 : v_bu T C (41 + j) ≤ 1 := by
      rw [v_bu]
      split
      · omega
      · exact v_b_le _
    have z0 : ∀ y : Nat, nI y + (0 : Int32) = nI y := fun y => nI_add y 0
    have n10 : ¬ nI 1 = 0 := by decide
    have eg : v_g T C (41 + j) (41 + j - 41) = v_bu T C (41 + j) := by rw [v_g, v_bu]
    have e5 : nI (v_g T C (41 + j) 0) = 0 := by rw [v_g]; split <;> rfl
    rw [← hf2, m_X7_count_L54, if_neg g1, mt_j]
    rw [← e5]
    refine Eq.trans (v_mminute w h (p := 41 + j) (by omega) _ j 0 FU (by omega) (by omega)) ?_
    rw [e5, hf1, Option.bind_some, mt_j, eg, nI_1, nI_1]
    dsimp only
    have fin : ∀ a b : Nat, a = w_n (w_sv T A B C) 41 (j + 1) → b = w_n (v_bu T C) 41 (j + 1) → m_X7_count_L54 FU th fi ot la (fun a b _ m => G a b m) f (nI a) (nI b) (nI (41 + j + 1)) f1 = m_X7_count_L54 FU th fi ot la (fun a b _ m => G a b m) f (nI (w_n (w_sv T A B C) 41 (j + 1))) (nI (w_n (v_bu T C) 41 (j + 1))) (nI (41 + (j + 1))) f1 := fun a b ha hb => by rw [ha, hb]; rfl
    by_cases c1 : w_sv T A B C (41 + j) = 0
    · rw [c1, if_pos nI_0]
      by_cases c2 : v_bu T C (41 + j) = 0
      · rw [c2, if_pos nI_0, z0, z0]
        exact fin _ _ (by rw [w_n, c1]; rfl) (by rw [w_n, c2]; rfl)
      · have c3 : v_bu T C (41 + j) = 1 := by omega
        rw [c3, if_neg n10, z0]
        exact fin _ _ (by rw [w_n, c1]; rfl) (by rw [w_n, c3])
    · have c4 : w_sv T A B C (41 + j) = 1 := by omega
      rw [c4, if_neg n10]
      by_cases c2 : v_bu T C (41 + j) = 0
      · rw [c2, if_pos nI_0, z0, nI_1]
        exact fin _ _ (by rw [w_n, c4]) (by rw [w_n, c2]; rfl)
      · have c3 : v_bu T C (41 + j) = 1 := by omega
        rw [c3, if_neg n10, nI_1]
        exact fin _ _ (by rw [w_n, c4]) (by rw [w_n, c3])

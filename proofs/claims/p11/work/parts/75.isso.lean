/-! The reference's verdicts 0, 2, 4: one loop over the parts. -/
theorem v_kd {H : Nat → Nat} {kd : Nat → Int32} {p m : Nat} (hm : m < 3) (h : kd p = (if H p = 1 then nI (t_kd p) else (-1))) : kd p = nI m ↔ (H p = 1 ∧ t_kd p = m) := by
  rw [h]
  by_cases c : H p = 1
  · have k := t_kdc p
    rw [if_pos c]
    exact ⟨fun z => ⟨c, (nI_eq (by omega) (by omega)).mp z⟩, fun z => by rw [z.2]⟩
  · rw [if_neg c]
    have e : ∀ m, m < 3 → ¬ (-1 : Int32) = nI m := by decide
    exact ⟨fun z => absurd z (e m hm), fun z => absurd z.1 c⟩
def v_l (T C : Nat → Nat) (p : Nat) : Nat := if p < 30 then w_len T C p else 0
/-- verdict 4, and whatever asks for no part: the flag stays 0 -/
theorem v_m4 {n FU k : Nat} {H T A B C : Nat → Nat} {kd th fi ot la : Nat → Int32} (hk : k < 5) (k0 : k ≠ 0) (k2 : k ≠ 2) (w : w_ok n H T A B C) (h : w_m H T A B C kd th fi ot la) (K : Int32 → Int32 → Int32 → (Nat → Int32) → Option (Int32 × (Nat → Int32))) (far : Nat → Int32) : ∀ (x p fu : Nat), p + x = 62 → x < fu → m_X7_isSo_L7 FU (nI k) kd th fi ot la K fu 0 (nI (w_n (v_l T C) 0 p)) (nI p) far = K 0 (nI (w_n (v_l T C) 0 62)) (nI 62) far := by
  intro x
  induction x with
  | zero =>
    intro p fu hj hf
    obtain ⟨f, rfl⟩ : ∃ f, fu = f + 1 := ⟨fu - 1, by omega⟩
    have e : p = 62 := by omega
    subst e
    have g0 : (62 : Int32) ≤ nI 62 := nI_le (a := 62) (b := 62) (by omega) (by omega)
    rw [m_X7_isSo_L7, if_pos g0]
  | succ x ih =>
    intro p fu hj hf
    obtain ⟨f, rfl⟩ : ∃ f, fu = f + 1 := ⟨fu - 1, by omega⟩
    have g1 : ¬ (62 : Int32) ≤ nI p := fun z => by have := (nI_leI (a := 62) (b := p) (by omega) (by omega)).mp z; omega
    obtain ⟨t1, t2, t3, t4, t5⟩ := w_mrow w h p (by omega)
    obtain ⟨_, m2, m3, m4⟩ := w_mkd w h p (by omega)
    have q1 : (nI p).toNatClampNeg = p := nI_clamp (by omega)
    have i1 : ¬ (nI p < 0 ∨ 62 ≤ p) := t_in2 (N := 62) (by omega) (by omega)
    have z00 : (0 : Int32) = 0 := rfl
    have nk0 : ¬ nI k = 0 := fun z => k0 ((nI_eq (b := 0) (by omega) (by omega)).mp z)
    have nk2 : ¬ nI k = 2 := fun z => k2 ((nI_eq (b := 2) (by omega) (by omega)).mp z)
    have z0 : ∀ y : Nat, nI y + (0 : Int32) = nI y := fun y => nI_add y 0
    have kz : kd p = 0 ↔ (H p = 1 ∧ t_kd p = 0) := v_kd (m := 0) (by omega) m4
    have kc := t_kdc p
    have fin : ∀ b : Nat, b = w_n (v_l T C) 0 (p + 1) → m_X7_isSo_L7 FU (nI k) kd th fi ot la K f 0 (nI b) (nI (p + 1)) far = m_X7_isSo_L7 FU (nI k) kd th fi ot la K f 0 (nI (w_n (v_l T C) 0 (p + 1))) (nI (p + 1)) far := fun b hb => by rw [hb]
    rw [← ih (p + 1) f (by omega) (by omega), m_X7_isSo_L7, if_neg g1, mt_j, mt_j, if_pos z00, mt_j, if_neg nk0]
    dsimp only
    rw [mt_j, mt_j, if_pos z00, mt_j, if_neg nk2]
    dsimp only
    rw [q1, if_pos i1, t1, t5, nI_1, z0, nI_add]
    by_cases c : kd p = 0
    · have c' := kz.mp c
      rw [if_pos c, if_pos i1]
      by_cases ct : T p = 0
      · rw [ct, if_pos nI_0]
        exact fin _ (by rw [w_n, Nat.zero_add, v_l, if_pos (by omega), w_len, if_pos ct]; rfl)
      · have c1 : ¬ nI (T p) = 0 := fun z => ct ((nI_eq (b := 0) (by omega) (by omega)).mp z)
        rw [if_neg c1, if_pos i1]
        exact fin _ (by rw [w_n, Nat.zero_add, v_l, if_pos (by omega), w_len, if_neg ct])
    · rw [if_neg c]
      refine fin _ ?_
      rw [w_n, Nat.zero_add, v_l]
      by_cases cp : p < 30
      · have : ¬ H p = 1 := fun z => c (kz.mpr ⟨z, by omega⟩)
        rw [if_pos cp, w_len, if_pos (by omega)]; rfl
      · rw [if_neg cp]; rfl
theorem v_len30 (T C : Nat → Nat) : w_n (v_l T C) 0 62 = w_n (w_len T C) 0 30 := by
  have h1 : w_n (v_l T C) 0 30 = w_n (w_len T C) 0 30 := w_n_eq 30 (fun p _ h => by rw [v_l, if_pos (by omega)])
  have h2 : w_n (v_l T C) (0 + 30) 32 = 0 := w_n_0 32 (fun p h _ => by rw [v_l, if_neg (by omega)])
  rw [show (62 : Nat) = 30 + 32 from rfl, w_n_add, h1, h2, Nat.add_zero]

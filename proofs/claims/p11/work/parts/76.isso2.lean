/-! The reference's verdict 2. -/
def v_f2 (T B : Nat → Nat) : Nat → Nat
  | 0 => 0
  | p + 1 => if 30 ≤ p ∧ p < 41 ∧ T p ≠ 0 ∧ 3 < B p then 1 else v_f2 T B p
theorem v_f2_le {T B : Nat → Nat} : ∀ p, v_f2 T B p ≤ 1 := by
  intro p
  induction p with
  | zero => exact Nat.zero_le _
  | succ p ih => rw [v_f2]; split <;> omega
theorem v_f2_y {T B : Nat → Nat} : ∀ p, v_f2 T B p = 1 ↔ ∃ u, u < p ∧ 30 ≤ u ∧ u < 41 ∧ v_H T B u := by
  intro p
  induction p with
  | zero => exact ⟨fun z => by rw [v_f2] at z; omega, fun ⟨i, z, _⟩ => by omega⟩
  | succ p ih =>
    rw [v_f2]
    by_cases c : 30 ≤ p ∧ p < 41 ∧ T p ≠ 0 ∧ 3 < B p
    · rw [if_pos c]; exact ⟨fun _ => ⟨p, by omega, c⟩, fun _ => rfl⟩
    · rw [if_neg c, ih]
      refine ⟨fun ⟨i, z1, z2⟩ => ⟨i, by omega, z2⟩, fun ⟨i, z1, z2⟩ => ?_⟩
      by_cases q : i = p
      · subst q; exact absurd z2 c
      · exact ⟨i, by omega, z2⟩
theorem v_m2 {n FU : Nat} {H T A B C : Nat → Nat} {kd th fi ot la : Nat → Int32} (w : w_ok n H T A B C) (h : w_m H T A B C kd th fi ot la) (K : Int32 → Int32 → Int32 → (Nat → Int32) → Option (Int32 × (Nat → Int32))) (far : Nat → Int32) : ∀ (x p fu : Nat), p + x = 62 → x < fu → ∀ x3 : Int32, ∃ y, m_X7_isSo_L7 FU (2 : Int32) kd th fi ot la K fu (nI (v_f2 T B p)) x3 (nI p) far = K (nI (v_f2 T B 62)) y (nI 62) far := by
  intro x
  induction x with
  | zero =>
    intro p fu hj hf x3
    obtain ⟨f, rfl⟩ : ∃ f, fu = f + 1 := ⟨fu - 1, by omega⟩
    have e : p = 62 := by omega
    subst e
    have g0 : (62 : Int32) ≤ nI 62 := nI_le (a := 62) (b := 62) (by omega) (by omega)
    exact ⟨x3, by rw [m_X7_isSo_L7, if_pos g0]⟩
  | succ x ih =>
    intro p fu hj hf x3
    obtain ⟨f, rfl⟩ : ∃ f, fu = f + 1 := ⟨fu - 1, by omega⟩
    have g1 : ¬ (62 : Int32) ≤ nI p := fun z => by have := (nI_leI (a := 62) (b := p) (by omega) (by omega)).mp z; omega
    obtain ⟨t1, t2, t3, t4, t5⟩ := w_mrow w h p (by omega)
    obtain ⟨_, m2, m3, m4⟩ := w_mkd w h p (by omega)
    have b3 := w_b3 w (p := p) (by omega)
    have q1 : (nI p).toNatClampNeg = p := nI_clamp (by omega)
    have i1 : ¬ (nI p < 0 ∨ 62 ≤ (nI p).toNatClampNeg) := t_in (N := 62) (by omega) (by omega)
    have z00 : (0 : Int32) = 0 := rfl
    have n10 : ¬ (1 : Int32) = 0 := by decide
    have m10 : ¬ nI 1 = 0 := by decide
    have n20 : ¬ (2 : Int32) = 0 := by decide
    have z22 : (2 : Int32) = 2 := rfl
    have k1 : kd (nI p).toNatClampNeg = 1 ↔ (H p = 1 ∧ t_kd p = 1) := by rw [q1]; exact v_kd (m := 1) (by omega) m4
    have kc := t_kdc p
    have l := v_f2_le (T := T) (B := B) p
    have tail : ∀ b : Nat, b = v_f2 T B (p + 1) → ∀ j0 : Int32, j0 = nI b → ∃ y, (if ¬ (nI p < 0 ∨ 62 ≤ (nI p).toNatClampNeg) then if kd (nI p).toNatClampNeg = 0 then if ¬ (nI p < 0 ∨ 62 ≤ (nI p).toNatClampNeg) then if th (nI p).toNatClampNeg = 0 then m_X7_isSo_L7 FU (2 : Int32) kd th fi ot la K f j0 (x3 + 0) (nI p + 1) far else if ¬ (nI p < 0 ∨ 62 ≤ (nI p).toNatClampNeg) then m_X7_isSo_L7 FU (2 : Int32) kd th fi ot la K f j0 (x3 + la (nI p).toNatClampNeg) (nI p + 1) far else none else none else m_X7_isSo_L7 FU (2 : Int32) kd th fi ot la K f j0 (x3 + 0) (nI p + 1) far else none) = K (nI (v_f2 T B 62)) y (nI 62) far := by
      intro b hb j0 hj0
      rw [hj0, hb, if_pos i1, if_pos i1, if_pos i1, nI_1]
      by_cases c : kd (nI p).toNatClampNeg = 0
      · rw [if_pos c]
        by_cases ct : th (nI p).toNatClampNeg = 0
        · rw [if_pos ct]; exact ih (p + 1) f (by omega) (by omega) _
        · rw [if_neg ct]; exact ih (p + 1) f (by omega) (by omega) _
      · rw [if_neg c]; exact ih (p + 1) f (by omega) (by omega) _
    rw [m_X7_isSo_L7, if_neg g1, mt_j, mt_j]
    by_cases c0 : v_f2 T B p = 0
    · rw [c0, if_pos nI_0, mt_j, if_neg n20]
      dsimp only
      rw [mt_j, mt_j, if_pos z00, mt_j, if_pos z22, if_pos i1]
      by_cases ck : kd (nI p).toNatClampNeg = 1
      · have ck' := k1.mp ck
        rw [if_pos ck, if_pos i1]
        by_cases ct : T p = 0
        · rw [if_pos (by rw [q1, t1, ct]; rfl)]
          exact tail 0 (by rw [v_f2, if_neg (fun z => z.2.2.1 ct), c0]) _ rfl
        · have c1 : ¬ th (nI p).toNatClampNeg = 0 := fun z => by rw [q1, t1] at z; exact ct ((nI_eq (b := 0) (by omega) (by omega)).mp z)
          rw [if_neg c1, if_pos i1]
          have kb : ot (nI p).toNatClampNeg ≤ (3 : Int32) ↔ B p ≤ 3 := by rw [q1, t4]; exact nI_leI (b := 3) (by omega) (by omega)
          by_cases cb : B p ≤ 3
          · rw [if_pos (kb.mpr cb)]
            exact tail 0 (by rw [v_f2, if_neg (fun z => by have := z.2.2.2; omega), c0]) _ rfl
          · rw [if_neg (fun z => cb (kb.mp z))]
            exact tail 1 (by rw [v_f2, if_pos ⟨by omega, by omega, ct, by omega⟩]) _ rfl
      · rw [if_neg ck]
        exact tail 0 (by
          rw [v_f2, if_neg (fun z => ck (k1.mpr ⟨by have := z.2.2.1; omega, by have := z.1; have := z.2.1; omega⟩)), c0]) _ rfl
    · have c1 : v_f2 T B p = 1 := by omega
      rw [c1, if_neg m10]
      dsimp only
      rw [mt_j, mt_j, if_neg n10]
      exact tail 1 (by rw [v_f2]; split <;> omega) _ rfl

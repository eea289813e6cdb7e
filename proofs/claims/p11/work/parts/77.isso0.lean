/-! The reference's verdict 0. -/
def v_f0 (T A B C : Nat → Nat) : Nat → Nat
  | 0 => 0
  | p + 1 => if 41 ≤ p ∧ T p ≠ 0 ∧ w_sv T A B C p = 0 then 1 else v_f0 T A B C p
theorem v_f0_le {T A B C : Nat → Nat} : ∀ p, v_f0 T A B C p ≤ 1 := by
  intro p
  induction p with
  | zero => exact Nat.zero_le _
  | succ p ih => rw [v_f0]; split <;> omega
theorem v_m0 {n FU : Nat} {H T A B C : Nat → Nat} {kd th fi ot la : Nat → Int32} (hfu : 63 ≤ FU) (w : w_ok n H T A B C) (h : w_m H T A B C kd th fi ot la) (K : Int32 → Int32 → Int32 → (Nat → Int32) → Option (Int32 × (Nat → Int32))) : ∀ (x p fu : Nat), p + x = 62 → x < fu → ∀ (x3 : Int32) (far : Nat → Int32), ∃ y far', m_X7_isSo_L7 FU (0 : Int32) kd th fi ot la K fu (nI (v_f0 T A B C p)) x3 (nI p) far = K (nI (v_f0 T A B C 62)) y (nI 62) far' := by
  intro x
  induction x with
  | zero =>
    intro p fu hj hf x3 far
    obtain ⟨f, rfl⟩ : ∃ f, fu = f + 1 := ⟨fu - 1, by omega⟩
    have e : p = 62 := by omega
    subst e
    have g0 : (62 : Int32) ≤ nI 62 := nI_le (a := 62) (b := 62) (by omega) (by omega)
    exact ⟨x3, far, by rw [m_X7_isSo_L7, if_pos g0]⟩
  | succ x ih =>
    intro p fu hj hf x3 far
    obtain ⟨f, rfl⟩ : ∃ f, fu = f + 1 := ⟨fu - 1, by omega⟩
    have g1 : ¬ (62 : Int32) ≤ nI p := fun z => by have := (nI_leI (a := 62) (b := p) (by omega) (by omega)).mp z; omega
    obtain ⟨t1, t2, t3, t4, t5⟩ := w_mrow w h p (by omega)
    obtain ⟨_, m2, m3, m4⟩ := w_mkd w h p (by omega)
    have q1 : (nI p).toNatClampNeg = p := nI_clamp (by omega)
    have i1 : ¬ (nI p < 0 ∨ 62 ≤ (nI p).toNatClampNeg) := t_in (N := 62) (by omega) (by omega)
    have z00 : (0 : Int32) = 0 := rfl
    have n10 : ¬ (1 : Int32) = 0 := by decide
    have m10 : ¬ nI 1 = 0 := by decide
    have n02 : ¬ (0 : Int32) = 2 := by decide
    have k2 : kd (nI p).toNatClampNeg = 2 ↔ (H p = 1 ∧ t_kd p = 2) := by rw [q1]; exact v_kd (m := 2) (by omega) m4
    have kc := t_kdc p
    have l := v_f0_le (T := T) (A := A) (B := B) (C := C) p
    have tail : ∀ b : Nat, b = v_f0 T A B C (p + 1) → ∀ j0 : Int32, j0 = nI b → ∀ fr : Nat → Int32, ∃ y far', (if ¬ (nI p < 0 ∨ 62 ≤ (nI p).toNatClampNeg) then if kd (nI p).toNatClampNeg = 0 then if ¬ (nI p < 0 ∨ 62 ≤ (nI p).toNatClampNeg) then if th (nI p).toNatClampNeg = 0 then m_X7_isSo_L7 FU (0 : Int32) kd th fi ot la K f j0 (x3 + 0) (nI p + 1) fr else if ¬ (nI p < 0 ∨ 62 ≤ (nI p).toNatClampNeg) then m_X7_isSo_L7 FU (0 : Int32) kd th fi ot la K f j0 (x3 + la (nI p).toNatClampNeg) (nI p + 1) fr else none else none else m_X7_isSo_L7 FU (0 : Int32) kd th fi ot la K f j0 (x3 + 0) (nI p + 1) fr else none) = K (nI (v_f0 T A B C 62)) y (nI 62) far' := by
      intro b hb j0 hj0 fr
      rw [hj0, hb, if_pos i1, if_pos i1, if_pos i1, nI_1]
      by_cases c : kd (nI p).toNatClampNeg = 0
      · rw [if_pos c]
        by_cases ct : th (nI p).toNatClampNeg = 0
        · rw [if_pos ct]; exact ih (p + 1) f (by omega) (by omega) _ _
        · rw [if_neg ct]; exact ih (p + 1) f (by omega) (by omega) _ _
      · rw [if_neg c]; exact ih (p + 1) f (by omega) (by omega) _ _
    rw [m_X7_isSo_L7, if_neg g1, mt_j, mt_j]
    by_cases c0 : v_f0 T A B C p = 0
    · rw [c0, if_pos nI_0, mt_j, if_pos z00, if_pos i1]
      by_cases ck : kd (nI p).toNatClampNeg = 2
      · have ck' := k2.mp ck
        rw [if_pos ck, if_pos i1]
        by_cases ct : T p = 0
        · rw [if_pos (by rw [q1, t1, ct]; rfl)]
          dsimp only
          rw [mt_j, mt_j, if_pos z00, mt_j, if_neg n02]
          exact tail 0 (by rw [v_f0, if_neg (fun z => z.2.1 ct), c0]) _ rfl _
        · have c1 : ¬ th (nI p).toNatClampNeg = 0 := fun z => by rw [q1, t1] at z; exact ct ((nI_eq (b := 0) (by omega) (by omega)).mp z)
          obtain ⟨f1, hf1⟩ := w_isServed (th := th) (fi := fi) (ot := ot) (la := la) (far := far) (p := p) (fu := FU) (by omega) (by omega) (w_B3 w _ (by omega) (by omega)) (w_rok w) (w_A21 w) (w_B8 w) (w_mrow w h)
          have ls := w_sv_le (T := T) (A := A) (B := B) (C := C) p
          rw [if_neg c1, hf1, Option.bind_some]
          by_cases cs : w_sv T A B C p = 0
          · have e1 : (nI (w_sv T A B C p), f1).1 = 0 := by show nI (w_sv T A B C p) = 0; rw [cs]; rfl
            rw [if_pos e1]
            dsimp only
            rw [mt_j, mt_j, if_neg n10]
            exact tail 1 (by rw [v_f0, if_pos ⟨by omega, ct, cs⟩]) _ rfl _
          · have e1 : ¬ (nI (w_sv T A B C p), f1).1 = 0 := fun z => cs ((nI_eq (b := 0) (by omega) (by omega)).mp z)
            rw [if_neg e1]
            dsimp only
            rw [mt_j, mt_j, if_pos z00, mt_j, if_neg n02]
            exact tail 0 (by rw [v_f0, if_neg (fun z => cs z.2.2), c0]) _ rfl _
      · rw [if_neg ck]
        dsimp only
        rw [mt_j, mt_j, if_pos z00, mt_j, if_neg n02]
        exact tail 0 (by
          rw [v_f0, if_neg (fun z => ck (k2.mpr ⟨by have := z.2.1; omega, by have := z.1; omega⟩)), c0]) _ rfl _
    · have c1 : v_f0 T A B C p = 1 := by omega
      rw [c1, if_neg m10]
      dsimp only
      rw [mt_j, mt_j, if_neg n10]
      exact tail 1 (by rw [v_f0]; split <;> omega) _ rfl _
/-- some call is not served: fewer are served than there are -/
theorem v_f0_n {T A B C : Nat → Nat} (hT : ∀ p, p < 62 → T p ≤ 1) : ∀ j, j ≤ 21 → w_n (w_sv T A B C) 41 j ≤ w_n T 41 j ∧ (v_f0 T A B C (41 + j) = 0 ↔ w_n T 41 j ≤ w_n (w_sv T A B C) 41 j) := by
  have z : ∀ p, p ≤ 41 → v_f0 T A B C p = 0 := by
    intro p
    induction p with
    | zero => intro _; rfl
    | succ p ih => intro hp; rw [v_f0, if_neg (fun z => by have := z.1; omega)]; exact ih (by omega)
  intro j
  induction j with
  | zero => intro _; exact ⟨Nat.le_refl _, ⟨fun _ => Nat.le_refl _, fun _ => z 41 (Nat.le_refl _)⟩⟩
  | succ j ih =>
    intro hj
    obtain ⟨h1, h2⟩ := ih (by omega)
    have t := hT (41 + j) (by omega)
    have ls := w_sv_le (T := T) (A := A) (B := B) (C := C) (41 + j)
    have s0 : T (41 + j) = 0 → w_sv T A B C (41 + j) = 0 := fun q => by rw [w_sv, if_pos q]
    have e : v_f0 T A B C (41 + (j + 1)) = if 41 ≤ 41 + j ∧ T (41 + j) ≠ 0 ∧ w_sv T A B C (41 + j) = 0 then 1 else v_f0 T A B C (41 + j) := rfl
    rw [e, w_n, w_n]
    by_cases c : T (41 + j) = 0
    · have c2 := s0 c
      rw [if_neg (fun z => z.2.1 c), c, c2]
      exact ⟨by omega, ⟨fun q => by have := h2.mp q; omega, fun q => h2.mpr (by omega)⟩⟩
    · by_cases cs : w_sv T A B C (41 + j) = 0
      · rw [if_pos ⟨by omega, c, cs⟩]
        exact ⟨by omega, ⟨fun q => by omega, fun q => by omega⟩⟩
      · rw [if_neg (fun z => cs z.2.2)]
        exact ⟨by omega, ⟨fun q => by have := h2.mp q; omega, fun q => h2.mpr (by omega)⟩⟩

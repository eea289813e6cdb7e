/-- every verdict is the same -/
theorem v_says {n fu k : Nat} {H T A B C : Nat → Nat} {hd th co se tr kd th2 fi ot la : Nat → Int32} (hfu : 63 ≤ fu) (hk : k < 5) (w : w_ok n H T A B C) (h : w_c H T A B C hd th co se tr) (h2 : w_m H T A B C kd th2 fi ot la) (me sk far : Nat → Int32) : ∃ b : Int32, (b = 0 ∨ b = 1) ∧ (∃ me' sk', m_X0_says fu (nI k) me sk th co se tr = some (b, me', sk')) ∧ ∃ far', m_X7_isSo fu (nI k) kd th2 fi ot la far = some (b, far') := by
  have b11 : (1 : Int32) &&& 1 = 1 := by decide
  have b00 : (0 : Int32) &&& 1 = 0 := by decide
  have z00 : (0 : Int32) = 0 := rfl
  have hT : ∀ p, p < 62 → T p ≤ 1 := fun p hp => (w_b3 w hp).2.1
  obtain rfl | rfl | rfl | rfl | rfl : k = 0 ∨ k = 1 ∨ k = 2 ∨ k = 3 ∨ k = 4 := by omega
  · obtain ⟨s1, e1⟩ := w_cservedAll (fu := fu) (sk := sk) (by omega) w h
    have e2 : m_X5_howManyThere fu (41 : Int32) (62 : Int32) th = some (nI (w_n T 41 21)) := by
      rw [m_X5_howManyThere, mt_j]
      exact w_howMany (a := 41) (b := 62) (by omega) (fun p hp => ⟨(h p hp).2.1, hT p hp⟩) (fun x _ => some x) 21 0 fu (by omega) (by omega)
    have q := v_f0_n (T := T) (A := A) (B := B) (C := C) hT 21 (by omega)
    have l0 := v_f0_le (T := T) (A := A) (B := B) (C := C) 62
    have l1 := w_n_le (f := T) (a := 41) 21 (fun p z1 z2 => hT p (by omega))
    have e4 : ∃ far', m_X7_isSo fu (nI 0) kd th2 fi ot la far = some (nI (v_f0 T A B C 62), far') := by
      obtain ⟨y, f1, e3⟩ := v_m0 hfu w h2 (fun (x2_145 : Int32) (x3_145 : Int32) (x4_145 : Int32) (v_far_145 : Nat → Int32) => if nI 0 = 0 then if (x2_145 &&& 1 = x2_145) then some (x2_145, v_far_145) else none else if nI 0 = (1 : Int32) then (m_X7_isTwice fu th2 fi la).bind fun q9 => if (q9 &&& 1 = q9) then some (q9, v_far_145) else none else if nI 0 = (2 : Int32) then if x2_145 = 0 then some ((1 : Int32), v_far_145) else some ((0 : Int32), v_far_145) else if nI 0 = (3 : Int32) then (m_X7_isLong fu th2 fi ot la v_far_145).bind fun q6 => if (q6.1 &&& 1 = q6.1) then some (q6.1, q6.2) else none else if x3_145 ≤ (300 : Int32) then some ((0 : Int32), v_far_145) else some ((1 : Int32), v_far_145)) 62 0 fu (by omega) (by omega) 0 far
      refine ⟨f1, ?_⟩
      rw [m_X7_isSo, mt_j]
      refine Eq.trans e3 ?_
      have e : nI (v_f0 T A B C 62) &&& 1 = nI (v_f0 T A B C 62) := by
        have : ∀ x, x < 2 → nI x &&& 1 = nI x := by decide
        exact this _ (by omega)
      rw [if_pos nI_0, if_pos e]
    obtain ⟨f2, e5⟩ := e4
    by_cases c : v_f0 T A B C 62 = 0
    · rw [c] at e5
      refine ⟨0, Or.inl rfl, ⟨me, s1, ?_⟩, f2, e5⟩
      have g : nI (w_n T 41 21) ≤ nI (w_n (w_sv T A B C) 41 21) := (nI_leI (by omega) (by have := q.1; omega)).mpr (q.2.mp c)
      rw [m_X0_says, if_pos nI_0, e1, Option.bind_some, e2, Option.bind_some, if_pos g]
    · have c1 : v_f0 T A B C 62 = 1 := by omega
      rw [c1] at e5
      refine ⟨1, Or.inr rfl, ⟨me, s1, ?_⟩, f2, e5⟩
      have g : ¬ nI (w_n T 41 21) ≤ nI (w_n (w_sv T A B C) 41 21) := fun z => c (q.2.mpr ((nI_leI (by omega) (by have := q.1; omega)).mp z))
      rw [m_X0_says, if_pos nI_0, e1, Option.bind_some, e2, Option.bind_some, if_neg g]
  · obtain ⟨b, hb, e1, e2⟩ := v_one hfu w h h2
    have bb : b &&& 1 = b := by rcases hb with rfl | rfl <;> decide
    refine ⟨b, hb, ⟨me, sk, ?_⟩, far, ?_⟩
    · rw [m_X0_says, if_neg (by decide), if_pos (by decide), e1, Option.bind_some, if_pos bb]
    · rw [m_X7_isSo, mt_j]
      refine Eq.trans (v_m4 (k := 1) (by omega) (by omega) (by omega) w h2 _ far 62 0 fu (by omega) (by omega)) ?_
      rw [if_neg (by decide), if_pos (by decide), e2, Option.bind_some, if_pos bb]
  · have k1 := v_chas w h (fun _ => some 0) 11 30 fu (by omega) (by omega) (by omega)
    have y := v_f2_y (T := T) (B := B) 62
    have l := v_f2_le (T := T) (B := B) 62
    by_cases c : v_f2 T B 62 = 0
    · have e1 : m_X0_someUnitHas fu (2 : Int32) th se = some 0 := by
        rw [m_X0_someUnitHas, mt_j]
        exact k1.1 (fun u z1 z2 z3 => by have := y.mpr ⟨u, by omega, z1, z2, z3⟩; omega)
      refine ⟨1, Or.inr rfl, ⟨me, sk, ?_⟩, far, ?_⟩
      · rw [m_X0_says, if_neg (by decide), if_neg (by decide), if_pos (by decide), e1, Option.bind_some, if_pos z00]
      · rw [m_X7_isSo, mt_j]
        obtain ⟨x3, e3⟩ := v_m2 (FU := fu) w h2 _ far 62 0 fu (by omega) (by omega) 0
        refine Eq.trans e3 ?_
        rw [if_neg (by decide), if_neg (by decide), if_pos (by decide), c, if_pos nI_0]
    · have c1 : v_f2 T B 62 = 1 := by omega
      have e1 : m_X0_someUnitHas fu (2 : Int32) th se = some 1 := by
        rw [m_X0_someUnitHas, mt_j]
        obtain ⟨u, z0, z1, z2, z3⟩ := y.mp c1
        exact k1.2 ⟨u, z1, z2, z3⟩
      refine ⟨0, Or.inl rfl, ⟨me, sk, ?_⟩, far, ?_⟩
      · rw [m_X0_says, if_neg (by decide), if_neg (by decide), if_pos (by decide), e1, Option.bind_some, if_neg (by decide)]
      · rw [m_X7_isSo, mt_j]
        obtain ⟨x3, e3⟩ := v_m2 (FU := fu) w h2 _ far 62 0 fu (by omega) (by omega) 0
        refine Eq.trans e3 ?_
        rw [if_neg (by decide), if_neg (by decide), if_pos (by decide), c1, if_neg (by decide)]
  · obtain ⟨b, hb, ⟨m1, e1⟩, f1, e2⟩ := v_three (me := me) (far := far) hfu w h h2
    have bb : b &&& 1 = b := by rcases hb with rfl | rfl <;> decide
    refine ⟨b, hb, ⟨m1, sk, ?_⟩, f1, ?_⟩
    · rw [m_X0_says, if_neg (by decide), if_neg (by decide), if_neg (by decide), if_pos (by decide), e1, Option.bind_some, if_pos bb]
    · rw [m_X7_isSo, mt_j]
      refine Eq.trans (v_m4 (k := 3) (by omega) (by omega) (by omega) w h2 _ far 62 0 fu (by omega) (by omega)) ?_
      rw [if_neg (by decide), if_neg (by decide), if_neg (by decide), if_pos (by decide), e2, Option.bind_some, if_pos bb]
  · have e1 : m_X0_metresOfStreets fu th tr = some (nI (w_n (w_len T C) 0 30)) := by
      rw [m_X0_metresOfStreets, mt_j]
      exact w_clen w h (fun x _ => some x) 30 0 fu (by omega) (by omega)
    have e2 := v_len30 T C
    by_cases c : nI (w_n (w_len T C) 0 30) ≤ (300 : Int32)
    · refine ⟨0, Or.inl rfl, ⟨me, sk, ?_⟩, far, ?_⟩
      · rw [m_X0_says, if_neg (by decide), if_neg (by decide), if_neg (by decide), if_neg (by decide), if_pos (by decide), e1, Option.bind_some, if_pos c]
      · rw [m_X7_isSo, mt_j]
        refine Eq.trans (v_m4 (k := 4) (by omega) (by omega) (by omega) w h2 _ far 62 0 fu (by omega) (by omega)) ?_
        rw [if_neg (by decide), if_neg (by decide), if_neg (by decide), if_neg (by decide), e2, if_pos c]
    · refine ⟨1, Or.inr rfl, ⟨me, sk, ?_⟩, far, ?_⟩
      · rw [m_X0_says, if_neg (by decide), if_neg (by decide), if_neg (by decide), if_neg (by decide), if_pos (by decide), e1, Option.bind_some, if_neg c]
      · rw [m_X7_isSo, mt_j]
        refine Eq.trans (v_m4 (k := 4) (by omega) (by omega) (by omega) w h2 _ far 62 0 fu (by omega) (by omega)) ?_
        rw [if_neg (by decide), if_neg (by decide), if_neg (by decide), if_neg (by decide), e2, if_neg c]

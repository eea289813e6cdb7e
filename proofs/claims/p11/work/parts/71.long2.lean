theorem v_in {x : Nat} (h : x ≤ 1000000) : (100 ≤ x ∧ x < 1000000 → m_X7_in (nI x) (100 : Int32) (999999 : Int32) = some 1) ∧ (¬ (100 ≤ x ∧ x < 1000000) → m_X7_in (nI x) (100 : Int32) (999999 : Int32) = some 0) := by
  have k1 : nI x < (100 : Int32) ↔ x < 100 := nI_ltI (a := x) (b := 100) (by omega) (by omega)
  have k2 : (999999 : Int32) < nI x ↔ 999999 < x := nI_ltI (a := 999999) (b := x) (by omega) (by omega)
  constructor
  · intro ⟨c1, c2⟩
    rw [m_X7_in, if_neg (fun z => by have := k1.mp z; omega), if_neg (fun z => by have := k2.mp z; omega)]
  · intro c
    by_cases c1 : x < 100
    · rw [m_X7_in, if_pos (k1.mpr c1)]
    · rw [m_X7_in, if_neg (fun z => c1 (k1.mp z)), if_pos (k2.mpr (by omega))]
/-- the reference over the units, for a call c -/
theorem v_mlong1 {n : Nat} {H T A B C : Nat → Nat} {kd th fi ot la far : Nat → Int32} (w : w_ok n H T A B C) (h : w_m H T A B C kd th fi ot la) {c : Nat} (hc : c < 62) (ht : T c ≠ 0) (hm : r_row (r_D T A B C (A c)) far) (K : Int32 → Option (Int32 × (Nat → Int32))) : ∀ (x j fu : Nat), j + x = 41 → x < fu → ((∀ u, j ≤ u → u < 41 → ¬ v_L T A B C u c) → m_X7_isLong_L33 th fi far K fu 0 (nI j) = K 0) ∧ ((∃ u, j ≤ u ∧ u < 41 ∧ v_L T A B C u c) → m_X7_isLong_L33 th fi far K fu 0 (nI j) = K 1) ∧ m_X7_isLong_L33 th fi far K fu 1 (nI j) = K 1 := by
  intro x
  induction x with
  | zero =>
    intro j fu hj hf
    obtain ⟨f, rfl⟩ : ∃ f, fu = f + 1 := ⟨fu - 1, by omega⟩
    have e : j = 41 := by omega
    subst e
    have g0 : (41 : Int32) ≤ nI 41 := nI_le (a := 41) (b := 41) (by omega) (by omega)
    exact ⟨fun _ => by rw [m_X7_isLong_L33, if_pos g0], fun ⟨i, z1, z2, _⟩ => by omega, by rw [m_X7_isLong_L33, if_pos g0]⟩
  | succ x ih =>
    intro j fu hj hf
    obtain ⟨f, rfl⟩ : ∃ f, fu = f + 1 := ⟨fu - 1, by omega⟩
    have g1 : ¬ (41 : Int32) ≤ nI j := fun z => by have := (nI_leI (a := 41) (b := j) (by omega) (by omega)).mp z; omega
    have n10 : ¬ (1 : Int32) = 0 := by decide
    have z00 : (0 : Int32) = 0 := rfl
    obtain ⟨t1, t2, t3, _⟩ := w_mrow w h j (by omega)
    have ha := w_A21 w j (by omega)
    have hac := w_A21 w c hc
    have q1 : (nI j).toNatClampNeg = j := nI_clamp (by omega)
    have q2 : (nI (A j)).toNatClampNeg = A j := nI_clamp (by omega)
    have i1 : ¬ (nI j < 0 ∨ 62 ≤ j) := t_in2 (N := 62) (by omega) (by omega)
    have i2 : ¬ (nI (A j) < 0 ∨ 21 ≤ A j) := t_in2 ha (by omega)
    have sy := r_D_sym (w_rok w) hac ha
    have vi := v_in (r_D_bd (T := T) (A := A) (B := B) (C := C) (A c) (A j))
    obtain ⟨ih1, ih2, ih3⟩ := ih (j + 1) f (by omega) (by omega)
    have step1 : m_X7_isLong_L33 th fi far K (f + 1) 1 (nI j) = m_X7_isLong_L33 th fi far K f 1 (nI (j + 1)) := by
      rw [m_X7_isLong_L33, if_neg g1, if_neg n10, nI_1]
    have step0 : ¬ v_L T A B C j c → m_X7_isLong_L33 th fi far K (f + 1) 0 (nI j) = m_X7_isLong_L33 th fi far K f 0 (nI (j + 1)) := fun hn => by
      rw [m_X7_isLong_L33, if_neg g1, if_pos z00, q1, t1, t3, q2, hm _ ha, nI_1, if_pos i1]
      by_cases c0 : T j = 0
      · rw [c0, if_pos nI_0]
      · have c1 : ¬ nI (T j) = 0 := fun z => c0 ((nI_eq (b := 0) (by omega) (by omega)).mp z)
        rw [if_neg c1, if_pos i1, if_pos i2, vi.2 (fun z => hn ⟨c0, ht, by rw [← sy]; exact z.1, by rw [← sy]; exact z.2⟩), Option.bind_some, if_pos rfl]
    refine ⟨fun hn => (step0 (hn j (by omega) (by omega))).trans (ih1 (fun i z1 z2 => hn i (by omega) z2)), fun ⟨i, z1, z2, z3⟩ => ?_, step1.trans ih3⟩
    by_cases y : v_L T A B C j c
    · have c1 : ¬ nI (T j) = 0 := fun z => y.1 ((nI_eq (b := 0) (by omega) (by omega)).mp z)
      rw [m_X7_isLong_L33, if_neg g1, if_pos z00, q1, t1, t3, q2, hm _ ha, nI_1, if_pos i1, if_neg c1, if_pos i1, if_pos i2, vi.1 (by rw [sy]; exact y.2.2), Option.bind_some, if_neg n10]
      exact ih3
    · by_cases q : i = j
      · subst q; exact absurd z3 y
      · exact (step0 y).trans (ih2 ⟨i, by omega, z2, z3⟩)
theorem v_mlong {n FU : Nat} {H T A B C : Nat → Nat} {kd th fi ot la : Nat → Int32} (hfu : 63 ≤ FU) (w : w_ok n H T A B C) (h : w_m H T A B C kd th fi ot la) (G : Int32 → (Nat → Int32) → Option (Int32 × (Nat → Int32))) : ∀ (x j fu : Nat), j + x = 62 → x < fu → ∀ far, ((∀ c, j ≤ c → c < 62 → ∀ u, 30 ≤ u → u < 41 → ¬ v_L T A B C u c) → ∃ far', m_X7_isLong_L5 FU th fi ot la (fun b _ m => G b m) fu 0 (nI j) far = G 0 far') ∧ ((∃ c, j ≤ c ∧ c < 62 ∧ ∃ u, 30 ≤ u ∧ u < 41 ∧ v_L T A B C u c) → ∃ far', m_X7_isLong_L5 FU th fi ot la (fun b _ m => G b m) fu 0 (nI j) far = G 1 far') ∧ ∃ far', m_X7_isLong_L5 FU th fi ot la (fun b _ m => G b m) fu 1 (nI j) far = G 1 far' := by
  intro x
  induction x with
  | zero =>
    intro j fu hj hf far
    obtain ⟨f, rfl⟩ : ∃ f, fu = f + 1 := ⟨fu - 1, by omega⟩
    have e : j = 62 := by omega
    subst e
    have g0 : (62 : Int32) ≤ nI 62 := nI_le (a := 62) (b := 62) (by omega) (by omega)
    exact ⟨fun _ => ⟨far, by rw [m_X7_isLong_L5, if_pos g0]⟩, fun ⟨i, z1, z2, _⟩ => by omega, ⟨far, by rw [m_X7_isLong_L5, if_pos g0]⟩⟩
  | succ x ih =>
    intro j fu hj hf far
    obtain ⟨f, rfl⟩ : ∃ f, fu = f + 1 := ⟨fu - 1, by omega⟩
    have g1 : ¬ (62 : Int32) ≤ nI j := fun z => by have := (nI_leI (a := 62) (b := j) (by omega) (by omega)).mp z; omega
    obtain ⟨t1, t2, t3, _⟩ := w_mrow w h j (by omega)
    have ha := w_A21 w j (by omega)
    have q1 : (nI j).toNatClampNeg = j := nI_clamp (by omega)
    have i1 : ¬ (nI j < 0 ∨ 62 ≤ j) := t_in2 (N := 62) (by omega) (by omega)
    by_cases c : T j = 0
    · obtain ⟨ih1, ih2, ih3⟩ := ih (j + 1) f (by omega) (by omega) far
      have step : ∀ b, m_X7_isLong_L5 FU th fi ot la (fun b _ m => G b m) (f + 1) b (nI j) far = m_X7_isLong_L5 FU th fi ot la (fun b _ m => G b m) f b (nI (j + 1)) far := fun b => by
        rw [m_X7_isLong_L5, if_neg g1, q1, t1, if_pos i1, c, if_pos nI_0, nI_1]
      rw [step, step]
      refine ⟨fun hn => ih1 (fun u z1 z2 => hn u (by omega) z2), fun ⟨cc, z1, z2, u, z3, z4, z5⟩ => ?_, ih3⟩
      by_cases q : cc = j
      · subst q; exact absurd c z5.2.1
      · exact ih2 ⟨cc, by omega, z2, u, z3, z4, z5⟩
    · have c1 : ¬ nI (T j) = 0 := fun z => c ((nI_eq (b := 0) (by omega) (by omega)).mp z)
      obtain ⟨m1, h1, h2⟩ := r_mreach (fu := FU) (by omega) ha (w_rok w) (w_mrow w h) far
      obtain ⟨ih1, ih2, ih3⟩ := ih (j + 1) f (by omega) (by omega) m1
      have k := v_mlong1 w h (c := j) (by omega) c h1 (fun b => m_X7_isLong_L5 FU th fi ot la (fun b _ m => G b m) f b (nI (j + 1)) m1) 11 30 FU (by omega) (by omega)
      have step : ∀ b, m_X7_isLong_L5 FU th fi ot la (fun b _ m => G b m) (f + 1) b (nI j) far = m_X7_isLong_L33 th fi m1 (fun b => m_X7_isLong_L5 FU th fi ot la (fun b _ m => G b m) f b (nI (j + 1)) m1) FU b (nI 30) := fun b => by
        rw [m_X7_isLong_L5, if_neg g1, q1, t1, if_pos i1, if_neg c1, if_pos i1, t3, h2, Option.bind_some, mt_j, nI_1]
        rfl
      rw [step, step]
      refine ⟨fun hn => ?_, fun ⟨cc, z1, z2, u, z3, z4, z5⟩ => ?_, ?_⟩
      · rw [k.1 (fun u z1 z2 => hn j (by omega) (by omega) u z1 z2)]
        exact ih1 (fun u z1 z2 => hn u (by omega) z2)
      · by_cases y : ∃ u, 30 ≤ u ∧ u < 41 ∧ v_L T A B C u j
        · rw [k.2.1 y]; exact ih3
        · rw [k.1 (fun cc z1 z2 z3 => y ⟨cc, z1, z2, z3⟩)]
          by_cases q : cc = j
          · subst q; exact absurd ⟨u, z3, z4, z5⟩ y
          · exact ih2 ⟨cc, by omega, z2, u, z3, z4, z5⟩
      · rw [k.2.2]; exact ih3
/-- verdict 3 is the same -/
theorem v_three {n fu : Nat} {H T A B C : Nat → Nat} {hd th co se tr kd th2 fi ot la me far : Nat → Int32} (hfu : 63 ≤ fu) (w : w_ok n H T A B C) (h : w_c H T A B C hd th co se tr) (h2 : w_m H T A B C kd th2 fi ot la) : ∃ b : Int32, (b = 0 ∨ b = 1) ∧ (∃ me', m_X0_someWayIsLong fu me th co se tr = some (b, me')) ∧ ∃ far', m_X7_isLong fu th2 fi ot la far = some (b, far') := by
  have k1 := v_clong hfu w h (fun m => some (0, m)) 11 30 fu (by omega) (by omega) me
  have k2 := v_mlong hfu w h2 (fun b m => if (b &&& 1 = b) then some (b, m) else none) 21 41 fu (by omega) (by omega) far
  by_cases c : ∃ u, 30 ≤ u ∧ u < 41 ∧ ∃ c, 41 ≤ c ∧ c < 62 ∧ v_L T A B C u c
  · obtain ⟨m1, e1⟩ := k1.2 c
    obtain ⟨u, a1, a2, cc, a3, a4, a5⟩ := c
    obtain ⟨m2, e2⟩ := k2.2.1 ⟨cc, a3, a4, u, a1, a2, a5⟩
    refine ⟨1, Or.inr rfl, ⟨m1, by rw [m_X0_someWayIsLong, mt_j]; exact e1⟩, ⟨m2, ?_⟩⟩
    rw [m_X7_isLong, mt_j]
    refine Eq.trans e2 ?_
    rw [if_pos (by decide)]
  · obtain ⟨m1, e1⟩ := k1.1 (fun u z1 z2 cc z3 z4 z5 => c ⟨u, z1, z2, cc, z3, z4, z5⟩)
    obtain ⟨m2, e2⟩ := k2.1 (fun cc z1 z2 u z3 z4 z5 => c ⟨u, z3, z4, cc, z1, z2, z5⟩)
    refine ⟨0, Or.inl rfl, ⟨m1, by rw [m_X0_someWayIsLong, mt_j]; exact e1⟩, ⟨m2, ?_⟩⟩
    rw [m_X7_isLong, mt_j]
    refine Eq.trans e2 ?_
    rw [if_pos (by decide)]

theorem s_start (G : (Nat → Int32) → Option (Nat → Int32)) : ∀ (x v fu : Nat), v + x = 21 → x < fu → ∀ me : Nat → Int32, (∀ u, u < v → me u = nI 0) → ∃ me', r_row (fun _ => 0) me' ∧ m_X3_bringSkills_L2 (fun _ m => G m) fu (nI v) me = G me' := by
  intro x
  induction x with
  | zero =>
    intro v fu hv hf me hm
    obtain ⟨f, rfl⟩ : ∃ f, fu = f + 1 := ⟨fu - 1, by omega⟩
    have e : v = 21 := by omega
    subst e
    have g0 : (21 : Int32) ≤ nI 21 := nI_le (a := 21) (b := 21) (by omega) (by omega)
    exact ⟨me, hm, by rw [m_X3_bringSkills_L2, if_pos g0]⟩
  | succ x ih =>
    intro v fu hv hf me hm
    obtain ⟨f, rfl⟩ : ∃ f, fu = f + 1 := ⟨fu - 1, by omega⟩
    have g1 : ¬ (21 : Int32) ≤ nI v := fun z => by have := (nI_leI (a := 21) (b := v) (by omega) (by omega)).mp z; omega
    obtain ⟨me', h1, h2⟩ := ih (v + 1) f (by omega) (by omega) (upd me v 0) (fun u hu => by
      by_cases c : u = v
      · subst c; rw [pk_us]; rfl
      · rw [pk_un c]; exact hm u (by omega))
    refine ⟨me', h1, ?_⟩
    have hi := t_in (e := v) (N := 21) (by omega) (by omega)
    rw [m_X3_bringSkills_L2, if_neg g1, if_pos hi, nI_clamp (by omega), nI_1]
    exact h2
theorem s_units {T A B C : Nat → Nat} {th co se tr : Nat → Int32} (hA : ∀ p, p < 62 → A p < 21) (hb : ∀ i, i < 11 → T (30 + i) ≠ 0 → B (30 + i) < 8) (hrow : ∀ p, p < 62 → th p = nI (T p) ∧ T p ≤ 1 ∧ co p = nI (A p) ∧ se p = nI (B p) ∧ tr p = nI (C p)) (G : (Nat → Int32) → Option (Nat → Int32)) : ∀ (x j fu : Nat), j + x = 11 → x < fu → ∀ me : Nat → Int32, r_row (s_u T A B j) me → ∃ me', r_row (s_u T A B 11) me' ∧ m_X3_bringSkills_L24 th co se (fun _ m => G m) fu (nI (30 + j)) me = G me' := by
  intro x
  induction x with
  | zero =>
    intro j fu hj hf me hm
    obtain ⟨f, rfl⟩ : ∃ f, fu = f + 1 := ⟨fu - 1, by omega⟩
    have e : j = 11 := by omega
    subst e
    have g0 : (41 : Int32) ≤ nI (30 + 11) := nI_le (a := 41) (b := 30 + 11) (by omega) (by omega)
    exact ⟨me, hm, by rw [m_X3_bringSkills_L24, if_pos g0]⟩
  | succ x ih =>
    intro j fu hj hf me hm
    obtain ⟨f, rfl⟩ : ∃ f, fu = f + 1 := ⟨fu - 1, by omega⟩
    have g1 : ¬ (41 : Int32) ≤ nI (30 + j) := fun z => by have := (nI_leI (a := 41) (b := 30 + j) (by omega) (by omega)).mp z; omega
    obtain ⟨t1, t2, t3, t4, t5⟩ := hrow (30 + j) (by omega)
    have ha := hA (30 + j) (by omega)
    by_cases c : T (30 + j) = 0
    · have e : s_u T A B (j + 1) = s_u T A B j := by funext v; rw [s_u, if_pos c]
      obtain ⟨me', h1, h2⟩ := ih (j + 1) f (by omega) (by omega) me (by rw [e]; exact hm)
      refine ⟨me', h1, ?_⟩
      rw [m_X3_bringSkills_L24, if_neg g1, w_corner (by omega) t3, Option.bind_some, w_isThere (by omega) t1 t2, Option.bind_some, c, if_pos nI_0, nI_1]
      exact h2
    · have c1 : ¬ nI (T (30 + j)) = 0 := fun z => c ((nI_eq (b := 0) (by omega) (by omega)).mp z)
      have q1 : (nI (A (30 + j))).toNatClampNeg = A (30 + j) := nI_clamp (by omega)
      have i1 := t_in ha (by omega)
      have j1 : ¬ (nI (A (30 + j)) < 0 ∨ 21 ≤ A (30 + j)) := t_in2 ha (by omega)
      have e : nI (s_u T A B j (A (30 + j))) ||| nI (B (30 + j)) = nI (s_u T A B j (A (30 + j)) ||| B (30 + j)) := s_or8 _ (s_u_bd hb j (by omega) _) _ (hb j (by omega) c)
      obtain ⟨me', h1, h2⟩ := ih (j + 1) f (by omega) (by omega) (upd me (A (30 + j)) (nI (s_u T A B j (A (30 + j)) ||| B (30 + j)))) (fun v hv => by
        rw [s_u, if_neg c]
        by_cases q : v = A (30 + j)
        · rw [if_pos q, q, pk_us]
        · rw [if_neg q, pk_un q]; exact hm v hv)
      refine ⟨me', h1, ?_⟩
      rw [m_X3_bringSkills_L24, if_neg g1, w_corner (by omega) t3, Option.bind_some, w_isThere (by omega) t1 t2, Option.bind_some, if_neg c1, r_isCorner ha, Option.bind_some, if_neg (by decide), if_pos i1, w_second (by omega) t4, Option.bind_some, if_pos i1, q1, hm _ ha, e, nI_1]
      exact h2
/-- the class's bringSkills -/
theorem s_bring {T A B C : Nat → Nat} {th co se tr : Nat → Int32} {fu : Nat} (hfu : 31 ≤ fu) (hr : r_ok T A B C) (hA : ∀ p, p < 62 → A p < 21) (hb : ∀ i, i < 11 → T (30 + i) ≠ 0 → B (30 + i) < 8) (hrow : ∀ p, p < 62 → th p = nI (T p) ∧ T p ≤ 1 ∧ co p = nI (A p) ∧ se p = nI (B p) ∧ tr p = nI (C p)) (me : Nat → Int32) : ∃ me', r_row (s_it T A B (s_u T A B 11) 21) me' ∧ m_X3_bringSkills fu me th co se = some me' := by
  obtain ⟨m1, h1, h2⟩ := s_start (fun m => m_X3_bringSkills_L24 th co se (fun _ m => m_X3_bringSkills_L75 fu th co se (fun _ _ m => some m) fu (1 : Int32) (0 : Int32) m) fu (30 : Int32) m) 21 0 fu (by omega) (by omega) me (fun u hu => by omega)
  have h1' : r_row (s_u T A B 0) m1 := fun v hv => by rw [h1 v hv, s_u]
  obtain ⟨m2, h3, h4⟩ := s_units hA hb hrow (fun m => m_X3_bringSkills_L75 fu th co se (fun _ _ m => some m) fu (1 : Int32) (0 : Int32) m) 11 0 fu (by omega) (by omega) m1 h1'
  obtain ⟨m3, h5, h6⟩ := s_rounds hfu hr hrow (s_u_bd hb 11 (by omega)) (fun m => some m) 21 0 fu (by omega) (by omega) (1 : Int32) m2 h3 (fun z => absurd z (by decide))
  refine ⟨m3, h5, ?_⟩
  rw [m_X3_bringSkills, mt_j]
  exact h2.trans (h4.trans h6)
theorem s_bit : ∀ x, x < 8 → ∀ s, s < 3 → ((((nI x >>> (nI s &&& 31)) &&& (1 : Int32)) = 1) ↔ x.testBit s = true) := by decide
/-- a skill comes to a corner -/
theorem s_comesTo {m : Nat → Nat} {sk : Nat → Int32} {v s : Nat} (hv : v < 21) (hs : s < 3) (hm : ∀ v, m v < 8) (h : r_row m sk) : m_X3_skillComesTo (nI v) (nI s) sk = some (if (m v).testBit s = true then 1 else 0) := by
  rw [m_X3_skillComesTo, r_isCorner hv, Option.bind_some, if_neg (by decide), if_pos (t_in hv (by omega)), nI_clamp (by omega), h v hv]
  by_cases c : (m v).testBit s = true
  · rw [if_pos ((s_bit _ (hm v) _ hs).mpr c), if_pos c]
  · rw [if_neg (fun z => c ((s_bit _ (hm v) _ hs).mp z)), if_neg c]

/-! sign, on both sides: how many bytes are on the tape. -/
theorem j_s6 : ¬ ("java/lang/UnsupportedOperationException" = "") := by decide
theorem j_s7 : ¬ ("java/lang/UnsupportedOperationException" = "java/lang/IndexOutOfBoundsException") := by decide
theorem j_csign (p1 : Int64) (G : Int32 → (Nat → Int32) → Option (String × Int32 × Int32 × (Nat → Int32))) : ∀ (d l fu : Nat) (y : Int32) (f : Nat → Int32), l + d ≤ 600 → d < fu → y = nI d + (-1) → ∃ f' : Nat → Int32, m_X6_sign_L54 p1 (fun _ a b => G a b) fu y (nI l) f = G (nI (l + d)) f' := by
  intro d
  induction d with
  | zero =>
    intro l fu y f hl hf hy
    obtain ⟨g, rfl⟩ : ∃ g, fu = g + 1 := ⟨fu - 1, by omega⟩
    have : y < 0 := by rw [hy]; decide
    exact ⟨f, by rw [m_X6_sign_L54, if_pos this]; rfl⟩
  | succ d ih =>
    intro l fu y f hl hf hy
    obtain ⟨g, rfl⟩ : ∃ g, fu = g + 1 := ⟨fu - 1, by omega⟩
    rw [pk_m1] at hy
    subst hy
    obtain ⟨f', e⟩ := ih (l + 1) g (nI d + (-1)) (upd f l (((mt_lushr p1 ((8 : Int32) * nI d)).toInt32) &&& (255 : Int32))) (by omega) (by omega) rfl
    refine ⟨f', ?_⟩
    rw [m_X6_sign_L54, if_neg (nI_pos (by omega)), j_add (by omega), Option.bind_some, e, show l + 1 + d = l + (d + 1) by omega]
theorem j_msign (p1 : Int64) (G : Int32 → (Nat → Int32) → Option (Int32 × Int32 × Int32 × (Nat → Int32))) : ∀ (d l fu : Nat) (y : Int32) (f : Nat → Int32), l + d ≤ 600 → d < fu → y = nI d + (-1) → ∃ f' : Nat → Int32, m_X7_sign_L55 p1 (fun _ a b => G a b) fu y (nI l) f = G (nI (l + d)) f' := by
  intro d
  induction d with
  | zero =>
    intro l fu y f hl hf hy
    obtain ⟨g, rfl⟩ : ∃ g, fu = g + 1 := ⟨fu - 1, by omega⟩
    have : y < 0 := by rw [hy]; decide
    exact ⟨f, by rw [m_X7_sign_L55, if_pos this]; rfl⟩
  | succ d ih =>
    intro l fu y f hl hf hy
    obtain ⟨g, rfl⟩ : ∃ g, fu = g + 1 := ⟨fu - 1, by omega⟩
    rw [pk_m1] at hy
    subst hy
    obtain ⟨f', e⟩ := ih (l + 1) g (nI d + (-1)) (upd f l (((mt_lshr p1 ((8 : Int32) * nI d)).toInt32) &&& (255 : Int32))) (by omega) (by omega) rfl
    refine ⟨f', ?_⟩
    rw [m_X7_sign_L55, if_neg (nI_pos (by omega)), if_pos (t_in (N := 600) (by omega) (by omega)), nI_clamp (by omega), nI_1, e, show l + 1 + d = l + (d + 1) by omega]
theorem j_sign {l fu : Nat} (hfu : 63 ≤ fu) (hl : l ≤ 600) (p1 : Int64) (p2 : Int32) (f g : Nat → Int32) (o : Nat → Int64) : ∃ (k v : Int32) (l' : Nat) (f' g' : Nat → Int32), l' ≤ 600 ∧ m_L_sign fu p1 p2 (nI l) f o = some (k, nI l', f', j_o o k v) ∧ m_X7_sign fu p1 p2 (nI l) g = some (v, k, nI l', g') := by
  have z0 : (0 : Int32) = 0 := rfl
  have n1 : ¬ (1 : Int32) = 0 := by decide
  by_cases c1 : p2 < 1
  · refine ⟨1, 0, l, f, g, hl, ?_, ?_⟩
    · rw [m_L_sign, m_X6_sign, mt_j, if_pos c1]; dsimp only; rw [Option.bind_some, if_neg j_s4, if_pos rfl, j_o1]
    · rw [m_X7_sign, m_X7_in, if_pos c1, Option.bind_some, mt_j, if_pos z0]; dsimp only; rw [mt_j, mt_j, if_neg n1]; dsimp only; rw [j_t10, Option.bind_some, if_neg n1]
  · by_cases c5 : p2 ≤ 8
    · obtain ⟨N, hN, rfl⟩ := nI_of2 (x := p2) (M := 8) (n := 8) (by decide) (fun z => c1 (Int32.lt_trans z (by decide))) c5
      have N1 : 1 ≤ N := by
        rcases Nat.lt_or_ge N 1 with z | z
        · have : N = 0 := by omega
          subst this
          exact absurd (by decide) c1
        · exact z
      have ei : m_X7_in (nI N) 1 8 = some 1 := by
        rw [m_X7_in, if_neg c1, if_neg (fun z => Int32.not_le.mpr z c5)]
      have es : (600 : Int32) - nI l = nI (600 - l) := pk_sub (a := 600) hl
      have e1 : nI N - 1 = nI N + (-1) := by
        obtain ⟨m, rfl⟩ : ∃ m, N = m + 1 := ⟨N - 1, by omega⟩
        rw [nI_pred, pk_m1]
      by_cases c : l + N ≤ 600
      · obtain ⟨f', a1⟩ := j_csign p1 (fun a b => (m_X4_length a).bind fun q5 => some ("", q5, a, b)) N l fu (nI N - 1) f c (by omega) e1
        obtain ⟨g', b1⟩ := j_msign p1 (fun a b => some (a, (0 : Int32), a, b)) N l fu (nI N - 1) g c (by omega) e1
        refine ⟨0, nI (l + N), l + N, f', g', c, ?_, ?_⟩
        · have e6 : m_X6_sign fu p1 (nI N) (nI l) f = some ("", nI (l + N), nI (l + N), f') := by
            rw [m_X6_sign, mt_j, if_neg c1, if_pos c5, m_X4_length, Option.bind_some, es, if_pos (nI_le (by omega) (by omega)), mt_j]
            refine Eq.trans a1 ?_
            rw [m_X4_length, Option.bind_some]
          rw [m_L_sign, e6, Option.bind_some, if_pos rfl, if_pos j_00, j_o0]
        · rw [m_X7_sign, ei, Option.bind_some, mt_j, if_neg n1]; dsimp only
          rw [mt_j, mt_j, if_pos z0, nI_add, if_pos (show nI (l + N) ≤ (600 : Int32) from nI_le (b := 600) c (by omega))]; dsimp only
          rw [j_t00, Option.bind_some, if_pos z0, mt_j]
          exact b1
      · refine ⟨2, 0, l, f, g, hl, ?_, ?_⟩
        · have e6 : m_X6_sign fu p1 (nI N) (nI l) f = some ("java/lang/UnsupportedOperationException", 0, nI l, f) := by
            rw [m_X6_sign, mt_j, if_neg c1, if_pos c5, m_X4_length, Option.bind_some, es, if_neg (nI_ge (by omega) (by omega))]
          rw [m_L_sign, e6, Option.bind_some, if_neg j_s6, if_neg j_s7, if_pos rfl, j_o2]
        · rw [m_X7_sign, ei, Option.bind_some, mt_j, if_neg n1]; dsimp only
          rw [mt_j, mt_j, if_pos z0, nI_add, if_neg (show ¬ nI (l + N) ≤ (600 : Int32) from nI_ge (a := 600) (by omega) (by omega))]; dsimp only
          rw [j_t01, Option.bind_some, if_neg n1]
    · refine ⟨1, 0, l, f, g, hl, ?_, ?_⟩
      · rw [m_L_sign, m_X6_sign, mt_j, if_neg c1, if_neg c5]; dsimp only; rw [Option.bind_some, if_neg j_s4, if_pos rfl, j_o1]
      · rw [m_X7_sign, m_X7_in, if_neg c1, if_pos (Int32.not_le.mp c5), Option.bind_some, mt_j, if_pos z0]; dsimp only; rw [mt_j, mt_j, if_neg n1]; dsimp only; rw [j_t10, Option.bind_some, if_neg n1]

/-! print and at, on both sides. -/
def j_txt (l : Nat) (f g : Nat → Int32) : Prop := ∀ i, i < l → f i = g i
theorem j_txt_s {l : Nat} {f g : Nat → Int32} {b : Int32} (h : j_txt l f g) : j_txt (l + 1) (upd f l b) (upd g l b) := by
  intro i hi
  by_cases c : i = l
  · subst c; rw [pk_us, pk_us]
  · rw [pk_un c, pk_un c]; exact h i (by omega)
theorem j_add {l : Nat} {f : Nat → Int32} {b : Int32} (h : l < 600) : m_X4_add b (nI l) f = some (nI (l + 1), upd f l b) := by
  rw [m_X4_add, if_neg (nI_pos (by omega)), if_neg (fun z => by have := (nI_leI (a := 600) (b := l) (by omega) (by omega)).mp z; omega), if_pos (t_in h (by omega)), nI_clamp (by omega), nI_1]
theorem j_put {l : Nat} {f : Nat → Int32} {b : Int32} (h : l < 1200) : m_X7_put b (nI l) f = some (nI (l + 1), upd f l b) := by
  rw [m_X7_put, if_pos (t_in h (by omega)), nI_clamp (by omega), nI_1]
/-- how many digits -/
def j_dg (v : Nat) : Nat := if v < 10 then 1 else if v < 100 then 2 else if v < 1000 then 3 else 4
theorem j_dg4 (v : Nat) : j_dg v ≤ 4 := by
  rw [j_dg]; repeat' split
  all_goals omega
theorem j_dg2 {v : Nat} (h : v < 100) : j_dg v ≤ 2 := by
  rw [j_dg]; repeat' split
  all_goals omega
theorem j_dg1 {v : Nat} (h : v < 10) : j_dg v = 1 := by
  rw [j_dg, if_pos h]
theorem j_num {l v : Nat} {c : Int32} {f g : Nat → Int32} (hv : v ≤ 1439) (hl : l + 1 + j_dg v ≤ 600) (h : j_txt l f g) : ∃ f' g' : Nat → Int32, m_X4_add c (nI l) f = some (nI (l + 1), upd f l c) ∧ m_X1_writeNumber (nI v) (nI (l + 1)) (upd f l c) = some (nI (l + 1 + j_dg v), f') ∧ m_X7_putNumber c (nI v) (nI l) g = some (nI (l + 1 + j_dg v), g') ∧ j_txt (l + 1 + j_dg v) f' g' := by
  have h1 := j_txt_s (b := c) h
  have l10 := nI_ltI (a := v) (b := 10) (by omega) (by omega)
  have l100 := nI_ltI (a := v) (b := 100) (by omega) (by omega)
  have l1000 := nI_ltI (a := v) (b := 1000) (by omega) (by omega)
  have m9 := nI_leI (a := v) (b := 9) (by omega) (by omega)
  have m99 := nI_leI (a := v) (b := 99) (by omega) (by omega)
  have m999 := nI_leI (a := v) (b := 999) (by omega) (by omega)
  by_cases c1 : v < 10
  · have e : j_dg v = 1 := by rw [j_dg, if_pos c1]
    rw [e] at hl ⊢
    refine ⟨_, _, j_add (by omega), ?_, ?_, j_txt_s (b := (48 : Int32) + (nI v - nI v / (10 : Int32) * (10 : Int32))) h1⟩
    · rw [m_X1_writeNumber, mt_j, if_pos (show nI v < (1000 : Int32) from l1000.mpr (by omega))]; dsimp only
      rw [mt_j, if_pos (show nI v < (100 : Int32) from l100.mpr (by omega))]; dsimp only
      rw [mt_j, if_pos (show nI v < (10 : Int32) from l10.mpr (by omega))]; dsimp only
      rw [j_add (by omega), Option.bind_some]
    · rw [m_X7_putNumber, j_put (by omega), Option.bind_some, mt_j, if_pos (show nI v ≤ (999 : Int32) from m999.mpr (by omega))]; dsimp only
      rw [mt_j, if_pos (show nI v ≤ (99 : Int32) from m99.mpr (by omega))]; dsimp only
      rw [mt_j, if_pos (show nI v ≤ (9 : Int32) from m9.mpr (by omega))]; dsimp only
      rw [j_put (by omega), Option.bind_some]
  · have n10 : ¬ nI v < (10 : Int32) := fun z => c1 (l10.mp z)
    have n9 : ¬ nI v ≤ (9 : Int32) := fun z => by have := m9.mp z; omega
    by_cases c2 : v < 100
    · have e : j_dg v = 2 := by rw [j_dg, if_neg c1, if_pos c2]
      rw [e] at hl ⊢
      refine ⟨_, _, j_add (by omega), ?_, ?_, j_txt_s (b := (48 : Int32) + (nI v - nI v / (10 : Int32) * (10 : Int32))) (j_txt_s (b := (48 : Int32) + ((nI v / (10 : Int32)) - (nI v / (10 : Int32)) / (10 : Int32) * (10 : Int32))) h1)⟩
      · rw [m_X1_writeNumber, mt_j, if_pos (show nI v < (1000 : Int32) from l1000.mpr (by omega))]; dsimp only
        rw [mt_j, if_pos (show nI v < (100 : Int32) from l100.mpr (by omega))]; dsimp only
        rw [mt_j, if_neg n10, j_add (by omega), Option.bind_some]; dsimp only
        rw [j_add (by omega), Option.bind_some]
      · rw [m_X7_putNumber, j_put (by omega), Option.bind_some, mt_j, if_pos (show nI v ≤ (999 : Int32) from m999.mpr (by omega))]; dsimp only
        rw [mt_j, if_pos (show nI v ≤ (99 : Int32) from m99.mpr (by omega))]; dsimp only
        rw [mt_j, if_neg n9, j_put (by omega), Option.bind_some]; dsimp only
        rw [j_put (by omega), Option.bind_some]
    · have n100 : ¬ nI v < (100 : Int32) := fun z => c2 (l100.mp z)
      have n99 : ¬ nI v ≤ (99 : Int32) := fun z => by have := m99.mp z; omega
      by_cases c3 : v < 1000
      · have e : j_dg v = 3 := by rw [j_dg, if_neg c1, if_neg c2, if_pos c3]
        rw [e] at hl ⊢
        refine ⟨_, _, j_add (by omega), ?_, ?_, j_txt_s (b := (48 : Int32) + (nI v - nI v / (10 : Int32) * (10 : Int32))) (j_txt_s (b := (48 : Int32) + ((nI v / (10 : Int32)) - (nI v / (10 : Int32)) / (10 : Int32) * (10 : Int32))) (j_txt_s (b := (48 : Int32) + ((nI v / (100 : Int32)) - (nI v / (100 : Int32)) / (10 : Int32) * (10 : Int32))) h1))⟩
        · rw [m_X1_writeNumber, mt_j, if_pos (show nI v < (1000 : Int32) from l1000.mpr (by omega))]; dsimp only
          rw [mt_j, if_neg n100, j_add (by omega), Option.bind_some]; dsimp only
          rw [mt_j, if_neg n10, j_add (by omega), Option.bind_some]; dsimp only
          rw [j_add (by omega), Option.bind_some]
        · rw [m_X7_putNumber, j_put (by omega), Option.bind_some, mt_j, if_pos (show nI v ≤ (999 : Int32) from m999.mpr (by omega))]; dsimp only
          rw [mt_j, if_neg n99, j_put (by omega), Option.bind_some]; dsimp only
          rw [mt_j, if_neg n9, j_put (by omega), Option.bind_some]; dsimp only
          rw [j_put (by omega), Option.bind_some]
      · have n1000 : ¬ nI v < (1000 : Int32) := fun z => c3 (l1000.mp z)
        have n999 : ¬ nI v ≤ (999 : Int32) := fun z => by have := m999.mp z; omega
        have e : j_dg v = 4 := by rw [j_dg, if_neg c1, if_neg c2, if_neg c3]
        have t1 : nI v / (1000 : Int32) = nI 1 := by
          have : nI v / nI 1000 = nI (v / 1000) := pk_div (by omega) (by omega) (by omega)
          rw [show v / 1000 = 1 by omega] at this
          exact this
        have t2 : (48 : Int32) + (nI 1 - nI 1 / (10 : Int32) * (10 : Int32)) = (48 : Int32) + nI 1 := by decide
        rw [e] at hl ⊢
        refine ⟨_, _, j_add (by omega), ?_, ?_, j_txt_s (b := (48 : Int32) + (nI v - nI v / (10 : Int32) * (10 : Int32))) (j_txt_s (b := (48 : Int32) + ((nI v / (10 : Int32)) - (nI v / (10 : Int32)) / (10 : Int32) * (10 : Int32))) (j_txt_s (b := (48 : Int32) + ((nI v / (100 : Int32)) - (nI v / (100 : Int32)) / (10 : Int32) * (10 : Int32))) (j_txt_s (b := (48 : Int32) + nI 1) h1)))⟩
        · rw [m_X1_writeNumber, mt_j, if_neg n1000, t1, t2, j_add (by omega), Option.bind_some]; dsimp only
          rw [mt_j, if_neg n100, j_add (by omega), Option.bind_some]; dsimp only
          rw [mt_j, if_neg n10, j_add (by omega), Option.bind_some]; dsimp only
          rw [j_add (by omega), Option.bind_some]
        · rw [m_X7_putNumber, j_put (by omega), Option.bind_some, mt_j, if_neg n999, t1, j_put (by omega), Option.bind_some]; dsimp only
          rw [mt_j, if_neg n99, j_put (by omega), Option.bind_some]; dsimp only
          rw [mt_j, if_neg n9, j_put (by omega), Option.bind_some]; dsimp only
          rw [j_put (by omega), Option.bind_some]
/-- how long a text can be behind so many parts -/
def j_L (p : Nat) : Nat := if p ≤ 30 then 10 * p else if p ≤ 41 then 300 + 6 * (p - 30) else 366 + 11 * (p - 41)
theorem j_La {p : Nat} (h : p < 30) : j_L (p + 1) = j_L p + 10 ∧ j_L (p + 1) ≤ 600 := by
  rw [j_L, j_L, if_pos (by omega), if_pos (by omega)]; omega
theorem j_Lb {p : Nat} (h : 30 ≤ p) (h2 : p < 41) : j_L (p + 1) = j_L p + 6 ∧ j_L (p + 1) ≤ 600 := by
  have e : j_L (p + 1) = 300 + 6 * (p + 1 - 30) := by rw [j_L, if_neg (by omega), if_pos (by omega)]
  by_cases c : p = 30
  · subst c; decide
  · rw [e, j_L, if_neg (by omega), if_pos (by omega)]; omega
theorem j_Lc {p : Nat} (h : 41 ≤ p) (h2 : p < 62) : j_L (p + 1) = j_L p + 11 ∧ j_L (p + 1) ≤ 600 := by
  have e : j_L (p + 1) = 366 + 11 * (p + 1 - 41) := by rw [j_L, if_neg (by omega), if_neg (by omega)]
  by_cases c : p = 41
  · subst c; decide
  · rw [e, j_L, if_neg (by omega), if_neg (by omega)]; omega

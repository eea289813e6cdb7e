/-! The text of a part, and of all, on both sides. -/
theorem j_nk {p k : Nat} (hp : k < 3) (h : t_kd p ≠ k) : ¬ nI (t_kd p) = nI k := fun z => h ((nI_eq (by have := t_kdc p; omega) (by omega)).mp z)
/-- the class writes a part -/
theorem j_cpart {n : Nat} {H T A B C : Nat → Nat} {hd th co se tr : Nat → Int32} {p : Nat} (hp : p < 62) (h : w_c H T A B C hd th co se tr) {lt : Nat} {ft : Nat → Int32}
    (s : Int32) (f : Nat → Int32) (hs : t_kd p = 0 ∧ s = 115 ∨ t_kd p = 1 ∧ s = 117 ∨ t_kd p = 2 ∧ s = 99) (l l1 l2 : Nat) (f1 f2 f3 : Nat → Int32)
    (a1 : m_X4_add s (nI l) f = some (nI (l + 1), f1)) (a2 : m_X1_writeNumber (nI (A p)) (nI (l + 1)) f1 = some (nI l1, f2))
    (a3 : m_X4_add (if t_kd p = 0 then 45 else 58) (nI l1) f2 = some (nI (l1 + 1), f3)) (fe : Nat → Int32) (a4 : m_X1_writeNumber (nI (B p)) (nI (l1 + 1)) f3 = some (nI l2, fe))
    (hu : t_kd p = 1 → lt = l2 ∧ ft = fe) (hn : t_kd p ≠ 1 → ∃ fx, m_X4_add (if t_kd p = 0 then 58 else 64) (nI l2) fe = some (nI (l2 + 1), fx) ∧ m_X1_writeNumber (nI (C p)) (nI (l2 + 1)) fx = some (nI lt, ft)) :
    m_X1_writePart (nI p) (nI l) f co se tr = some (nI lt, ft) := by
  have r := h p hp
  have z0 : (0 : Int32) = 0 := rfl
  have n1 : ¬ (1 : Int32) = 0 := by decide
  have n20 : ¬ (2 : Int32) = 0 := by decide
  have n21 : ¬ (2 : Int32) = 1 := by decide
  have n01 : ¬ (0 : Int32) = 1 := by decide
  rw [m_X1_writePart, j_kind hp, Option.bind_some, mt_j]
  rcases hs with ⟨k, rfl⟩ | ⟨k, rfl⟩ | ⟨k, rfl⟩
  · rw [if_pos k] at a3
    obtain ⟨fx, b1, b2⟩ := hn (by omega)
    rw [if_pos k] at b1
    rw [k, if_pos nI_0]; dsimp only
    rw [a1, Option.bind_some, w_corner hp r.2.2.1, Option.bind_some, a2, Option.bind_some, mt_j, if_pos nI_0]; dsimp only
    rw [a3, Option.bind_some, w_second hp r.2.2.2.1, Option.bind_some, a4, Option.bind_some, if_neg (show ¬ nI 0 = (1 : Int32) from n01), mt_j, if_pos nI_0]; dsimp only
    rw [b1, Option.bind_some, w_third hp r.2.2.2.2, Option.bind_some, b2, Option.bind_some]
  · rw [if_neg (by omega)] at a3
    obtain ⟨b1, b2⟩ := hu k
    rw [k, if_neg (show ¬ nI 1 = 0 from n1), if_pos (show nI 1 = (1 : Int32) from rfl)]; dsimp only
    rw [a1, Option.bind_some, w_corner hp r.2.2.1, Option.bind_some, a2, Option.bind_some, mt_j, if_neg (show ¬ nI 1 = 0 from n1)]; dsimp only
    rw [a3, Option.bind_some, w_second hp r.2.2.2.1, Option.bind_some, a4, Option.bind_some, if_pos (show nI 1 = (1 : Int32) from rfl), b1, b2]
  · rw [if_neg (by omega)] at a3
    obtain ⟨fx, b1, b2⟩ := hn (by omega)
    rw [if_neg (by omega)] at b1
    rw [k, if_neg (show ¬ nI 2 = 0 from n20), if_neg (show ¬ nI 2 = (1 : Int32) from n21)]; dsimp only
    rw [a1, Option.bind_some, w_corner hp r.2.2.1, Option.bind_some, a2, Option.bind_some, mt_j, if_neg (show ¬ nI 2 = 0 from n20)]; dsimp only
    rw [a3, Option.bind_some, w_second hp r.2.2.2.1, Option.bind_some, a4, Option.bind_some, if_neg (show ¬ nI 2 = (1 : Int32) from n21), mt_j, if_neg (show ¬ nI 2 = 0 from n20)]; dsimp only
    rw [b1, Option.bind_some, w_third hp r.2.2.2.2, Option.bind_some, b2, Option.bind_some]
/-- all parts, both in step -/
theorem j_print_all {n : Nat} {H T A B C : Nat → Nat} {hd th co se tr kd th2 fi ot la : Nat → Int32} (w : w_ok n H T A B C) (h : w_c H T A B C hd th co se tr) (h2 : w_m H T A B C kd th2 fi ot la)
    (K1 : Int32 → (Nat → Int32) → Option (Int32 × (Nat → Int32))) (K2 : Int32 → (Nat → Int32) → Option (Int32 × Int32 × Int32 × (Nat → Int32))) :
    ∀ (x p f1 f2 : Nat), p + x = 62 → x < f1 → x < f2 → ∀ (l : Nat) (f g : Nat → Int32), l ≤ j_L p → j_txt l f g →
      ∃ (l' : Nat) (f' g' : Nat → Int32), l' ≤ 597 ∧ j_txt l' f' g' ∧ m_X1_write_L9 th co se tr (fun _ a b => K1 a b) f1 (nI p) (nI l) f = K1 (nI l') f' ∧ m_X7_print_L12 kd th2 fi ot la (fun _ a b => K2 a b) f2 (nI p) (nI l) g = K2 (nI l') g' := by
  intro x
  have z0 : (0 : Int32) = 0 := rfl
  have n1 : ¬ (1 : Int32) = 0 := by decide
  have n20 : ¬ nI 2 = 0 := by decide
  have n21 : ¬ nI 2 = (1 : Int32) := by decide
  have n02 : ¬ nI 0 = (2 : Int32) := by decide
  have n12 : ¬ nI 1 = (2 : Int32) := by decide
  have n10 : ¬ nI 1 = 0 := by decide
  have e11 : nI 1 = (1 : Int32) := rfl
  have e22 : nI 2 = (2 : Int32) := rfl
  induction x with
  | zero =>
    intro p f1 f2 hx hf1 hf2 l f g hl ht
    obtain ⟨g1, rfl⟩ : ∃ g, f1 = g + 1 := ⟨f1 - 1, by omega⟩
    obtain ⟨g2, rfl⟩ : ∃ g, f2 = g + 1 := ⟨f2 - 1, by omega⟩
    have e : p = 62 := by omega
    subst e
    have g0 : (62 : Int32) ≤ nI 62 := nI_le (a := 62) (b := 62) (by omega) (by omega)
    exact ⟨l, f, g, hl, ht, by rw [m_X1_write_L9, if_pos g0], by rw [m_X7_print_L12, if_pos g0]⟩
  | succ x ih =>
    intro p f1 f2 hx hf1 hf2 l f g hl ht
    obtain ⟨g1, rfl⟩ : ∃ g, f1 = g + 1 := ⟨f1 - 1, by omega⟩
    obtain ⟨g2, rfl⟩ : ∃ g, f2 = g + 1 := ⟨f2 - 1, by omega⟩
    have hp : p < 62 := by omega
    have g0 : ¬ (62 : Int32) ≤ nI p := fun z => by have := (nI_leI (a := 62) (b := p) (by omega) (by omega)).mp z; omega
    have r := h p hp
    have r2 := h2 p hp
    have b3 := w_b3 w hp
    have hi := t_in hp (by omega)
    have hi2 := t_in2 hp (N := 62) (by omega)
    by_cases ct : T p = 0
    · have hl2 : l ≤ j_L (p + 1) := by
        rcases t_kdc p with ⟨k1, k⟩ | ⟨k1, k2, k⟩ | ⟨k1, k⟩
        · have := j_La k1; omega
        · have := j_Lb k1 k2; omega
        · have := j_Lc k1 hp; omega
      obtain ⟨l', f', g', i1, i2, i3, i4⟩ := ih (p + 1) g1 g2 (by omega) (by omega) (by omega) l f g hl2 ht
      refine ⟨l', f', g', i1, i2, ?_, ?_⟩
      · rw [m_X1_write_L9, if_neg g0, w_isThere hp r.2.1 b3.2.1, Option.bind_some, ct, if_pos nI_0, nI_1, i3]
      · rw [m_X7_print_L12, if_neg g0, if_pos hi, nI_clamp (by omega), r2.2.1, ct, if_pos nI_0, nI_1, i4]
    · have ct1 : T p = 1 := by omega
      have hH : H p = 1 := by have := (w_ok_there w) p hp; omega
      have ek : kd p = nI (t_kd p) := by rw [r2.1, if_pos hH]
      have d1 := j_dg2 (v := A p) (by omega)
      have d2 := j_dg2 (v := B p) (by omega)
      rcases t_kdc p with ⟨k1, k⟩ | ⟨k1, k2, k⟩ | ⟨k1, k⟩
      · have st := (w_ok_street w) p k1 hH
        have d3 := j_dg2 (v := C p) (by omega)
        have LL := j_La k1
        obtain ⟨fa, ga, a1, a2, a3, a4⟩ := j_num (l := l) (v := A p) (c := 115) (f := f) (g := g) (by omega) (by omega) ht
        obtain ⟨fb, gb, b1, b2, b3', b4⟩ := j_num (l := l + 1 + j_dg (A p)) (v := B p) (c := 45) (f := fa) (g := ga) (by omega) (by omega) a4
        obtain ⟨fc, gc, c1, c2, c3, c4⟩ := j_num (l := l + 1 + j_dg (A p) + 1 + j_dg (B p)) (v := C p) (c := 58) (f := fb) (g := gb) (by omega) (by omega) b4
        obtain ⟨l', f', g', i1, i2, i3, i4⟩ := ih (p + 1) g1 g2 (by omega) (by omega) (by omega) (l + 1 + j_dg (A p) + 1 + j_dg (B p) + 1 + j_dg (C p) + 1) (upd fc (l + 1 + j_dg (A p) + 1 + j_dg (B p) + 1 + j_dg (C p)) 59) (upd gc (l + 1 + j_dg (A p) + 1 + j_dg (B p) + 1 + j_dg (C p)) 59) (by omega) (j_txt_s c4)
        have wp := j_cpart (n := n) hp h 115 f (Or.inl ⟨k, rfl⟩) l (l + 1 + j_dg (A p)) (l + 1 + j_dg (A p) + 1 + j_dg (B p)) _ fa _ a1 a2 (by rw [if_pos k]; exact b1) fb b2 (fun z => by omega) (fun _ => ⟨_, by rw [if_pos k]; exact c1, c2⟩)
        refine ⟨l', f', g', i1, i2, ?_, ?_⟩
        · rw [m_X1_write_L9, if_neg g0, w_isThere hp r.2.1 b3.2.1, Option.bind_some, ct1, if_neg n10, wp, Option.bind_some, j_add (by omega), Option.bind_some, nI_1, i3]
        · rw [m_X7_print_L12, if_neg g0, if_pos hi, nI_clamp (by omega), r2.2.1, ct1, if_neg n10, if_pos hi2, mt_j, ek, k, if_pos nI_0]; dsimp only
          rw [if_pos hi2, r2.2.2.1, a3, Option.bind_some, if_pos hi2, mt_j, if_pos nI_0]; dsimp only
          rw [if_pos hi2, r2.2.2.2.1, b3', Option.bind_some, if_pos hi2, mt_j, if_pos nI_0, if_pos hi2, r2.2.2.2.2, c3, Option.bind_some]; dsimp only
          rw [if_pos hi2, mt_j, if_neg n02]; dsimp only
          rw [j_put (by omega), Option.bind_some, nI_1, i4]
      · have st := (w_ok_unit w) p k1 k2 hH
        have d3 := j_dg1 (v := B p) (by omega)
        have LL := j_Lb k1 k2
        obtain ⟨fa, ga, a1, a2, a3, a4⟩ := j_num (l := l) (v := A p) (c := 117) (f := f) (g := g) (by omega) (by omega) ht
        obtain ⟨fb, gb, b1, b2, b3', b4⟩ := j_num (l := l + 1 + j_dg (A p)) (v := B p) (c := 58) (f := fa) (g := ga) (by omega) (by omega) a4
        obtain ⟨l', f', g', i1, i2, i3, i4⟩ := ih (p + 1) g1 g2 (by omega) (by omega) (by omega) (l + 1 + j_dg (A p) + 1 + j_dg (B p) + 1) (upd fb (l + 1 + j_dg (A p) + 1 + j_dg (B p)) 59) (upd gb (l + 1 + j_dg (A p) + 1 + j_dg (B p)) 59) (by omega) (j_txt_s b4)
        have wp := j_cpart (n := n) hp h 117 f (Or.inr (Or.inl ⟨k, rfl⟩)) l (l + 1 + j_dg (A p)) (l + 1 + j_dg (A p) + 1 + j_dg (B p)) _ fa _ a1 a2 (by rw [if_neg (by omega)]; exact b1) fb b2 (fun _ => ⟨rfl, rfl⟩) (fun z => absurd k z)
        refine ⟨l', f', g', i1, i2, ?_, ?_⟩
        · rw [m_X1_write_L9, if_neg g0, w_isThere hp r.2.1 b3.2.1, Option.bind_some, ct1, if_neg n10, wp, Option.bind_some, j_add (by omega), Option.bind_some, nI_1, i3]
        · rw [m_X7_print_L12, if_neg g0, if_pos hi, nI_clamp (by omega), r2.2.1, ct1, if_neg n10, if_pos hi2, mt_j, ek, k, if_neg n10, if_pos hi2, if_pos e11]; dsimp only
          rw [if_pos hi2, r2.2.2.1, a3, Option.bind_some, if_pos hi2, mt_j, if_neg n10]; dsimp only
          rw [if_pos hi2, r2.2.2.2.1, b3', Option.bind_some, if_pos hi2, mt_j, if_neg n10]; dsimp only
          rw [if_pos hi2, mt_j, if_neg n12]; dsimp only
          rw [j_put (by omega), Option.bind_some, nI_1, i4]
      · have st := (w_ok_call w) p k1 hp hH
        have d3 := j_dg1 (v := B p) (by omega)
        have d4 := j_dg4 (C p)
        have LL := j_Lc k1 hp
        obtain ⟨fa, ga, a1, a2, a3, a4⟩ := j_num (l := l) (v := A p) (c := 99) (f := f) (g := g) (by omega) (by omega) ht
        obtain ⟨fb, gb, b1, b2, b3', b4⟩ := j_num (l := l + 1 + j_dg (A p)) (v := B p) (c := 58) (f := fa) (g := ga) (by omega) (by omega) a4
        obtain ⟨fc, gc, c1, c2, c3, c4⟩ := j_num (l := l + 1 + j_dg (A p) + 1 + j_dg (B p)) (v := C p) (c := 64) (f := fb) (g := gb) (by omega) (by omega) b4
        obtain ⟨l', f', g', i1, i2, i3, i4⟩ := ih (p + 1) g1 g2 (by omega) (by omega) (by omega) (l + 1 + j_dg (A p) + 1 + j_dg (B p) + 1 + j_dg (C p) + 1) (upd fc (l + 1 + j_dg (A p) + 1 + j_dg (B p) + 1 + j_dg (C p)) 59) (upd gc (l + 1 + j_dg (A p) + 1 + j_dg (B p) + 1 + j_dg (C p)) 59) (by omega) (j_txt_s c4)
        have wp := j_cpart (n := n) hp h 99 f (Or.inr (Or.inr ⟨k, rfl⟩)) l (l + 1 + j_dg (A p)) (l + 1 + j_dg (A p) + 1 + j_dg (B p)) _ fa _ a1 a2 (by rw [if_neg (by omega)]; exact b1) fb b2 (fun z => by omega) (fun _ => ⟨_, by rw [if_neg (by omega)]; exact c1, c2⟩)
        refine ⟨l', f', g', i1, i2, ?_, ?_⟩
        · rw [m_X1_write_L9, if_neg g0, w_isThere hp r.2.1 b3.2.1, Option.bind_some, ct1, if_neg n10, wp, Option.bind_some, j_add (by omega), Option.bind_some, nI_1, i3]
        · rw [m_X7_print_L12, if_neg g0, if_pos hi, nI_clamp (by omega), r2.2.1, ct1, if_neg n10, if_pos hi2, mt_j, ek, k, if_neg n20, if_pos hi2, if_neg n21]; dsimp only
          rw [if_pos hi2, r2.2.2.1, a3, Option.bind_some, if_pos hi2, mt_j, if_neg n20]; dsimp only
          rw [if_pos hi2, r2.2.2.2.1, b3', Option.bind_some, if_pos hi2, mt_j, if_neg n20]; dsimp only
          rw [if_pos hi2, mt_j, if_pos e22, if_pos hi2, r2.2.2.2.2, c3, Option.bind_some]; dsimp only
          rw [j_put (by omega), Option.bind_some, nI_1, i4]
theorem j_print {n fu : Nat} {H T A B C : Nat → Nat} {hd th co se tr kd th2 fi ot la : Nat → Int32} (hfu : 63 ≤ fu) (w : w_ok n H T A B C) (h : w_c H T A B C hd th co se tr) (h2 : w_m H T A B C kd th2 fi ot la) (f g : Nat → Int32) : ∃ (l : Nat) (f' g' : Nat → Int32), l ≤ 597 ∧ j_txt l f' g' ∧ m_X6_print fu th co se tr f = some (nI l, nI l, f') ∧ m_X7_print fu kd th2 fi ot la g = some (nI l, 0, nI l, g') := by
  obtain ⟨l, f', g', i1, i2, i3, i4⟩ := j_print_all w h h2 (fun a b => some (a, b)) (fun a b => some (a, (0 : Int32), a, b)) 62 0 fu fu (by omega) (by omega) (by omega) 0 f g (by omega) (fun i hi => by omega)
  refine ⟨l, f', g', i1, i2, ?_, ?_⟩
  · have e : m_X1_write fu f th co se tr = some (nI l, f') := by
      rw [m_X1_write, m_X4_clear, Option.bind_some, mt_j]; exact i3
    rw [m_X6_print, e, Option.bind_some, m_X4_length, Option.bind_some]
  · rw [m_X7_print, mt_j]; exact i4
/-- at -/
theorem j_at {l : Nat} {f g : Nat → Int32} (hl : l ≤ 597) (ht : j_txt l f g) (p1 : Int32) (o : Nat → Int64) : ∃ k v : Int32, m_L_at p1 (nI l) f o = some (k, j_o o k v) ∧ m_X7_at p1 (nI l) g = some (v, k) := by
  have z0 : (0 : Int32) = 0 := rfl
  have n1 : ¬ (1 : Int32) = 0 := by decide
  have e6 : ∀ v, m_X6_at p1 (nI l) f = some ("", v) → m_L_at p1 (nI l) f o = some (0, j_o o 0 v) := fun v e => by
    rw [m_L_at, e, Option.bind_some, if_pos rfl, if_pos j_00, j_o0]
  by_cases c : p1 < 0
  · have c' : ¬ (0 : Int32) ≤ p1 := Int32.not_le.mpr c
    refine ⟨1, 0, ?_, ?_⟩
    · rw [m_L_at, m_X6_at, if_neg c', Option.bind_some, if_neg j_s4, if_pos rfl, j_o1]
    · rw [m_X7_at, mt_j, if_neg c']; dsimp only; rw [j_t10, Option.bind_some, if_neg n1]
  · have c' : (0 : Int32) ≤ p1 := Int32.not_lt.mp c
    rcases pk_ix p1 (n := l) (by omega) with c1 | c1 | ⟨j, hj, rfl⟩
    · exact absurd c1 c
    · refine ⟨0, -1, e6 _ ?_, ?_⟩
      · rw [m_X6_at, if_pos c', m_X4_byteAt, if_neg c, if_pos c1, Option.bind_some]
      · rw [m_X7_at, mt_j, if_pos c']; dsimp only; rw [j_t00, Option.bind_some, if_pos z0, if_pos c1]
    · have g0 : ¬ nI l ≤ nI j := nI_ge hj (by omega)
      refine ⟨0, g j, e6 _ ?_, ?_⟩
      · rw [m_X6_at, if_pos c', m_X4_byteAt, if_neg c, if_neg g0, if_neg (fun z => by have := (nI_leI (a := 600) (b := j) (by omega) (by omega)).mp z; omega), if_pos (t_in (N := 600) (by omega) (by omega)), nI_clamp (by omega), Option.bind_some, ht j hj]
      · rw [m_X7_at, mt_j, if_pos c']; dsimp only; rw [j_t00, Option.bind_some, if_pos z0, if_neg g0, if_pos (t_in (N := 1200) (by omega) (by omega)), nI_clamp (by omega)]

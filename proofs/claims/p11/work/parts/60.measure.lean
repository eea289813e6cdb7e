/-! The class measures the ways from a corner. -/
def r_row (d : Nat → Nat) (me : Nat → Int32) : Prop := ∀ v, v < 21 → me v = nI (d v)
theorem r_isCorner {e : Nat} (h : e < 21) : m_X6_isCorner (nI e) = some 1 := by
  rw [m_X6_isCorner, if_neg (nI_pos (by omega)), if_neg (fun z => by have := (nI_leI (a := 21) (b := e) (by omega) (by omega)).mp z; omega)]
theorem w_corner {A : Nat → Nat} {co : Nat → Int32} {p : Nat} (h : p < 62) (hc : co p = nI (A p)) : m_X5_cornerOf (nI p) co = some (nI (A p)) := by
  rw [m_X5_cornerOf, t_isPart h, Option.bind_some, if_neg (by decide), if_pos (t_in h (by omega)), nI_clamp (by omega), hc]
theorem w_second {A : Nat → Nat} {co : Nat → Int32} {p : Nat} (h : p < 62) (hc : co p = nI (A p)) : m_X5_secondOf (nI p) co = some (nI (A p)) := by
  rw [m_X5_secondOf, t_isPart h, Option.bind_some, if_neg (by decide), if_pos (t_in h (by omega)), nI_clamp (by omega), hc]
theorem w_third {A : Nat → Nat} {co : Nat → Int32} {p : Nat} (h : p < 62) (hc : co p = nI (A p)) : m_X5_thirdOf (nI p) co = some (nI (A p)) := by
  rw [m_X5_thirdOf, t_isPart h, Option.bind_some, if_neg (by decide), if_pos (t_in h (by omega)), nI_clamp (by omega), hc]
theorem t_in2 {e N : Nat} (h : e < N) (hN : N < 2 ^ 31) : ¬ (nI e < 0 ∨ N ≤ e) := by
  have i := t_in h hN
  rw [nI_clamp (by omega)] at i
  exact i
theorem r_shy {x y c : Nat} {d : Nat → Nat} {me : Nat → Int32} (hx : x < 21) (hy : y < 21) (hc : c ≤ 99) (hd : ∀ v, d v ≤ 1000000) (hm : r_row d me) (g : d x + c < d y) : m_X3_shorten (nI x) (nI y) (nI c) me = some (1, upd me y (nI (d x + c))) := by
  have l1 := hd x
  have l2 := hd y
  have e : nI (d x) + nI c = nI (d x + c) := nI_add _ _
  rw [m_X3_shorten, r_isCorner hx, Option.bind_some, if_neg (by decide), r_isCorner hy, Option.bind_some, if_neg (by decide), if_pos (t_in hx (by omega)), if_pos (t_in hy (by omega)), nI_clamp (by omega), nI_clamp (by omega), hm x hx, hm y hy, e, if_pos ((nI_ltI (by omega) (by omega)).mpr g), if_pos (t_in2 hx (by omega)), if_pos (t_in2 hy (by omega))]
theorem r_shn {x y c : Nat} {d : Nat → Nat} {me : Nat → Int32} (hx : x < 21) (hy : y < 21) (hc : c ≤ 99) (hd : ∀ v, d v ≤ 1000000) (hm : r_row d me) (g : ¬ d x + c < d y) : m_X3_shorten (nI x) (nI y) (nI c) me = some (0, me) := by
  have l1 := hd x
  have l2 := hd y
  have e : nI (d x) + nI c = nI (d x + c) := nI_add _ _
  rw [m_X3_shorten, r_isCorner hx, Option.bind_some, if_neg (by decide), r_isCorner hy, Option.bind_some, if_neg (by decide), if_pos (t_in hx (by omega)), if_pos (t_in hy (by omega)), nI_clamp (by omega), nI_clamp (by omega), hm x hx, hm y hy, e, if_neg (fun z => g ((nI_ltI (by omega) (by omega)).mp z))]
theorem r_one_bd {a b c : Nat} {d : Nat → Nat} (hd : ∀ v, d v ≤ 1000000) (v : Nat) : r_one a b c d v ≤ 1000000 := Nat.le_trans (r_one_le a b c d v) (hd v)
theorem r_row_b {a b c : Nat} {d : Nat → Nat} {me : Nat → Int32} (hm : r_row d me) (g : d a + c < d b) : r_row (r_one a b c d) (upd me b (nI (d a + c))) := by
  intro v hv
  rw [r_one]
  by_cases e : v = b
  · subst e; rw [pk_us, if_pos ⟨rfl, g⟩]
  · rw [pk_un e, if_neg (fun z => e z.1), if_neg (fun z => by have := z.2; omega)]; exact hm v hv
theorem r_row_a {a b c : Nat} {d : Nat → Nat} {me : Nat → Int32} (hm : r_row d me) (g : d b + c < d a) : r_row (r_one a b c d) (upd me a (nI (d b + c))) := by
  intro v hv
  rw [r_one, if_neg (fun z => by have := z.2; omega)]
  by_cases e : v = a
  · subst e; rw [pk_us, if_pos ⟨rfl, g⟩]
  · rw [pk_un e, if_neg (fun z => e z.1)]; exact hm v hv
theorem r_row_n {a b c : Nat} {d : Nat → Nat} {me : Nat → Int32} (hm : r_row d me) (g1 : ¬ d a + c < d b) (g2 : ¬ d b + c < d a) : r_row (r_one a b c d) me := by
  intro v hv
  rw [r_one_keep g1 g2]; exact hm v hv
/-- one street, both ways -/
theorem r_street {a b c : Nat} {d : Nat → Nat} {me : Nat → Int32} (ha : a < 21) (hb : b < 21) (hne : a ≠ b) (hc1 : 1 ≤ c) (hc : c ≤ 99) (hd : ∀ v, d v ≤ 1000000) (hm : r_row d me) : ∃ (f1 f2 : Int32) (me1 me2 : Nat → Int32), m_X3_shorten (nI a) (nI b) (nI c) me = some (f1, me1) ∧ m_X3_shorten (nI b) (nI a) (nI c) me1 = some (f2, me2) ∧ r_row (r_one a b c d) me2 ∧ ((f1 = 0 ∧ f2 = 0) ↔ ¬ (d a + c < d b ∨ d b + c < d a)) := by
  have n10 : ¬ (1 : Int32) = 0 := by decide
  by_cases g1 : d a + c < d b
  · have hr := r_row_b (c := c) hm g1
    have g3 : ¬ r_one a b c d b + c < r_one a b c d a := by
      have e1 : r_one a b c d b = d a + c := by rw [r_one, if_pos ⟨rfl, g1⟩]
      have e2 := r_one_le a b c d a
      omega
    exact ⟨1, 0, _, _, r_shy ha hb hc hd hm g1, r_shn hb ha hc (r_one_bd hd) hr g3, hr, ⟨fun z => absurd z.1 n10, fun z => absurd (Or.inl g1) z⟩⟩
  · by_cases g2 : d b + c < d a
    · exact ⟨0, 1, _, _, r_shn ha hb hc hd hm g1, r_shy hb ha hc hd hm g2, r_row_a hm g2, ⟨fun z => absurd z.2 n10, fun z => absurd (Or.inr g2) z⟩⟩
    · exact ⟨0, 0, _, _, r_shn ha hb hc hd hm g1, r_shn hb ha hc hd hm g2, r_row_n hm g1 g2, ⟨fun _ z => z.elim g1 g2, fun _ => ⟨rfl, rfl⟩⟩⟩
theorem r_flag3 {α : Type} {x y : Nat} (hx : x ≤ 1) (f1 f2 : Int32) (P : Prop) (h : (f1 = 0 ∧ f2 = 0) ↔ ¬ P) (hy1 : P → y = 1) (hy0 : ¬ P → y = x) (G : Int32 → Option α) : (if nI x = 0 then if f1 = 0 then if f2 = 0 then G 0 else G 1 else G 1 else G 1) = G (nI y) := by
  by_cases c : x = 0
  · subst c
    rw [if_pos nI_0]
    by_cases p : P
    · rw [hy1 p]
      by_cases q1 : f1 = 0
      · rw [if_pos q1, if_neg (fun q2 => h.mp ⟨q1, q2⟩ p)]; rfl
      · rw [if_neg q1]; rfl
    · have q := h.mpr p
      rw [if_pos q.1, if_pos q.2, hy0 p]; rfl
  · have e : x = 1 := by omega
    subst e
    have ey : y = 1 := by
      by_cases p : P
      · exact hy1 p
      · exact hy0 p
    rw [if_neg (by decide), ey]; rfl
theorem r_ch_y {T A B C d : Nat → Nat} {k : Nat} (ht : T k ≠ 0) (g : r_ps T A B C d k (A k) + C k < r_ps T A B C d k (B k) ∨ r_ps T A B C d k (B k) + C k < r_ps T A B C d k (A k)) : r_ch T A B C d (k + 1) = 1 := by rw [r_ch, if_pos ⟨ht, g⟩]
theorem r_ch_n {T A B C d : Nat → Nat} {k : Nat} (g : ¬ (r_ps T A B C d k (A k) + C k < r_ps T A B C d k (B k) ∨ r_ps T A B C d k (B k) + C k < r_ps T A B C d k (A k))) : r_ch T A B C d (k + 1) = r_ch T A B C d k := by rw [r_ch, if_neg (fun z => g z.2)]
theorem r_ch_t {T A B C d : Nat → Nat} {k : Nat} (ht : T k = 0) : r_ch T A B C d (k + 1) = r_ch T A B C d k := by rw [r_ch, if_neg (fun z => z.1 ht)]
theorem r_ps_t {T A B C d : Nat → Nat} {k : Nat} (ht : T k = 0) : r_ps T A B C d (k + 1) = r_ps T A B C d k := by rw [r_ps, if_pos ht]
theorem r_ps_s {T A B C d : Nat → Nat} {k : Nat} (ht : T k ≠ 0) : r_ps T A B C d (k + 1) = r_one (A k) (B k) (C k) (r_ps T A B C d k) := by rw [r_ps, if_neg ht]
theorem r_ps_bd {T A B C d : Nat → Nat} (hd : ∀ v, d v ≤ 1000000) (k v : Nat) : r_ps T A B C d k v ≤ 1000000 := by
  have m := r_ps_mono (T := T) (A := A) (B := B) (C := C) (d := d) v 0 k
  rw [Nat.zero_add] at m
  exact Nat.le_trans m (hd v)
/-- one pass of the class over the streets -/
theorem r_cpass {T A B C d : Nat → Nat} {th co se tr : Nat → Int32} (hr : r_ok T A B C) (hrow : ∀ p, p < 62 → th p = nI (T p) ∧ T p ≤ 1 ∧ co p = nI (A p) ∧ se p = nI (B p) ∧ tr p = nI (C p)) (hd : ∀ v, d v ≤ 1000000) (K : Int32 → Int32 → (Nat → Int32) → Option (Nat → Int32)) : ∀ (x k fu : Nat), k + x = 30 → x < fu → ∀ me, r_row (r_ps T A B C d k) me → ∃ me', r_row (r_ps T A B C d 30) me' ∧ m_X3_measureFrom_L52 th co se tr K fu (nI (r_ch T A B C d k)) (nI k) me = K (nI (r_ch T A B C d 30)) (nI 30) me' := by
  intro x
  induction x with
  | zero =>
    intro k fu hk hf me hm
    obtain ⟨f, rfl⟩ : ∃ f, fu = f + 1 := ⟨fu - 1, by omega⟩
    have e : k = 30 := by omega
    subst e
    have g0 : (30 : Int32) ≤ nI 30 := nI_le (a := 30) (b := 30) (by omega) (by omega)
    exact ⟨me, hm, by rw [m_X3_measureFrom_L52, if_pos g0]⟩
  | succ x ih =>
    intro k fu hk hf me hm
    obtain ⟨f, rfl⟩ : ∃ f, fu = f + 1 := ⟨fu - 1, by omega⟩
    have g1 : ¬ (30 : Int32) ≤ nI k := fun z => by have := (nI_leI (a := 30) (b := k) (by omega) (by omega)).mp z; omega
    obtain ⟨t1, t2, t3, t4, t5⟩ := hrow k (by omega)
    by_cases c : T k = 0
    · obtain ⟨me', h1, h2⟩ := ih (k + 1) f (by omega) (by omega) me (by rw [r_ps_t c]; exact hm)
      refine ⟨me', h1, ?_⟩
      rw [r_ch_t c] at h2
      rw [m_X3_measureFrom_L52, if_neg g1, w_isThere (by omega) t1 t2, Option.bind_some, c, if_pos nI_0, nI_1]
      exact h2
    · obtain ⟨b1, b2, b3, b4, b5⟩ := hr k (by omega) c
      obtain ⟨f1, f2, me1, me2, s1, s2, s3, s4⟩ := r_street b1 b2 b3 b4 b5 (r_ps_bd hd k) hm
      obtain ⟨me', h1, h2⟩ := ih (k + 1) f (by omega) (by omega) me2 (by rw [r_ps_s c]; exact s3)
      refine ⟨me', h1, ?_⟩
      have c1 : ¬ nI (T k) = 0 := fun z => c ((nI_eq (b := 0) (by omega) (by omega)).mp z)
      rw [m_X3_measureFrom_L52, if_neg g1, w_isThere (by omega) t1 t2, Option.bind_some, if_neg c1, w_corner (by omega) t3, Option.bind_some, w_second (by omega) t4, Option.bind_some, w_third (by omega) t5, Option.bind_some, s1, Option.bind_some, Option.bind_some, Option.bind_some, Option.bind_some, s2, Option.bind_some, nI_1]
      exact (r_flag3 (r_ch_le k) f1 f2 _ s4 (r_ch_y c) r_ch_n (fun z => m_X3_measureFrom_L52 th co se tr K f z (nI (k + 1)) me2)).trans h2

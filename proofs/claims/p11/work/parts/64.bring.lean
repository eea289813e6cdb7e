/-! The class brings the skills along the streets. -/
theorem s_or8 : ∀ x, x < 8 → ∀ y, y < 8 → nI x ||| nI y = nI (x ||| y) := by decide
theorem s_or_lt {x y : Nat} (hx : x < 8) (hy : y < 8) : x ||| y < 8 := Nat.or_lt_two_pow (n := 3) hx hy
theorem s_one_bd {a b : Nat} {m : Nat → Nat} (hm : ∀ v, m v < 8) (v : Nat) : s_one a b m v < 8 := by
  rw [s_one]
  split
  · exact s_or_lt (hm a) (hm b)
  · exact hm v
theorem s_ps_bd {T A B m : Nat → Nat} (hm : ∀ v, m v < 8) : ∀ k v, s_ps T A B m k v < 8 := by
  intro k
  induction k with
  | zero => exact hm
  | succ k ih =>
    intro v
    rw [s_ps]
    split
    · exact ih v
    · exact s_one_bd ih v
theorem s_it_bd {T A B m : Nat → Nat} (hm : ∀ v, m v < 8) : ∀ k v, s_it T A B m k v < 8 := by
  intro k
  induction k with
  | zero => exact hm
  | succ k ih => exact s_ps_bd ih 30
theorem s_u_bd {T A B : Nat → Nat} (hb : ∀ i, i < 11 → T (30 + i) ≠ 0 → B (30 + i) < 8) : ∀ j, j ≤ 11 → ∀ v, s_u T A B j v < 8 := by
  intro j
  induction j with
  | zero => intro _ v; rw [s_u]; omega
  | succ j ih =>
    intro hj v
    have h := ih (by omega) v
    rw [s_u]
    split
    · exact h
    · rename_i c
      split
      · exact s_or_lt h (hb j (by omega) c)
      · exact h
theorem s_share {a b : Nat} {m : Nat → Nat} {sk : Nat → Int32} (ha : a < 21) (hb : b < 21) (hm : ∀ v, m v < 8) (hs : r_row m sk) : ∃ (q : Int32) (sk' : Nat → Int32), m_X3_share (nI a) (nI b) sk = some (q, sk') ∧ r_row (s_one a b m) sk' ∧ (q = 0 ↔ m a = m b) := by
  have l1 := hm a
  have l2 := hm b
  have i1 := t_in ha (by omega)
  have i2 := t_in hb (by omega)
  have q1 : (nI a).toNatClampNeg = a := nI_clamp (by omega)
  have q2 : (nI b).toNatClampNeg = b := nI_clamp (by omega)
  have n10 : ¬ (1 : Int32) = 0 := by decide
  by_cases c : m a = m b
  · refine ⟨0, sk, ?_, ?_, ⟨fun _ => c, fun _ => rfl⟩⟩
    · rw [m_X3_share, r_isCorner ha, Option.bind_some, if_neg (by decide), r_isCorner hb, Option.bind_some, if_neg (by decide), if_pos i1, if_pos i2, q1, q2, hs a ha, hs b hb, c, if_pos rfl]
    · intro v hv
      rw [s_one]
      split
      · rename_i q
        rcases q with rfl | rfl
        · rw [← c, Nat.or_self]; exact hs _ hv
        · rw [c, Nat.or_self]; exact hs _ hv
      · exact hs v hv
  · refine ⟨1, upd (upd sk a (nI (m a ||| m b))) b (nI (m a ||| m b)), ?_, ?_, ⟨fun z => absurd z n10, fun z => absurd z c⟩⟩
    · have c' : ¬ nI (m a) = nI (m b) := fun z => c ((nI_eq (by omega) (by omega)).mp z)
      have j1 : ¬ (nI a < 0 ∨ 21 ≤ a) := t_in2 ha (by omega)
      have j2 : ¬ (nI b < 0 ∨ 21 ≤ b) := t_in2 hb (by omega)
      rw [m_X3_share, r_isCorner ha, Option.bind_some, if_neg (by decide), r_isCorner hb, Option.bind_some, if_neg (by decide), if_pos i1, if_pos i2, q1, q2, hs a ha, hs b hb, if_neg c', if_pos j1, if_pos j2, if_pos j1, if_pos j2, s_or8 _ l1 _ l2]
    · intro v hv
      rw [s_one]
      by_cases e2 : v = b
      · subst e2; rw [pk_us, if_pos (Or.inr rfl)]
      · rw [pk_un e2]
        by_cases e1 : v = a
        · subst e1; rw [pk_us, if_pos (Or.inl rfl)]
        · rw [pk_un e1, if_neg (fun z => z.elim e1 e2)]; exact hs v hv
theorem s_ps_t {T A B m : Nat → Nat} {k : Nat} (ht : T k = 0) : s_ps T A B m (k + 1) = s_ps T A B m k := by rw [s_ps, if_pos ht]
theorem s_ps_s {T A B m : Nat → Nat} {k : Nat} (ht : T k ≠ 0) : s_ps T A B m (k + 1) = s_one (A k) (B k) (s_ps T A B m k) := by rw [s_ps, if_neg ht]
theorem s_ch_t {T A B m : Nat → Nat} {k : Nat} (ht : T k = 0) : s_ch T A B m (k + 1) = s_ch T A B m k := by rw [s_ch, if_neg (fun z => z.1 ht)]
theorem s_ch_y {T A B m : Nat → Nat} {k : Nat} (ht : T k ≠ 0) (g : ¬ s_ps T A B m k (A k) = s_ps T A B m k (B k)) : s_ch T A B m (k + 1) = 1 := by rw [s_ch, if_pos ⟨ht, g⟩]
theorem s_ch_n {T A B m : Nat → Nat} {k : Nat} (g : s_ps T A B m k (A k) = s_ps T A B m k (B k)) : s_ch T A B m (k + 1) = s_ch T A B m k := by rw [s_ch, if_neg (fun z => z.2 g)]
theorem s_ch_le {T A B m : Nat → Nat} : ∀ k, s_ch T A B m k ≤ 1 := by
  intro k
  induction k with
  | zero => exact Nat.zero_le _
  | succ k ih => rw [s_ch]; split <;> omega
/-- one pass over the streets -/
theorem s_pass {T A B C m : Nat → Nat} {th co se tr : Nat → Int32} (hr : r_ok T A B C) (hrow : ∀ p, p < 62 → th p = nI (T p) ∧ T p ≤ 1 ∧ co p = nI (A p) ∧ se p = nI (B p) ∧ tr p = nI (C p)) (hm8 : ∀ v, m v < 8) (K : Int32 → Int32 → (Nat → Int32) → Option (Nat → Int32)) : ∀ (x k fu : Nat), k + x = 30 → x < fu → ∀ me, r_row (s_ps T A B m k) me → ∃ me', r_row (s_ps T A B m 30) me' ∧ m_X3_bringSkills_L90 th co se K fu (nI (s_ch T A B m k)) (nI k) me = K (nI (s_ch T A B m 30)) (nI 30) me' := by
  intro x
  induction x with
  | zero =>
    intro k fu hk hf me hm
    obtain ⟨f, rfl⟩ : ∃ f, fu = f + 1 := ⟨fu - 1, by omega⟩
    have e : k = 30 := by omega
    subst e
    have g0 : (30 : Int32) ≤ nI 30 := nI_le (a := 30) (b := 30) (by omega) (by omega)
    exact ⟨me, hm, by rw [m_X3_bringSkills_L90, if_pos g0]⟩
  | succ x ih =>
    intro k fu hk hf me hm
    obtain ⟨f, rfl⟩ : ∃ f, fu = f + 1 := ⟨fu - 1, by omega⟩
    have g1 : ¬ (30 : Int32) ≤ nI k := fun z => by have := (nI_leI (a := 30) (b := k) (by omega) (by omega)).mp z; omega
    obtain ⟨t1, t2, t3, t4, t5⟩ := hrow k (by omega)
    by_cases c : T k = 0
    · obtain ⟨me', h1, h2⟩ := ih (k + 1) f (by omega) (by omega) me (by rw [s_ps_t c]; exact hm)
      refine ⟨me', h1, ?_⟩
      rw [s_ch_t c] at h2
      rw [m_X3_bringSkills_L90, if_neg g1, w_isThere (by omega) t1 t2, Option.bind_some, c, if_pos nI_0, nI_1]
      exact h2
    · obtain ⟨b1, b2, b3, b4, b5⟩ := hr k (by omega) c
      obtain ⟨q, me1, s1, s2, s3⟩ := s_share b1 b2 (s_ps_bd hm8 k) hm
      obtain ⟨me', h1, h2⟩ := ih (k + 1) f (by omega) (by omega) me1 (by rw [s_ps_s c]; exact s2)
      refine ⟨me', h1, ?_⟩
      have c1 : ¬ nI (T k) = 0 := fun z => c ((nI_eq (b := 0) (by omega) (by omega)).mp z)
      rw [m_X3_bringSkills_L90, if_neg g1, w_isThere (by omega) t1 t2, Option.bind_some, if_neg c1, w_corner (by omega) t3, Option.bind_some, w_second (by omega) t4, Option.bind_some, s1, Option.bind_some, nI_1]
      by_cases g : s_ps T A B m k (A k) = s_ps T A B m k (B k)
      · rw [s_ch_n g] at h2
        rw [if_pos (s3.mpr g)]; exact h2
      · rw [s_ch_y c g] at h2
        rw [if_neg (fun z => g (s3.mp z))]; exact h2
theorem s_it_s {T A B m : Nat → Nat} (k : Nat) : s_it T A B m (k + 1) = s_ps T A B (s_it T A B m k) 30 := by rw [s_it]
theorem s_rounds {T A B C m : Nat → Nat} {th co se tr : Nat → Int32} {FU : Nat} (hFU : 31 ≤ FU) (hr : r_ok T A B C) (hrow : ∀ p, p < 62 → th p = nI (T p) ∧ T p ≤ 1 ∧ co p = nI (A p) ∧ se p = nI (B p) ∧ tr p = nI (C p)) (hm8 : ∀ v, m v < 8) (G : (Nat → Int32) → Option (Nat → Int32)) : ∀ (x j fu : Nat), j + x = 21 → x < fu → ∀ (q : Int32) (me : Nat → Int32), r_row (s_it T A B m j) me → (q = 0 → s_it T A B m j = s_it T A B m 21) → ∃ me', r_row (s_it T A B m 21) me' ∧ m_X3_bringSkills_L75 FU th co se (fun _ _ m => G m) fu q (nI j) me = G me' := by
  intro x
  induction x with
  | zero =>
    intro j fu hj hf q me hm hq
    obtain ⟨f, rfl⟩ : ∃ f, fu = f + 1 := ⟨fu - 1, by omega⟩
    have e : j = 21 := by omega
    subst e
    have g0 : (21 : Int32) ≤ nI 21 := nI_le (a := 21) (b := 21) (by omega) (by omega)
    exact ⟨me, hm, by rw [m_X3_bringSkills_L75, if_pos g0]⟩
  | succ x ih =>
    intro j fu hj hf q me hm hq
    obtain ⟨f, rfl⟩ : ∃ f, fu = f + 1 := ⟨fu - 1, by omega⟩
    have g1 : ¬ (21 : Int32) ≤ nI j := fun z => by have := (nI_leI (a := 21) (b := j) (by omega) (by omega)).mp z; omega
    by_cases c : q = 0
    · refine ⟨me, ?_, by rw [m_X3_bringSkills_L75, if_neg g1, if_pos c]⟩
      rw [← hq c]; exact hm
    · have h0 : r_row (s_ps T A B (s_it T A B m j) 0) me := hm
      obtain ⟨me1, h1, h2⟩ := s_pass hr hrow (s_it_bd hm8 j) (fun x3 _ m => m_X3_bringSkills_L75 FU th co se (fun _ _ m => G m) f x3 (nI j + (1 : Int32)) m) 30 0 FU (by omega) (by omega) me h0
      obtain ⟨me', h3, h4⟩ := ih (j + 1) f (by omega) (by omega) (nI (s_ch T A B (s_it T A B m j) 30)) me1 (by rw [s_it_s]; exact h1) (fun z => by
        have l := s_ch_le (T := T) (A := A) (B := B) (m := s_it T A B m j) 30
        have z' := (nI_eq (b := 0) (by omega) (by omega)).mp z
        have y1 := s_stay z' 1
        have y2 := s_stay z' (21 - j)
        rw [show j + (21 - j) = 21 by omega] at y2
        rw [y1, y2])
      refine ⟨me', h3, ?_⟩
      rw [m_X3_bringSkills_L75, if_neg g1, if_neg c, mt_j, ← h4, ← nI_1]
      exact h2

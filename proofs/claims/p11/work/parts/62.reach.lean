/-! The reference measures the ways to a corner. -/
theorem r_mstart {a : Nat} (ha : a < 21) (G : (Nat → Int32) → Option (Nat → Int32)) : ∀ (x v fu : Nat), v + x = 21 → x < fu → ∀ me : Nat → Int32, (∀ u, u < v → me u = nI (r_0 a u)) → ∃ me', r_row (r_0 a) me' ∧ m_X7_reach_L2 (nI a) (fun _ m => G m) fu (nI v) me = G me' := by
  intro x
  induction x with
  | zero =>
    intro v fu hv hf me hm
    obtain ⟨f, rfl⟩ : ∃ f, fu = f + 1 := ⟨fu - 1, by omega⟩
    have e : v = 21 := by omega
    subst e
    have g0 : (21 : Int32) ≤ nI 21 := nI_le (a := 21) (b := 21) (by omega) (by omega)
    exact ⟨me, hm, by rw [m_X7_reach_L2, if_pos g0]⟩
  | succ x ih =>
    intro v fu hv hf me hm
    obtain ⟨f, rfl⟩ : ∃ f, fu = f + 1 := ⟨fu - 1, by omega⟩
    have g1 : ¬ (21 : Int32) ≤ nI v := fun z => by have := (nI_leI (a := 21) (b := v) (by omega) (by omega)).mp z; omega
    obtain ⟨me', h1, h2⟩ := ih (v + 1) f (by omega) (by omega) (upd me v (nI (r_0 a v))) (fun u hu => by
      by_cases c : u = v
      · subst c; rw [pk_us]
      · rw [pk_un c]; exact hm u (by omega))
    refine ⟨me', h1, ?_⟩
    rw [m_X7_reach_L2, if_neg g1, mt_j, ← h2]
    have hi := t_in (e := v) (N := 21) (by omega) (by omega)
    by_cases c : v = a
    · have z : nI (r_0 a v) = 0 := by rw [r_0, if_pos c]; rfl
      rw [if_pos (by rw [c])]
      dsimp only
      rw [if_pos hi, nI_clamp (by omega), nI_1, z]
    · have z : nI (r_0 a v) = 1000000 := by rw [r_0, if_neg c]; rfl
      rw [if_neg (fun z => c ((nI_eq (by omega) (by omega)).mp z))]
      dsimp only
      rw [if_pos hi, nI_clamp (by omega), nI_1, z]
theorem r_flag2 {α : Type} {x y : Nat} (hx : x ≤ 1) (f1 : Int32) (P : Prop) (h : f1 = 0 ↔ ¬ P) (hy1 : P → y = 1) (hy0 : ¬ P → y = x) (G : Int32 → Option α) : (if nI x = 0 then if f1 = 0 then G 0 else G 1 else G 1) = G (nI y) := by
  by_cases c : x = 0
  · subst c
    rw [if_pos nI_0]
    by_cases p : P
    · rw [hy1 p, if_neg (fun q => h.mp q p)]; rfl
    · rw [if_pos (h.mpr p), hy0 p]; rfl
  · have e : x = 1 := by omega
    subst e
    have ey : y = 1 := by
      by_cases p : P
      · exact hy1 p
      · exact hy0 p
    rw [if_neg (by decide), ey]; rfl
/-- one street of the reference's -/
theorem r_mstreet {T A B C d : Nat → Nat} {th fi ot la me : Nat → Int32} {k f fl : Nat} (hk : k < 30) (c : T k ≠ 0) (hr : r_ok T A B C) (hrow : ∀ p, p < 62 → th p = nI (T p) ∧ T p ≤ 1 ∧ fi p = nI (A p) ∧ ot p = nI (B p) ∧ la p = nI (C p)) (hd : ∀ v, d v ≤ 1000000) (hm : r_row d me) (hfl : fl ≤ 1) (y : Nat) (hy1 : d (A k) + C k < d (B k) ∨ d (B k) + C k < d (A k) → y = 1) (hy0 : ¬ (d (A k) + C k < d (B k) ∨ d (B k) + C k < d (A k)) → y = fl) (K : Int32 → Int32 → (Nat → Int32) → Option (Nat → Int32)) : ∃ me', r_row (r_one (A k) (B k) (C k) d) me' ∧ m_X7_reach_L41 th fi ot la K (f + 1) (nI fl) (nI k) me = m_X7_reach_L41 th fi ot la K f (nI y) (nI (k + 1)) me' := by
  obtain ⟨t1, t2, t3, t4, t5⟩ := hrow k (by omega)
  obtain ⟨b1, b2, b3, b4, b5⟩ := hr k (by omega) c
  have l1 := hd (A k)
  have l2 := hd (B k)
  have g1 : ¬ (30 : Int32) ≤ nI k := fun z => by have := (nI_leI (a := 30) (b := k) (by omega) (by omega)).mp z; omega
  have c1 : ¬ nI (T k) = 0 := fun z => c ((nI_eq (b := 0) (by omega) (by omega)).mp z)
  have q1 : (nI k).toNatClampNeg = k := nI_clamp (by omega)
  have q2 : (nI (A k)).toNatClampNeg = A k := nI_clamp (by omega)
  have q3 : (nI (B k)).toNatClampNeg = B k := nI_clamp (by omega)
  have i1 : ¬ (nI k < 0 ∨ 62 ≤ k) := t_in2 (N := 62) (by omega) (by omega)
  have i2 : ¬ (nI (A k) < 0 ∨ 21 ≤ A k) := t_in2 (N := 21) (by omega) (by omega)
  have i3 : ¬ (nI (B k) < 0 ∨ 21 ≤ B k) := t_in2 (N := 21) (by omega) (by omega)
  have e1 : nI (d (A k)) + nI (C k) = nI (d (A k) + C k) := nI_add _ _
  have e2 : nI (d (B k)) + nI (C k) = nI (d (B k) + C k) := nI_add _ _
  have n10 : ¬ (1 : Int32) = 0 := by decide
  have tail : ∀ (j0 : Int32) (me' : Nat → Int32), (j0 = 0 ↔ ¬ (d (A k) + C k < d (B k) ∨ d (B k) + C k < d (A k))) → (if nI fl = 0 then if j0 = 0 then m_X7_reach_L41 th fi ot la K f 0 (nI (k + 1)) me' else m_X7_reach_L41 th fi ot la K f 1 (nI (k + 1)) me' else m_X7_reach_L41 th fi ot la K f 1 (nI (k + 1)) me') = m_X7_reach_L41 th fi ot la K f (nI y) (nI (k + 1)) me' := fun j0 me' h => r_flag2 hfl j0 _ h hy1 hy0 (fun z => m_X7_reach_L41 th fi ot la K f z (nI (k + 1)) me')
  by_cases x1 : d (A k) + C k < d (B k)
  · have x2 : ¬ d (B k) + C k < d (A k) := by omega
    have y1 : nI (d (A k) + C k) < nI (d (B k)) := (nI_ltI (by omega) (by omega)).mpr x1
    have y2 : ¬ nI (d (B k)) ≤ nI (d (A k) + C k) := fun z => by have := (nI_leI (by omega) (by omega)).mp z; omega
    have y3 : nI (d (A k)) ≤ nI (d (B k) + C k) := (nI_leI (by omega) (by omega)).mpr (by omega)
    refine ⟨_, r_row_b (c := C k) hm x1, ?_⟩
    rw [← tail 1 (upd me (B k) (nI (d (A k) + C k))) ⟨fun z => absurd z n10, fun z => absurd (Or.inl x1) z⟩]
    rw [m_X7_reach_L41, if_neg g1]
    simp only [q1, t1, t3, t4, t5, q2, q3, hm (A k) b1, hm (B k) b2, e1, e2, nI_1]
    rw [if_pos i1, if_neg c1, if_pos i1, if_pos i2, if_pos i1, if_pos i3, if_pos i1, mt_j, mt_j, if_pos y1]
    dsimp only
    rw [if_pos i1, mt_j, if_neg y2, if_pos i1, if_pos i1, if_pos i3]
    dsimp only
    rw [if_pos i1, mt_j, if_pos y3]
  · by_cases x2 : d (B k) + C k < d (A k)
    · have y1 : ¬ nI (d (A k) + C k) < nI (d (B k)) := fun z => x1 ((nI_ltI (by omega) (by omega)).mp z)
      have y2 : nI (d (B k)) ≤ nI (d (A k) + C k) := (nI_leI (by omega) (by omega)).mpr (by omega)
      have y3 : ¬ nI (d (A k)) ≤ nI (d (B k) + C k) := fun z => by have := (nI_leI (by omega) (by omega)).mp z; omega
      refine ⟨_, r_row_a (c := C k) hm x2, ?_⟩
      rw [← tail 1 (upd me (A k) (nI (d (B k) + C k))) ⟨fun z => absurd z n10, fun z => absurd (Or.inr x2) z⟩]
      rw [m_X7_reach_L41, if_neg g1]
      simp only [q1, t1, t3, t4, t5, q2, q3, hm (A k) b1, hm (B k) b2, e1, e2, nI_1]
      rw [if_pos i1, if_neg c1, if_pos i1, if_pos i2, if_pos i1, if_pos i3, if_pos i1, mt_j, mt_j, if_neg y1, if_pos i1, if_neg y3]
      dsimp only
      rw [if_pos i1, mt_j, if_pos y2]
      dsimp only
      rw [if_pos i1, mt_j, if_neg y3, if_pos i1, if_pos i1, if_pos i2]
    · have y1 : ¬ nI (d (A k) + C k) < nI (d (B k)) := fun z => x1 ((nI_ltI (by omega) (by omega)).mp z)
      have y2 : nI (d (B k)) ≤ nI (d (A k) + C k) := (nI_leI (by omega) (by omega)).mpr (by omega)
      have y3 : nI (d (A k)) ≤ nI (d (B k) + C k) := (nI_leI (by omega) (by omega)).mpr (by omega)
      refine ⟨_, r_row_n (c := C k) hm x1 x2, ?_⟩
      rw [m_X7_reach_L41, if_neg g1]
      simp only [q1, t1, t3, t4, t5, q2, q3, hm (A k) b1, hm (B k) b2, e1, e2, nI_1]
      rw [if_pos i1, if_neg c1, if_pos i1, if_pos i2, if_pos i1, if_pos i3, if_pos i1, mt_j, mt_j, if_neg y1, if_pos i1, if_pos y3]
      dsimp only
      rw [if_pos i1, mt_j, if_pos y2]
      dsimp only
      rw [if_pos i1, mt_j, if_pos y3]
      exact tail 0 me ⟨fun _ z => z.elim x1 x2, fun _ => rfl⟩
theorem r_mpass {T A B C d : Nat → Nat} {th fi ot la : Nat → Int32} (hr : r_ok T A B C) (hrow : ∀ p, p < 62 → th p = nI (T p) ∧ T p ≤ 1 ∧ fi p = nI (A p) ∧ ot p = nI (B p) ∧ la p = nI (C p)) (hd : ∀ v, d v ≤ 1000000) (K : Int32 → Int32 → (Nat → Int32) → Option (Nat → Int32)) : ∀ (x k fu : Nat), k + x = 30 → x < fu → ∀ me, r_row (r_ps T A B C d k) me → ∃ me', r_row (r_ps T A B C d 30) me' ∧ m_X7_reach_L41 th fi ot la K fu (nI (r_ch T A B C d k)) (nI k) me = K (nI (r_ch T A B C d 30)) (nI 30) me' := by
  intro x
  induction x with
  | zero =>
    intro k fu hk hf me hm
    obtain ⟨f, rfl⟩ : ∃ f, fu = f + 1 := ⟨fu - 1, by omega⟩
    have e : k = 30 := by omega
    subst e
    have g0 : (30 : Int32) ≤ nI 30 := nI_le (a := 30) (b := 30) (by omega) (by omega)
    exact ⟨me, hm, by rw [m_X7_reach_L41, if_pos g0]⟩
  | succ x ih =>
    intro k fu hk hf me hm
    obtain ⟨f, rfl⟩ : ∃ f, fu = f + 1 := ⟨fu - 1, by omega⟩
    by_cases c : T k = 0
    · have g1 : ¬ (30 : Int32) ≤ nI k := fun z => by have := (nI_leI (a := 30) (b := k) (by omega) (by omega)).mp z; omega
      obtain ⟨t1, _⟩ := hrow k (by omega)
      obtain ⟨me', h1, h2⟩ := ih (k + 1) f (by omega) (by omega) me (by rw [r_ps_t c]; exact hm)
      refine ⟨me', h1, ?_⟩
      rw [r_ch_t c] at h2
      have q1 : (nI k).toNatClampNeg = k := nI_clamp (by omega)
      have z : th (nI k).toNatClampNeg = 0 := by rw [q1, t1, c]; rfl
      rw [m_X7_reach_L41, if_neg g1, if_pos (t_in (by omega) (by omega)), if_pos z, nI_1]
      exact h2
    · obtain ⟨me1, s1, s2⟩ := r_mstreet (f := f) (by omega) c hr hrow (r_ps_bd hd k) hm (r_ch_le k) (r_ch T A B C d (k + 1)) (r_ch_y c) r_ch_n K
      obtain ⟨me', h1, h2⟩ := ih (k + 1) f (by omega) (by omega) me1 (by rw [r_ps_s c]; exact s1)
      exact ⟨me', h1, s2.trans h2⟩
theorem r_mrounds {T A B C : Nat → Nat} {th fi ot la : Nat → Int32} {a FU : Nat} (hFU : 31 ≤ FU) (hr : r_ok T A B C) (hrow : ∀ p, p < 62 → th p = nI (T p) ∧ T p ≤ 1 ∧ fi p = nI (A p) ∧ ot p = nI (B p) ∧ la p = nI (C p)) (G : (Nat → Int32) → Option (Nat → Int32)) : ∀ (x j fu : Nat), j + x = 22 → x < fu → ∀ (q : Int32) (me : Nat → Int32), r_row (r_it T A B C (r_0 a) j) me → (q = 0 → r_it T A B C (r_0 a) j = r_D T A B C a) → (¬ q = 0 → j ≤ 20) → ∃ me', r_row (r_D T A B C a) me' ∧ m_X7_reach_L33 FU th fi ot la (fun _ m => G m) fu q me = G me' := by
  intro x
  induction x with
  | zero =>
    intro j fu hj hf q me hm hq hq2
    obtain ⟨f, rfl⟩ : ∃ f, fu = f + 1 := ⟨fu - 1, by omega⟩
    by_cases c : q = 0
    · refine ⟨me, ?_, by rw [m_X7_reach_L33, if_pos c]⟩
      rw [← hq c]; exact hm
    · have := hq2 c; omega
  | succ x ih =>
    intro j fu hj hf q me hm hq hq2
    obtain ⟨f, rfl⟩ : ∃ f, fu = f + 1 := ⟨fu - 1, by omega⟩
    by_cases c : q = 0
    · refine ⟨me, ?_, by rw [m_X7_reach_L33, if_pos c]⟩
      rw [← hq c]; exact hm
    · have j20 := hq2 c
      have h0 : r_row (r_ps T A B C (r_it T A B C (r_0 a) j) 0) me := hm
      have l := r_ch_le (T := T) (A := A) (B := B) (C := C) (d := r_it T A B C (r_0 a) j) 30
      obtain ⟨me1, h1, h2⟩ := r_mpass hr hrow (r_it_bd a j) (fun x3 _ m => m_X7_reach_L33 FU th fi ot la (fun _ m => G m) f x3 m) 30 0 FU (by omega) (by omega) me h0
      obtain ⟨me', h3, h4⟩ := ih (j + 1) f (by omega) (by omega) (nI (r_ch T A B C (r_it T A B C (r_0 a) j) 30)) me1 (by rw [r_it_s]; exact h1) (fun z => by
        have z' := (nI_eq (b := 0) (by omega) (by omega)).mp z
        rw [r_it_s, r_ch_0 30 z']
        exact r_early hr z') (fun z => by
        by_cases e : j = 20
        · exact absurd (by rw [r_stop hr a j (by omega)]; rfl) z
        · omega)
      refine ⟨me', h3, ?_⟩
      rw [m_X7_reach_L33, if_neg c, mt_j, ← h4]
      exact h2
/-- the reference's reach -/
theorem r_mreach {T A B C : Nat → Nat} {th fi ot la : Nat → Int32} {a fu : Nat} (hfu : 31 ≤ fu) (ha : a < 21) (hr : r_ok T A B C) (hrow : ∀ p, p < 62 → th p = nI (T p) ∧ T p ≤ 1 ∧ fi p = nI (A p) ∧ ot p = nI (B p) ∧ la p = nI (C p)) (me : Nat → Int32) : ∃ me', r_row (r_D T A B C a) me' ∧ m_X7_reach fu (nI a) th fi ot la me = some me' := by
  obtain ⟨m1, h1, h2⟩ := r_mstart ha (fun m => m_X7_reach_L33 fu th fi ot la (fun _ m => some m) fu (1 : Int32) m) 21 0 fu (by omega) (by omega) me (fun u hu => by omega)
  obtain ⟨m2, h3, h4⟩ := r_mrounds (a := a) hfu hr hrow (fun m => some m) 22 0 fu (by omega) (by omega) (1 : Int32) m1 h1 (fun z => absurd z (by decide)) (fun _ => by omega)
  refine ⟨m2, h3, ?_⟩
  rw [m_X7_reach, mt_j, ← h4]
  exact h2

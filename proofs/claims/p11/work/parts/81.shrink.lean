/-! shrink, on both sides. -/
theorem w_p_cnt {T : Nat → Nat} {p x : Nat} : ∀ d, w_n (w_p T p x) 0 d + (if p < d then T p else 0) = w_n T 0 d + (if p < d then x else 0) := by
  intro d
  induction d with
  | zero => rw [if_neg (by omega), if_neg (by omega)]; rfl
  | succ d ih =>
    rw [w_n, w_n, Nat.zero_add]
    by_cases c : p < d
    · rw [if_pos c, if_pos c] at ih
      rw [if_pos (by omega), if_pos (by omega), w_p_n (by omega)]; omega
    · rw [if_neg c, if_neg c] at ih
      by_cases e : d = p
      · subst e; rw [if_pos (by omega), if_pos (by omega), w_p_s]; omega
      · rw [if_neg (by omega), if_neg (by omega), w_p_n e]; omega
theorem w_p_62 {T : Nat → Nat} {p x : Nat} (hp : p < 62) : w_n (w_p T p x) 0 62 + T p = w_n T 0 62 + x := by
  have := w_p_cnt (T := T) (p := p) (x := x) 62
  rw [if_pos hp, if_pos hp] at this
  exact this
/-- one round, both in step -/
theorem j_round {n k FU : Nat} {H A B C : Nat → Nat} {hd co se tr kd fi ot la : Nat → Int32} (hfu : 63 ≤ FU) (hk : k < 5)
    (K1 : Int32 → Int32 → (Nat → Int32) → (Nat → Int32) → (Nat → Int32) → Option (Int32 × (Nat → Int32) × (Nat → Int32) × (Nat → Int32)))
    (K2 : Int32 → Int32 → (Nat → Int32) → (Nat → Int32) → Option (Int32 × Int32 × (Nat → Int32) × (Nat → Int32))) :
    ∀ (x p f1 f2 : Nat), p + x = 62 → x < f1 → x < f2 → ∀ (c q : Nat) (T : Nat → Nat) (me sk th th2 far : Nat → Int32), w_ok n H T A B C → w_c H T A B C hd th co se tr → w_m H T A B C kd th2 fi ot la → q ≤ 1 →
      ∃ (c' q' : Nat) (T' : Nat → Nat) (me' sk' th' th2' far' : Nat → Int32), w_ok n H T' A B C ∧ w_c H T' A B C hd th' co se tr ∧ w_m H T' A B C kd th2' fi ot la ∧ q' ≤ 1 ∧ c' + w_n T' 0 62 = c + w_n T 0 62 ∧ c ≤ c' ∧ (q' = 1 → q = 1 ∨ c < c') ∧
        m_X0_leaveOutWhile_L26 FU (nI k) hd co se tr (fun a b _ m s t => K1 a b m s t) f1 (nI c) (nI q) (nI p) me sk th = K1 (nI c') (nI q') me' sk' th' ∧
        m_X7_shrink_L58 FU (nI k) kd fi ot la (fun a b _ t m => K2 a b t m) f2 (nI c) (nI q) (nI p) th2 far = K2 (nI c') (nI q') th2' far' := by
  intro x
  have z0 : (0 : Int32) = 0 := rfl
  have n1 : ¬ (1 : Int32) = 0 := by decide
  have a00 : (0 : Int32) &&& 1 = 0 := by decide
  have a11 : (1 : Int32) &&& 1 = 1 := by decide
  have p0 : ∀ y : Nat, nI y + (0 : Int32) = nI y := fun y => nI_add y 0
  induction x with
  | zero =>
    intro p f1 f2 hx hf1 hf2 c q T me sk th th2 far w h h2 hq
    obtain ⟨g1, rfl⟩ : ∃ g, f1 = g + 1 := ⟨f1 - 1, by omega⟩
    obtain ⟨g2, rfl⟩ : ∃ g, f2 = g + 1 := ⟨f2 - 1, by omega⟩
    have e : p = 62 := by omega
    subst e
    have g0 : (62 : Int32) ≤ nI 62 := nI_le (a := 62) (b := 62) (by omega) (by omega)
    refine ⟨c, q, T, me, sk, th, th2, far, w, h, h2, hq, rfl, by omega, fun z => Or.inl z, ?_, ?_⟩
    · rw [m_X0_leaveOutWhile_L26, if_pos g0]
    · rw [m_X7_shrink_L58, if_pos g0]
  | succ x ih =>
    intro p f1 f2 hx hf1 hf2 c q T me sk th th2 far w h h2 hq
    obtain ⟨g1, rfl⟩ : ∃ g, f1 = g + 1 := ⟨f1 - 1, by omega⟩
    obtain ⟨g2, rfl⟩ : ∃ g, f2 = g + 1 := ⟨f2 - 1, by omega⟩
    have hp : p < 62 := by omega
    have g0 : ¬ (62 : Int32) ≤ nI p := fun z => by have := (nI_leI (a := 62) (b := p) (by omega) (by omega)).mp z; omega
    have r := h p hp
    have r2 := h2 p hp
    have b3 := w_b3 w hp
    have hi := t_in hp (by omega)
    by_cases ct : T p = 0
    · obtain ⟨c', q', T', me', sk', th', th2', far', i1, i2, i3, i4, i5, i6, i7, i8, i9⟩ := ih (p + 1) g1 g2 (by omega) (by omega) (by omega) c q T me sk th th2 far w h h2 hq
      refine ⟨c', q', T', me', sk', th', th2', far', i1, i2, i3, i4, i5, i6, i7, ?_, ?_⟩
      · rw [m_X0_leaveOutWhile_L26, if_neg g0, w_isThere hp r.2.1 b3.2.1, Option.bind_some, ct, if_pos nI_0, nI_1, i8]
      · rw [m_X7_shrink_L58, if_neg g0, if_pos hi, nI_clamp (by omega), r2.2.1, ct, if_pos nI_0, nI_1, i9]
    · have ct1 : T p = 1 := by omega
      have hH : H p = 1 := by have := (w_ok_there w) p hp; omega
      have w1 := w_p_ok (x := 0) (p := p) w (by omega)
      have h1 := w_p_c (p := p) (x := 0) (y := nI 0) h rfl
      have h21 := w_p_m (p := p) (x := 0) (y := nI 0) h2 rfl
      have s1 : m_X5_setThere (nI p) 0 hd th = some (upd th p (nI 0)) := by
        rw [← nI_0]; exact j_setThere hp r.1 hH (by omega)
      have cn := w_p_62 (T := T) (p := p) (x := 0) hp
      obtain ⟨b, hb, ⟨me1, sk1, e1⟩, far1, e2⟩ := v_says hfu hk w1 h1 h21 me sk far
      have hi2 := t_in2 hp (N := 62) (by omega)
      have e2' : m_X7_isSo FU (nI k) kd (upd th2 p 0) fi ot la far = some (b, far1) := e2
      rcases hb with rfl | rfl
      · have cn2 := w_p_62 (T := w_p T p 0) (p := p) (x := 1) hp
        rw [w_p_s] at cn2
        obtain ⟨c', q', T', me', sk', th', th2', far', i1, i2, i3, i4, i5, i6, i7, i8, i9⟩ := ih (p + 1) g1 g2 (by omega) (by omega) (by omega) c q (w_p (w_p T p 0) p 1) me1 sk1 (upd (upd th p (nI 0)) p (nI 1)) (upd (upd th2 p (nI 0)) p (nI 1)) far1 (w_p_ok w1 (by omega)) (w_p_c h1 rfl) (w_p_m h21 rfl) hq
        refine ⟨c', q', T', me', sk', th', th2', far', i1, i2, i3, i4, by omega, i6, i7, ?_, ?_⟩
        · rw [m_X0_leaveOutWhile_L26, if_neg g0, w_isThere hp r.2.1 b3.2.1, Option.bind_some, ct1, if_neg (by decide), s1, Option.bind_some, e1, Option.bind_some, mt_j, if_pos z0]; dsimp only
          rw [show (1 : Int32) = nI 1 from rfl, j_setThere hp (h1 p hp).1 hH (by omega), Option.bind_some, mt_j, if_pos z0]; dsimp only
          rw [if_pos z0, p0, nI_add, ← i8]
          by_cases cq : q = 0
          · rw [cq, if_pos nI_0]; rfl
          · have cq1 : q = 1 := by omega
            rw [cq1, if_neg (by decide)]
        · rw [m_X7_shrink_L58, if_neg g0, if_pos hi, nI_clamp (by omega), r2.2.1, ct1, if_neg (by decide), if_pos hi2, a00, e2', Option.bind_some, mt_j, if_pos z0]; dsimp only
          rw [if_pos hi, nI_clamp (by omega), a11, mt_j, if_pos z0]; dsimp only
          rw [if_pos z0, p0, nI_1, ← i9]
          by_cases cq : q = 0
          · rw [cq, if_pos nI_0]; rfl
          · have cq1 : q = 1 := by omega
            rw [cq1, if_neg (by decide)]; rfl
      · have cn2 := w_p_62 (T := w_p T p 0) (p := p) (x := 0) hp
        rw [w_p_s] at cn2
        obtain ⟨c', q', T', me', sk', th', th2', far', i1, i2, i3, i4, i5, i6, i7, i8, i9⟩ := ih (p + 1) g1 g2 (by omega) (by omega) (by omega) (c + 1) 1 (w_p (w_p T p 0) p 0) me1 sk1 (upd (upd th p (nI 0)) p (nI 0)) (upd (upd th2 p (nI 0)) p (nI 0)) far1 (w_p_ok w1 (by omega)) (w_p_c h1 rfl) (w_p_m h21 rfl) (by omega)
        refine ⟨c', q', T', me', sk', th', th2', far', i1, i2, i3, i4, by omega, by omega, fun _ => Or.inr (by omega), ?_, ?_⟩
        · have s2 : m_X5_setThere (nI p) 0 hd (upd th p (nI 0)) = some (upd (upd th p (nI 0)) p (nI 0)) := by
            rw [← nI_0]; exact j_setThere hp r.1 hH (by omega)
          rw [m_X0_leaveOutWhile_L26, if_neg g0, w_isThere hp r.2.1 b3.2.1, Option.bind_some, ct1, if_neg (by decide), s1, Option.bind_some, e1, Option.bind_some, mt_j, if_neg n1]; dsimp only
          rw [s2, Option.bind_some, mt_j, if_neg n1]; dsimp only
          rw [if_neg n1, nI_1, nI_1, ← i8]
          by_cases cq : q = 0
          · rw [cq, if_pos nI_0]; rfl
          · have cq1 : q = 1 := by omega
            rw [cq1, if_neg (by decide)]; rfl
        · rw [m_X7_shrink_L58, if_neg g0, if_pos hi, nI_clamp (by omega), r2.2.1, ct1, if_neg (by decide), if_pos hi2, a00, e2', Option.bind_some, mt_j, if_neg n1]; dsimp only
          rw [if_pos hi, nI_clamp (by omega), a00, mt_j, if_neg n1]; dsimp only
          rw [if_neg n1, nI_1, nI_1, ← i9]
          by_cases cq : q = 0
          · rw [cq, if_pos nI_0]; rfl
          · have cq1 : q = 1 := by omega
            rw [cq1, if_neg (by decide)]; rfl
/-- round after round -/
theorem j_rounds {n k FU : Nat} {H A B C : Nat → Nat} {hd co se tr kd fi ot la : Nat → Int32} (hfu : 63 ≤ FU) (hk : k < 5)
    (K1 : Int32 → (Nat → Int32) → (Nat → Int32) → (Nat → Int32) → Option (Int32 × (Nat → Int32) × (Nat → Int32) × (Nat → Int32)))
    (K2 : Int32 → (Nat → Int32) → (Nat → Int32) → Option (Int32 × Int32 × (Nat → Int32) × (Nat → Int32))) :
    ∀ (x r f1 f2 : Nat), r + x = 63 → x < f1 → x < f2 → ∀ (c q : Nat) (T : Nat → Nat) (me sk th th2 far : Nat → Int32), w_ok n H T A B C → w_c H T A B C hd th co se tr → w_m H T A B C kd th2 fi ot la → q ≤ 1 → c + w_n T 0 62 ≤ 62 → (q = 1 → r ≤ c) →
      ∃ (c' : Nat) (T' : Nat → Nat) (me' sk' th' th2' far' : Nat → Int32), w_ok n H T' A B C ∧ w_c H T' A B C hd th' co se tr ∧ w_m H T' A B C kd th2' fi ot la ∧
        m_X0_leaveOutWhile_L8 FU (nI k) hd co se tr (fun a _ _ m s t => K1 a m s t) f1 (nI c) (nI q) (nI r) me sk th = K1 (nI c') me' sk' th' ∧
        m_X7_shrink_L47 FU (nI k) kd fi ot la (fun a _ t m => K2 a t m) f2 (nI c) (nI q) th2 far = K2 (nI c') th2' far' := by
  intro x
  induction x with
  | zero =>
    intro r f1 f2 hx hf1 hf2 c q T me sk th th2 far w h h2 hq hc hr
    obtain ⟨g1, rfl⟩ : ∃ g, f1 = g + 1 := ⟨f1 - 1, by omega⟩
    obtain ⟨g2, rfl⟩ : ∃ g, f2 = g + 1 := ⟨f2 - 1, by omega⟩
    have e : r = 63 := by omega
    subst e
    have q0 : q = 0 := by
      by_cases z : q = 0
      · exact z
      · have := hr (by omega); omega
    have g0 : (62 : Int32) < nI 63 := by decide
    refine ⟨c, T, me, sk, th, th2, far, w, h, h2, ?_, ?_⟩
    · rw [m_X0_leaveOutWhile_L8, if_pos g0]
    · rw [m_X7_shrink_L47, q0, if_pos nI_0]
  | succ x ih =>
    intro r f1 f2 hx hf1 hf2 c q T me sk th th2 far w h h2 hq hc hr
    obtain ⟨g1, rfl⟩ : ∃ g, f1 = g + 1 := ⟨f1 - 1, by omega⟩
    obtain ⟨g2, rfl⟩ : ∃ g, f2 = g + 1 := ⟨f2 - 1, by omega⟩
    have g0 : ¬ (62 : Int32) < nI r := fun z => by have := (nI_ltI (a := 62) (b := r) (by omega) (by omega)).mp z; omega
    by_cases cq : q = 0
    · refine ⟨c, T, me, sk, th, th2, far, w, h, h2, ?_, ?_⟩
      · rw [m_X0_leaveOutWhile_L8, if_neg g0, cq, if_pos nI_0]
      · rw [m_X7_shrink_L47, cq, if_pos nI_0]
    · have q1 : q = 1 := by omega
      subst q1
      obtain ⟨c1, q1, T1, me1, sk1, th1, th21, far1, i1, i2, i3, i4, i5, i6, i7, i8, i9⟩ := j_round hfu hk (fun a b m s t => m_X0_leaveOutWhile_L8 FU (nI k) hd co se tr (fun a _ _ m s t => K1 a m s t) g1 a b (nI r + 1) m s t) (fun a b t m => m_X7_shrink_L47 FU (nI k) kd fi ot la (fun a _ t m => K2 a t m) g2 a b t m) 62 0 FU FU (by omega) (by omega) (by omega) c 0 T me sk th th2 far w h h2 (by omega)
      obtain ⟨c', T', me', sk', th', th2', far', k1, k2, k3, k4, k5⟩ := ih (r + 1) g1 g2 (by omega) (by omega) (by omega) c1 q1 T1 me1 sk1 th1 th21 far1 i1 i2 i3 i4 (by omega) (fun z => by have := i7 z; have := hr rfl; omega)
      refine ⟨c', T', me', sk', th', th2', far', k1, k2, k3, ?_, ?_⟩
      · rw [m_X0_leaveOutWhile_L8, if_neg g0, if_neg (by decide), mt_j]
        refine Eq.trans i8 ?_
        rw [nI_1]; exact k4
      · rw [m_X7_shrink_L47, if_neg (by decide), mt_j]
        exact Eq.trans i9 k5
theorem j_shrink {n fu : Nat} {H T A B C : Nat → Nat} {hd th co se tr kd th2 fi ot la : Nat → Int32} (hfu : 64 ≤ fu) (w : w_ok n H T A B C) (h : w_c H T A B C hd th co se tr) (h2 : w_m H T A B C kd th2 fi ot la) (p1 : Int32) (me sk far : Nat → Int32) (o : Nat → Int64) : ∃ (k v : Int32) (T' : Nat → Nat) (me' sk' far' th' th2' : Nat → Int32), m_L_shrink fu p1 hd th co se tr me sk o = some (k, th', me', sk', j_o o k v) ∧ m_X7_shrink fu p1 kd th2 fi ot la far = some (v, k, th2', far') ∧ w_ok n H T' A B C ∧ w_c H T' A B C hd th' co se tr ∧ w_m H T' A B C kd th2' fi ot la := by
  have z0 : (0 : Int32) = 0 := rfl
  have n1 : ¬ (1 : Int32) = 0 := by decide
  by_cases c : p1 < 0 ∨ nI 5 ≤ p1
  · refine ⟨1, 0, T, me, sk, far, th, th2, ?_, ?_, w, h, h2⟩
    · rw [m_L_shrink, m_X6_shrink, j_vout c, Option.bind_some, if_pos z0, Option.bind_some, if_neg j_s1, if_pos rfl, j_o1]
    · rw [m_X7_shrink, j_out (M := 4) (b := 4) rfl (by omega) c, Option.bind_some, mt_j, if_pos z0]; dsimp only; rw [mt_j, mt_j, if_neg n1]; dsimp only; rw [j_t10, Option.bind_some, if_neg n1]
  · rcases pk_ix p1 (n := 5) (by omega) with c' | c' | ⟨k, hk, rfl⟩
    · exact absurd (Or.inl c') c
    · exact absurd (Or.inr c') c
    · obtain ⟨b, hb, ⟨me1, sk1, e1⟩, far1, e2⟩ := v_says (fu := fu) (by omega) hk w h h2 me sk far
      rcases hb with rfl | rfl
      · refine ⟨2, 0, T, me1, sk1, far1, th, th2, ?_, ?_, w, h, h2⟩
        · rw [m_L_shrink, m_X6_shrink, j_vin hk, Option.bind_some, if_neg n1, e1, Option.bind_some, if_pos z0, Option.bind_some, if_neg j_s2, if_neg j_s3, if_pos rfl, j_o2]
        · rw [m_X7_shrink, j_inn (M := 4) (b := 4) rfl (by omega) (by omega), Option.bind_some, mt_j, if_neg n1]; dsimp only; rw [mt_j, mt_j, if_pos z0, e2, Option.bind_some, if_pos z0]; dsimp only; rw [j_t01, Option.bind_some, if_neg n1]
      · have l1 := w_n_le (f := T) (a := 0) 62 (fun p _ z => (w_b3 w (by omega)).2.1)
        obtain ⟨c1, T', me', sk', th', th2', far', k1, k2, k3, k4, k5⟩ := j_rounds (FU := fu) (by omega) hk (fun a m s t => some (a, m, s, t)) (fun a t m => some (a, (0 : Int32), t, m)) 63 0 fu fu (by omega) (by omega) (by omega) 0 1 T me1 sk1 th th2 far1 w h h2 (by omega) (by omega) (by omega)
        have e3 : m_X0_leaveOutWhile fu (nI k) me1 sk1 hd th co se tr = some (nI c1, me', sk', th') := by
          rw [m_X0_leaveOutWhile, mt_j]; exact k4
        refine ⟨0, nI c1, T', me', sk', far', th', th2', ?_, ?_, k1, k2, k3⟩
        · rw [m_L_shrink, m_X6_shrink, j_vin hk, Option.bind_some, if_neg n1, e1, Option.bind_some, if_neg n1, e3, Option.bind_some, Option.bind_some, if_pos rfl, if_pos j_00, j_o0]
        · rw [m_X7_shrink, j_inn (M := 4) (b := 4) rfl (by omega) (by omega), Option.bind_some, mt_j, if_neg n1]; dsimp only; rw [mt_j, mt_j, if_pos z0, e2, Option.bind_some, if_neg n1]; dsimp only; rw [j_t00, Option.bind_some, if_pos z0, mt_j]
          exact k5

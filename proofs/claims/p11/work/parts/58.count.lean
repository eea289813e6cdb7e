/-! One town of plain numbers behind both: H a part that it has, T one that is there, A B C its numbers. -/
def w_ok (n : Nat) (H T A B C : Nat → Nat) : Prop := (n ≤ 20) ∧ (∀ p, p < 62 → H p ≤ 1) ∧ (∀ p, p < 62 → T p ≤ H p) ∧ (∀ p, p < 62 → H p = 0 → A p = 0 ∧ B p = 0 ∧ C p = 0) ∧ (∀ p, p < 62 → A p ≤ n) ∧ (∀ p, p < 30 → H p = 1 → A p < B p ∧ B p ≤ n ∧ 1 ≤ C p ∧ C p ≤ 99) ∧ (∀ p, 30 ≤ p → p < 41 → H p = 1 → 1 ≤ B p ∧ B p ≤ 7 ∧ C p = 0) ∧ (∀ p, 41 ≤ p → p < 62 → H p = 1 → B p ≤ 2 ∧ C p ≤ 1439)
theorem w_ok_n20 {n : Nat} {H T A B C : Nat → Nat} (w : w_ok n H T A B C) : n ≤ 20 := w.1
theorem w_ok_had {n : Nat} {H T A B C : Nat → Nat} (w : w_ok n H T A B C) : ∀ p, p < 62 → H p ≤ 1 := w.2.1
theorem w_ok_there {n : Nat} {H T A B C : Nat → Nat} (w : w_ok n H T A B C) : ∀ p, p < 62 → T p ≤ H p := w.2.2.1
theorem w_ok_none {n : Nat} {H T A B C : Nat → Nat} (w : w_ok n H T A B C) : ∀ p, p < 62 → H p = 0 → A p = 0 ∧ B p = 0 ∧ C p = 0 := w.2.2.2.1
theorem w_ok_corner {n : Nat} {H T A B C : Nat → Nat} (w : w_ok n H T A B C) : ∀ p, p < 62 → A p ≤ n := w.2.2.2.2.1
theorem w_ok_street {n : Nat} {H T A B C : Nat → Nat} (w : w_ok n H T A B C) : ∀ p, p < 30 → H p = 1 → A p < B p ∧ B p ≤ n ∧ 1 ≤ C p ∧ C p ≤ 99 := w.2.2.2.2.2.1
theorem w_ok_unit {n : Nat} {H T A B C : Nat → Nat} (w : w_ok n H T A B C) : ∀ p, 30 ≤ p → p < 41 → H p = 1 → 1 ≤ B p ∧ B p ≤ 7 ∧ C p = 0 := w.2.2.2.2.2.2.1
theorem w_ok_call {n : Nat} {H T A B C : Nat → Nat} (w : w_ok n H T A B C) : ∀ p, 41 ≤ p → p < 62 → H p = 1 → B p ≤ 2 ∧ C p ≤ 1439 := w.2.2.2.2.2.2.2
def w_c (H T A B C : Nat → Nat) (hd th co se tr : Nat → Int32) : Prop := ∀ p, p < 62 → hd p = nI (H p) ∧ th p = nI (T p) ∧ co p = nI (A p) ∧ se p = nI (B p) ∧ tr p = nI (C p)
def w_m (H T A B C : Nat → Nat) (kd th fi ot la : Nat → Int32) : Prop := ∀ p, p < 62 → kd p = (if H p = 1 then nI (t_kd p) else (-1)) ∧ th p = nI (T p) ∧ fi p = nI (A p) ∧ ot p = nI (B p) ∧ la p = nI (C p)
theorem w_b3 {n : Nat} {H T A B C : Nat → Nat} (w : w_ok n H T A B C) {p : Nat} (hp : p < 62) : H p ≤ 1 ∧ T p ≤ 1 ∧ A p ≤ 20 ∧ B p ≤ 20 ∧ C p ≤ 1439 := by
  have h1 := (w_ok_had w) p hp
  have h2 := (w_ok_there w) p hp
  have h3 := (w_ok_corner w) p hp
  have h0 := (w_ok_n20 w)
  refine ⟨h1, by omega, by omega, ?_⟩
  by_cases c : H p = 1
  · by_cases c1 : p < 30
    · have := (w_ok_street w) p c1 c; omega
    · by_cases c2 : p < 41
      · have := (w_ok_unit w) p (by omega) c2 c; omega
      · have := (w_ok_call w) p (by omega) hp c; omega
  · have := (w_ok_none w) p hp (by omega); omega
theorem t_min_lt (s : Int32) : ∀ j, t_min s j < 1440 := by
  intro j
  induction j with
  | zero => rw [t_min_0]; exact t_dr_lt (by omega)
  | succ j ih =>
    by_cases c : t_dr s 8 (j + 1) 3 = 0
    · rw [t_min_y c]; exact ih
    · rw [t_min_n c]; exact t_dr_lt (by omega)
theorem t_hd_le (s : Int32) (n p : Nat) : t_hd s n p ≤ 1 := by
  rw [t_hd]
  repeat' split
  all_goals omega
/-- the town as it is drawn is one -/
theorem w_drawn (s : Int32) {n : Nat} (hn : n ≤ 20) : w_ok n (t_hd s n) (t_hd s n) (t_z s n (t_co s n)) (t_z s n (t_se s n)) (t_z s n (t_tr s)) := by
  refine ⟨hn, fun p _ => t_hd_le s n p, fun p _ => Nat.le_refl _, fun p _ h => by simp [t_z, h], ?_, ?_, ?_, ?_⟩
  · intro p hp
    by_cases c : t_hd s n p = 0
    · simp [t_z, c]
    · rw [t_z, if_neg c, t_co]
      by_cases c1 : p < 20
      · have : p < n := by
          by_cases c9 : p < n
          · exact c9
          · exact absurd (t_hd0 c1 (by omega)) c
        have := t_dr_lt (s := s) (k := 0) (i := p + 1) (m := p + 1) (by omega)
        rw [if_pos c1]; omega
      · have h2 := t_dr_lt (s := s) (k := 2) (i := p - 20) (m := 1 + n) (by omega)
        have h3 := t_dr_lt (s := s) (k := 4) (i := p - 30) (m := 1 + n) (by omega)
        have h4 := t_dr_lt (s := s) (k := 6) (i := p - 41) (m := 1 + n) (by omega)
        rw [if_neg c1]
        repeat' split
        all_goals omega
  · intro p hp h
    have c : ¬ t_hd s n p = 0 := by omega
    rw [t_z, if_neg c, t_z, if_neg c, t_z, if_neg c, t_co, t_se, t_tr]
    by_cases c1 : p < 20
    · have : p < n := by
        by_cases c9 : p < n
        · exact c9
        · exact absurd (t_hd0 c1 (by omega)) c
      have := t_dr_lt (s := s) (k := 0) (i := p + 1) (m := p + 1) (by omega)
      have := t_dr_lt (s := s) (k := 1) (i := p + 1) (m := 99) (by omega)
      rw [if_pos c1, if_pos c1, if_pos c1]; omega
    · obtain ⟨j, rfl⟩ : ∃ j, p = 20 + j := ⟨p - 20, by omega⟩
      have h0 := t_hd2 (s := s) (n := n) (j := j) (by omega)
      have hne : t_dr s 2 j (1 + n) ≠ t_dr s 3 j (1 + n) := by
        intro z
        rw [if_neg (fun y => y.2 z)] at h0
        exact c h0
      have h2 := t_dr_lt (s := s) (k := 2) (i := j) (m := 1 + n) (by omega)
      have h3 := t_dr_lt (s := s) (k := 3) (i := j) (m := 1 + n) (by omega)
      have h4 := t_dr_lt (s := s) (k := 1) (i := 100 + j) (m := 99) (by omega)
      rw [if_neg c1, if_neg c1, if_neg c1, if_pos hp, if_pos hp, if_pos hp, show 20 + j - 20 = j by omega]
      omega
  · intro p h1 h2 h
    have c : ¬ t_hd s n p = 0 := by omega
    have h5 := t_dr_lt (s := s) (k := 5) (i := p - 30) (m := 7) (by omega)
    rw [t_z, if_neg c, t_z, if_neg c, t_se, t_tr, if_neg (by omega), if_neg (by omega), if_pos h2, if_neg (by omega), if_neg (by omega), if_pos h2]
    omega
  · intro p h1 h2 h
    have c : ¬ t_hd s n p = 0 := by omega
    have h5 := t_dr_lt (s := s) (k := 7) (i := p - 41) (m := 3) (by omega)
    have h6 := t_min_lt s (p - 41)
    rw [t_z, if_neg c, t_z, if_neg c, t_se, t_tr, if_neg (by omega), if_neg (by omega), if_neg (by omega), if_neg (by omega), if_neg (by omega), if_neg (by omega)]
    omega
theorem w_cdrawn {s : Int32} {n : Nat} {hd th co se tr : Nat → Int32} (h : tc_at s n 62 hd th co se tr) : w_c (t_hd s n) (t_hd s n) (t_z s n (t_co s n)) (t_z s n (t_se s n)) (t_z s n (t_tr s)) hd th co se tr := by
  intro p hp
  have := h p hp
  rw [if_pos hp, if_pos hp, if_pos hp, if_pos hp] at this
  exact this
theorem w_mdrawn {s : Int32} {n : Nat} {kd th fi ot la : Nat → Int32} (h : tm_at s n 62 kd th fi ot la) : w_m (t_hd s n) (t_hd s n) (t_z s n (t_co s n)) (t_z s n (t_se s n)) (t_z s n (t_tr s)) kd th fi ot la := by
  intro p hp
  have := h p hp
  simp only [hp, true_and, if_true] at this
  exact this
/-- how many -/
def w_n (f : Nat → Nat) (a : Nat) : Nat → Nat
  | 0 => 0
  | d + 1 => w_n f a d + f (a + d)
theorem w_n_le {f : Nat → Nat} {a : Nat} : ∀ d, (∀ p, a ≤ p → p < a + d → f p ≤ 1) → w_n f a d ≤ d := by
  intro d
  induction d with
  | zero => intro _; exact Nat.le_refl _
  | succ d ih =>
    intro h
    have h1 := ih (fun p x y => h p x (by omega))
    have h2 := h (a + d) (by omega) (by omega)
    rw [w_n]; omega
theorem w_n_add (f : Nat → Nat) (a x : Nat) : ∀ y, w_n f a (x + y) = w_n f a x + w_n f (a + x) y := by
  intro y
  induction y with
  | zero => rfl
  | succ y ih =>
    show w_n f a (x + y) + f (a + (x + y)) = w_n f a x + (w_n f (a + x) y + f (a + x + y))
    rw [ih, Nat.add_assoc a x y, Nat.add_assoc]
theorem w_n_eq {f g : Nat → Nat} {a : Nat} : ∀ d, (∀ p, a ≤ p → p < a + d → f p = g p) → w_n f a d = w_n g a d := by
  intro d
  induction d with
  | zero => intro _; rfl
  | succ d ih =>
    intro h
    rw [w_n, w_n, ih (fun p x y => h p x (by omega)), h (a + d) (by omega) (by omega)]
theorem w_n_0 {f : Nat → Nat} {a : Nat} : ∀ d, (∀ p, a ≤ p → p < a + d → f p = 0) → w_n f a d = 0 := by
  intro d
  induction d with
  | zero => intro _; rfl
  | succ d ih =>
    intro h
    rw [w_n, ih (fun p x y => h p x (by omega)), h (a + d) (by omega) (by omega)]
theorem w_cnt (s : Int32) (n : Nat) : ∀ e, t_cnt s n e = w_n (t_hd s n) 0 e := by
  intro e
  induction e with
  | zero => rfl
  | succ e ih => rw [t_cnt, w_n, ih, Nat.zero_add]
/-- the parts of a kind -/
def w_k (T : Nat → Nat) (k p : Nat) : Nat := if t_kd p = k then T p else 0
theorem t_kd0 {p : Nat} (h : p < 30) : t_kd p = 0 := by rw [t_kd, if_pos h]
theorem t_kd1 {p : Nat} (h : 30 ≤ p) (h2 : p < 41) : t_kd p = 1 := by rw [t_kd, if_neg (Nat.not_lt.mpr h), if_pos h2]
theorem t_kd2 {p : Nat} (h : 41 ≤ p) : t_kd p = 2 := by rw [t_kd, if_neg (by omega), if_neg (Nat.not_lt.mpr h)]
theorem t_kdc (p : Nat) : (p < 30 ∧ t_kd p = 0) ∨ (30 ≤ p ∧ p < 41 ∧ t_kd p = 1) ∨ (41 ≤ p ∧ t_kd p = 2) := by
  by_cases c : p < 30
  · exact Or.inl ⟨c, t_kd0 c⟩
  · by_cases c2 : p < 41
    · exact Or.inr (Or.inl ⟨by omega, c2, t_kd1 (by omega) c2⟩)
    · exact Or.inr (Or.inr ⟨by omega, t_kd2 (by omega)⟩)
theorem w_ky {T : Nat → Nat} {k p : Nat} (h : t_kd p = k) : w_k T k p = T p := by rw [w_k, if_pos h]
theorem w_kn {T : Nat → Nat} {k p : Nat} (h : ¬ t_kd p = k) : w_k T k p = 0 := by rw [w_k, if_neg h]
theorem w_k0 (T : Nat → Nat) : w_n (w_k T 0) 0 62 = w_n T 0 30 := by
  have h1 : w_n (w_k T 0) 0 30 = w_n T 0 30 := w_n_eq 30 (fun p _ h => w_ky (t_kd0 (by omega)))
  have h2 : w_n (w_k T 0) (0 + 30) 32 = 0 := w_n_0 32 (fun p h _ => w_kn (by have := t_kdc p; omega))
  rw [show (62 : Nat) = 30 + 32 from rfl, w_n_add, h1, h2, Nat.add_zero]
theorem w_k1 (T : Nat → Nat) : w_n (w_k T 1) 0 62 = w_n T 30 11 := by
  have h1 : w_n (w_k T 1) 0 30 = 0 := w_n_0 30 (fun p _ h => w_kn (by have := t_kdc p; omega))
  have h2 : w_n (w_k T 1) (0 + 30) 11 = w_n T (0 + 30) 11 := w_n_eq 11 (fun p h h2 => w_ky (t_kd1 (by omega) (by omega)))
  have h3 : w_n (w_k T 1) (0 + 30 + 11) 21 = 0 := w_n_0 21 (fun p h _ => w_kn (by have := t_kdc p; omega))
  rw [show (62 : Nat) = 30 + (11 + 21) from rfl, w_n_add, w_n_add, h1, h2, h3, Nat.add_zero, Nat.zero_add, Nat.zero_add]
theorem w_k2 (T : Nat → Nat) : w_n (w_k T 2) 0 62 = w_n T 41 21 := by
  have h1 : w_n (w_k T 2) 0 41 = 0 := w_n_0 41 (fun p _ h => w_kn (by have := t_kdc p; omega))
  have h2 : w_n (w_k T 2) (0 + 41) 21 = w_n T (0 + 41) 21 := w_n_eq 21 (fun p h h2 => w_ky (t_kd2 (by omega)))
  rw [show (62 : Nat) = 41 + 21 from rfl, w_n_add, h1, h2, Nat.zero_add, Nat.zero_add]
theorem w_kall (T : Nat → Nat) : w_n (w_k T 0) 0 62 + w_n (w_k T 1) 0 62 + w_n (w_k T 2) 0 62 = w_n T 0 62 := by
  rw [w_k0, w_k1, w_k2, show (62 : Nat) = 30 + (11 + 21) from rfl, w_n_add, w_n_add, Nat.zero_add, show (30 : Nat) + 11 = 41 from rfl]
  omega
/-- the class counts -/
theorem w_isThere {T : Nat → Nat} {th : Nat → Int32} {p : Nat} (h : p < 62) (ht : th p = nI (T p)) (h1 : T p ≤ 1) : m_X5_isThere (nI p) th = some (nI (T p)) := by
  rw [m_X5_isThere, t_isPart h, Option.bind_some, if_neg (by decide), if_pos (t_in h (by omega)), nI_clamp (by omega), ht]
  by_cases c : T p = 0
  · rw [c, if_pos nI_0]; rfl
  · have c1 : T p = 1 := by omega
    rw [c1, if_neg (by decide)]; rfl
theorem w_howMany {T : Nat → Nat} {th : Nat → Int32} {a b : Nat} (hb : b ≤ 62) (ht : ∀ p, p < 62 → th p = nI (T p) ∧ T p ≤ 1) (K : Int32 → Int32 → Option Int32) : ∀ (d x fu : Nat), a + x + d = b → d < fu → m_X5_howManyThere_L5 (nI b) th K fu (nI (w_n T a x)) (nI (a + x)) = K (nI (w_n T a (b - a))) (nI b) := by
  intro d
  induction d with
  | zero =>
    intro x fu hx hf
    obtain ⟨f, rfl⟩ : ∃ f, fu = f + 1 := ⟨fu - 1, by omega⟩
    have e : a + x = b := by omega
    rw [m_X5_howManyThere_L5, if_pos (nI_le (by omega) (by omega)), e, show b - a = x by omega]
  | succ d ih =>
    intro x fu hx hf
    obtain ⟨f, rfl⟩ : ∃ f, fu = f + 1 := ⟨fu - 1, by omega⟩
    have h2 := ht (a + x) (by omega)
    have g1 : ¬ nI b ≤ nI (a + x) := nI_ge (by omega) (by omega)
    rw [m_X5_howManyThere_L5, if_neg g1, w_isThere (by omega) h2.1 h2.2, Option.bind_some, ← ih (x + 1) f (by omega) (by omega), nI_1, nI_1]
    by_cases c : T (a + x) = 0
    · rw [c, if_pos nI_0, w_n, c]; rfl
    · have c1 : T (a + x) = 1 := by omega
      rw [c1, if_neg (by decide), w_n, c1]; rfl
/-- the reference counts -/
theorem w_many {H T : Nat → Nat} {kd th : Nat → Int32} {k : Nat} (hk : k < 3) (ht : ∀ p, p < 62 → th p = nI (T p) ∧ T p ≤ H p ∧ H p ≤ 1 ∧ kd p = (if H p = 1 then nI (t_kd p) else (-1))) (K : Int32 → Int32 → Option Int32) : ∀ (d x fu : Nat), x + d = 62 → d < fu → m_X7_many_L4 (nI k) kd th K fu (nI (w_n (w_k T k) 0 x)) (nI x) = K (nI (w_n (w_k T k) 0 62)) (nI 62) := by
  intro d
  induction d with
  | zero =>
    intro x fu hx hf
    obtain ⟨f, rfl⟩ : ∃ f, fu = f + 1 := ⟨fu - 1, by omega⟩
    have e : x = 62 := by omega
    subst e
    have g0 : (62 : Int32) ≤ nI 62 := nI_le (a := 62) (b := 62) (by omega) (by omega)
    rw [m_X7_many_L4, if_pos g0]
  | succ d ih =>
    intro x fu hx hf
    obtain ⟨f, rfl⟩ : ∃ f, fu = f + 1 := ⟨fu - 1, by omega⟩
    have h2 := ht x (by omega)
    have g1 : ¬ (62 : Int32) ≤ nI x := fun z => by have := (nI_leI (a := 62) (b := x) (by omega) (by omega)).mp z; omega
    have hi := t_in (e := x) (N := 62) (by omega) (by omega)
    have z0 : ∀ y : Nat, nI y + (0 : Int32) = nI y := fun y => nI_add y 0
    rw [m_X7_many_L4, if_neg g1, if_pos hi, if_pos hi, nI_clamp (by omega), h2.1, ← ih (x + 1) f (by omega) (by omega), nI_1, nI_1, z0]
    by_cases c : T x = 0
    · rw [c, if_pos nI_0, w_n, Nat.zero_add, show w_k T k x = 0 by rw [w_k, c]; split <;> rfl, Nat.add_zero (w_n (w_k T k) 0 x)]
    · have c1 : T x = 1 := by omega
      have c2 : H x = 1 := by omega
      have c3 : ¬ nI 1 = 0 := by decide
      have kl : t_kd x < 3 := by have := t_kdc x; omega
      rw [c1, if_neg c3, h2.2.2.2, if_pos c2, w_n, Nat.zero_add]
      by_cases c4 : t_kd x = k
      · rw [if_pos (by rw [c4]), w_k, if_pos c4, c1]
      · rw [if_neg (fun z => c4 ((nI_eq (by omega) (by omega)).mp z)), w_k, if_neg c4, Nat.add_zero (w_n (w_k T k) 0 x)]

/-! The class draws the town: the rows are the town's up to a frontier e, zeros behind it. -/
def t_cnt (s : Int32) (n : Nat) : Nat → Nat
  | 0 => 0
  | e + 1 => t_cnt s n e + t_hd s n e
def tc_at (s : Int32) (n e : Nat) (hd th co se tr : Nat → Int32) : Prop := ∀ p, p < 62 → hd p = nI (if p < e then t_hd s n p else 0) ∧ th p = nI (if p < e then t_hd s n p else 0) ∧ co p = nI (if p < e then t_z s n (t_co s n) p else 0) ∧ se p = nI (if p < e then t_z s n (t_se s n) p else 0) ∧ tr p = nI (if p < e then t_z s n (t_tr s) p else 0)
theorem tc_skip {s : Int32} {n e : Nat} {hd th co se tr : Nat → Int32} (h : tc_at s n e hd th co se tr) (hz : t_hd s n e = 0) : tc_at s n (e + 1) hd th co se tr := by
  intro p hp
  obtain ⟨h1, h2, h3, h4, h5⟩ := h p hp
  by_cases c : p = e
  · subst c
    rw [if_neg (Nat.lt_irrefl _)] at h1 h2 h3 h4 h5
    have hz' : ∀ f, t_z s n f p = 0 := fun f => by simp [t_z, hz]
    rw [if_pos (Nat.lt_succ_self _), if_pos (Nat.lt_succ_self _), if_pos (Nat.lt_succ_self _), if_pos (Nat.lt_succ_self _), hz, hz', hz', hz']
    exact ⟨h1, h2, h3, h4, h5⟩
  · have e1 : (p < e + 1) = (p < e) := by apply propext; omega
    simp only [e1]
    exact ⟨h1, h2, h3, h4, h5⟩
theorem tc_put {s : Int32} {n e : Nat} {hd th co se tr : Nat → Int32} (h : tc_at s n e hd th co se tr) (he : e < 62) (hz : t_hd s n e = 1) : tc_at s n (e + 1) (upd hd e 1) (upd th e 1) (upd co e (nI (t_co s n e))) (upd se e (nI (t_se s n e))) (upd tr e (nI (t_tr s e))) := by
  intro p hp
  obtain ⟨h1, h2, h3, h4, h5⟩ := h p hp
  by_cases c : p = e
  · subst c
    have hz' : ∀ f, t_z s n f p = f p := fun f => by simp [t_z, hz]
    simp only [pk_us, Nat.lt_succ_self, if_true, hz, hz']
    refine ⟨?_, ?_, ?_, ?_, ?_⟩ <;> first | rfl | trivial
  · have e1 : (p < e + 1) = (p < e) := by apply propext; omega
    simp only [pk_un c, e1]
    exact ⟨h1, h2, h3, h4, h5⟩
theorem t_in {e N : Nat} (h : e < N) (hN : N < 2 ^ 31) : ¬ (nI e < 0 ∨ N ≤ (nI e).toNatClampNeg) := nI_in h hN
theorem t_one : ((1 : Int32) &&& 1) = 1 := by decide
theorem t_zer : ((0 : Int32) &&& 1) = 0 := by decide
theorem t_isPart {e : Nat} (h : e < 62) : m_X6_isPart (nI e) = some 1 := by
  rw [m_X6_isPart, if_neg (nI_pos (by omega)), if_neg (fun z => by have := (nI_leI (a := 62) (b := e) (by omega) (by omega)).mp z; omega)]
theorem t_cputs {e : Nat} {a b c pa : Int32} {hd th co se tr : Nat → Int32} (h : e < 62) : m_X5_put (nI e) a b c pa hd th co se tr = some (pa + 1, upd hd e 1, upd th e 1, upd co e a, upd se e b, upd tr e c) := by
  have hi := t_in h (by omega)
  rw [m_X5_put, t_isPart h, Option.bind_some, if_neg (by decide), if_pos hi, if_pos hi, if_pos hi, if_pos hi, if_pos hi, nI_clamp (by omega), t_one]
theorem t_mm {a b : Nat} (ha : a < 2 ^ 31) (hb : b < 2 ^ 31) : mt_min (nI a) (nI b) = nI (min a b) ∧ mt_max (nI a) (nI b) = nI (max a b) := by
  constructor
  · rw [mt_min]
    by_cases c : b < a
    · rw [if_pos ((nI_ltI hb ha).mpr c), Nat.min_eq_right (by omega)]
    · rw [if_neg (fun z => c ((nI_ltI hb ha).mp z)), Nat.min_eq_left (by omega)]
  · rw [mt_max]
    by_cases c : a < b
    · rw [if_pos ((nI_ltI ha hb).mpr c), Nat.max_eq_right (by omega)]
    · rw [if_neg (fun z => c ((nI_ltI ha hb).mp z)), Nat.max_eq_left (by omega)]
theorem t_cstreet {e x y : Nat} {c pa : Int32} {hd th co se tr : Nat → Int32} (h : e < 62) (hx : x < 2 ^ 31) (hy : y < 2 ^ 31) : m_X5_putStreet (nI e) (nI x) (nI y) c pa hd th co se tr = some (pa + 1, upd hd e 1, upd th e 1, upd co e (nI (min x y)), upd se e (nI (max x y)), upd tr e c) := by
  rw [m_X5_putStreet, (t_mm hx hy).1, (t_mm hx hy).2, t_cputs h, Option.bind_some]
theorem t_cforget (K : Int32 → (Nat → Int32) → (Nat → Int32) → (Nat → Int32) → (Nat → Int32) → (Nat → Int32) → Option (Int32 × (Nat → Int32) × (Nat → Int32) × (Nat → Int32) × (Nat → Int32) × (Nat → Int32))) : ∀ (d i fu : Nat), i + d = 62 → d < fu → ∀ hd th co se tr : Nat → Int32, (∀ p, p < i → hd p = 0 ∧ th p = 0 ∧ co p = 0 ∧ se p = 0 ∧ tr p = 0) → ∃ hd' th' co' se' tr' : Nat → Int32, (∀ p, p < 62 → hd' p = 0 ∧ th' p = 0 ∧ co' p = 0 ∧ se' p = 0 ∧ tr' p = 0) ∧ m_X5_forget_L7 K fu (nI i) hd th co se tr = K (nI 62) hd' th' co' se' tr' := by
  intro d
  induction d with
  | zero =>
    intro i fu hi hf hd th co se tr h
    obtain ⟨f, rfl⟩ : ∃ f, fu = f + 1 := ⟨fu - 1, by omega⟩
    have e : i = 62 := by omega
    subst e
    exact ⟨hd, th, co, se, tr, h, by rw [m_X5_forget_L7, if_pos (by decide)]⟩
  | succ d ih =>
    intro i fu hi hf hd th co se tr h
    obtain ⟨f, rfl⟩ : ∃ f, fu = f + 1 := ⟨fu - 1, by omega⟩
    have hn : ¬ (62 : Int32) ≤ nI i := fun z => by have := (nI_leI (a := 62) (b := i) (by omega) (by omega)).mp z; omega
    have hin := t_in (e := i) (N := 62) (by omega) (by omega)
    obtain ⟨a1, a2, a3, a4, a5, h1, h2⟩ := ih (i + 1) f (by omega) (by omega) (upd hd i 0) (upd th i 0) (upd co i 0) (upd se i 0) (upd tr i 0) (fun p hp => by
      by_cases c : p = i
      · subst c; simp only [pk_us]; exact ⟨trivial, trivial, trivial, trivial, trivial⟩
      · simp only [pk_un c]; exact h p (by omega))
    refine ⟨a1, a2, a3, a4, a5, h1, ?_⟩
    rw [m_X5_forget_L7, if_neg hn, if_pos hin, if_pos hin, if_pos hin, if_pos hin, if_pos hin, nI_clamp (by omega), t_zer, nI_1]
    exact h2
theorem t_hd1 {s : Int32} {n p : Nat} (h : p < 20) (h2 : p < n) : t_hd s n p = 1 := by rw [t_hd, if_pos h, if_pos h2]
theorem t_hd0 {s : Int32} {n p : Nat} (h : p < 20) (h2 : n ≤ p) : t_hd s n p = 0 := by rw [t_hd, if_pos h, if_neg (by omega)]
theorem t_hd2 {s : Int32} {n j : Nat} (h : j < 10) : t_hd s n (20 + j) = if j < n / 2 ∧ t_dr s 2 j (1 + n) ≠ t_dr s 3 j (1 + n) then 1 else 0 := by
  rw [t_hd, if_neg (by omega), if_pos (by omega), show 20 + j - 20 = j by omega]
theorem t_hd3 {s : Int32} {n u : Nat} (h : u < 11) : t_hd s n (30 + u) = if u < 1 + n / 2 then 1 else 0 := by
  rw [t_hd, if_neg (by omega), if_neg (by omega), if_pos (by omega), show 30 + u - 30 = u by omega]
theorem t_hd4 {s : Int32} {n c : Nat} : t_hd s n (41 + c) = if c < 1 + n then 1 else 0 := by
  rw [t_hd, if_neg (by omega), if_neg (by omega), if_neg (by omega), show 41 + c - 41 = c by omega]
theorem tc_skips {s : Int32} {n : Nat} {hd th co se tr : Nat → Int32} : ∀ (d e : Nat), tc_at s n e hd th co se tr → (∀ x, e ≤ x → x < e + d → t_hd s n x = 0) → tc_at s n (e + d) hd th co se tr ∧ t_cnt s n (e + d) = t_cnt s n e := by
  intro d
  induction d with
  | zero => intro e h _; exact ⟨h, rfl⟩
  | succ d ih =>
    intro e h hz
    obtain ⟨h1, h2⟩ := ih e h (fun x a b => hz x a (by omega))
    have h3 := hz (e + d) (by omega) (by omega)
    refine ⟨tc_skip h1 h3, ?_⟩
    show t_cnt s n (e + d) + t_hd s n (e + d) = t_cnt s n e
    omega
abbrev t_R : Type := Int32 × (Nat → Int32) × (Nat → Int32) × (Nat → Int32) × (Nat → Int32) × (Nat → Int32)
theorem t_cstreets {s : Int32} {n : Nat} (hn : n ≤ 20) (K : Int32 → Int32 → (Nat → Int32) → (Nat → Int32) → (Nat → Int32) → (Nat → Int32) → (Nat → Int32) → Option t_R) : ∀ (d i fu : Nat), i + d = n → d < fu → ∀ hd th co se tr : Nat → Int32, tc_at s n i hd th co se tr → ∃ hd' th' co' se' tr' : Nat → Int32, tc_at s n n hd' th' co' se' tr' ∧ m_X5_drawStreets_L2 s (nI n) K fu (nI (i + 1)) (nI (t_cnt s n i)) hd th co se tr = K (nI (n + 1)) (nI (t_cnt s n n)) hd' th' co' se' tr' := by
  intro d
  induction d with
  | zero =>
    intro i fu hi hf hd th co se tr h
    obtain ⟨f, rfl⟩ : ∃ f, fu = f + 1 := ⟨fu - 1, by omega⟩
    have e : i = n := by omega
    subst e
    exact ⟨hd, th, co, se, tr, h, by rw [m_X5_drawStreets_L2, if_pos (nI_lt (by omega) (by omega))]⟩
  | succ d ih =>
    intro i fu hi hf hd th co se tr h
    obtain ⟨f, rfl⟩ : ∃ f, fu = f + 1 := ⟨fu - 1, by omega⟩
    have hz : t_hd s n i = 1 := t_hd1 (by omega) (by omega)
    have hp := tc_put h (by omega) hz
    have hd1 := t_dr_lt (s := s) (k := 0) (i := i + 1) (m := i + 1) (by omega)
    have d1 : m_X5_drawn (0 : Int32) (nI (i + 1)) (nI (i + 1)) s = some (nI (t_dr s 0 (i + 1) (i + 1))) := t_drawn (k := 0) (by omega) (by omega)
    have d2 : m_X5_drawn (1 : Int32) (nI (i + 1)) (99 : Int32) s = some (nI (t_dr s 1 (i + 1) 99)) := t_drawn (k := 1) (m := 99) (by omega) (by omega)
    have e1 : min (i + 1) (t_dr s 0 (i + 1) (i + 1)) = t_co s n i := by rw [t_co, if_pos (by omega)]; omega
    have e2 : max (i + 1) (t_dr s 0 (i + 1) (i + 1)) = t_se s n i := by rw [t_se, if_pos (by omega)]; omega
    have e3 : (1 : Int32) + nI (t_dr s 1 (i + 1) 99) = nI (t_tr s i) := by rw [t_tr, if_pos (by omega)]; exact nI_add 1 _
    have e4 : nI (t_cnt s n i) + 1 = nI (t_cnt s n (i + 1)) := by rw [nI_1, t_cnt, hz]
    obtain ⟨a1, a2, a3, a4, a5, h1, h2⟩ := ih (i + 1) f (by omega) (by omega) _ _ _ _ _ hp
    refine ⟨a1, a2, a3, a4, a5, h1, ?_⟩
    rw [m_X5_drawStreets_L2, if_neg (nI_nlt (by omega) (by omega)), d1, Option.bind_some, d2, Option.bind_some, nI_pred, t_cstreet (by omega) (by omega) (by omega), Option.bind_some, e1, e2, e3, nI_1, e4]
    exact h2

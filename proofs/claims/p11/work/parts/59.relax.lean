/-! Both shorten ways street by street: one function of plain numbers. -/
def r_one (a b c : Nat) (d : Nat → Nat) (v : Nat) : Nat := if v = b ∧ d a + c < d b then d a + c else if v = a ∧ d b + c < d a then d b + c else d v
theorem r_one_le (a b c : Nat) (d : Nat → Nat) (v : Nat) : r_one a b c d v ≤ d v := by
  rw [r_one]
  split
  · rename_i h; obtain ⟨rfl, h2⟩ := h; omega
  · split
    · rename_i h; obtain ⟨rfl, h2⟩ := h; omega
    · exact Nat.le_refl _
theorem r_one_edge {a b c : Nat} (d : Nat → Nat) (h : a ≠ b) : r_one a b c d b ≤ d a + c ∧ r_one a b c d a ≤ d b + c := by
  constructor
  · rw [r_one]
    by_cases g : d a + c < d b
    · rw [if_pos ⟨rfl, g⟩]; omega
    · rw [if_neg (fun z => g z.2), if_neg (fun z => h z.1.symm)]; omega
  · rw [r_one, if_neg (fun z => h z.1)]
    by_cases g : d b + c < d a
    · rw [if_pos ⟨rfl, g⟩]; omega
    · rw [if_neg (fun z => g z.2)]; omega
theorem r_one_keep {a b c : Nat} {d : Nat → Nat} (h1 : ¬ d a + c < d b) (h2 : ¬ d b + c < d a) (v : Nat) : r_one a b c d v = d v := by
  rw [r_one, if_neg (fun z => h1 z.2), if_neg (fun z => h2 z.2)]
theorem r_one_lo {a b c : Nat} {d D : Nat → Nat} (hl : ∀ v, D v ≤ d v) (h1 : D b ≤ D a + c) (h2 : D a ≤ D b + c) (v : Nat) : D v ≤ r_one a b c d v := by
  have x1 := hl a
  have x2 := hl b
  rw [r_one]
  split
  · rename_i h; obtain ⟨rfl, _⟩ := h; omega
  · split
    · rename_i h; obtain ⟨rfl, _⟩ := h; omega
    · exact hl v
/-- the first k streets -/
def r_ps (T A B C : Nat → Nat) (d : Nat → Nat) : Nat → Nat → Nat
  | 0 => d
  | k + 1 => if T k = 0 then r_ps T A B C d k else r_one (A k) (B k) (C k) (r_ps T A B C d k)
/-- whether one of them shortens -/
def r_ch (T A B C : Nat → Nat) (d : Nat → Nat) : Nat → Nat
  | 0 => 0
  | k + 1 => if T k ≠ 0 ∧ (r_ps T A B C d k (A k) + C k < r_ps T A B C d k (B k) ∨ r_ps T A B C d k (B k) + C k < r_ps T A B C d k (A k)) then 1 else r_ch T A B C d k
def r_E (T A B C : Nat → Nat) (u v w : Nat) : Prop := ∃ k, k < 30 ∧ T k ≠ 0 ∧ w = C k ∧ ((u = A k ∧ v = B k) ∨ (u = B k ∧ v = A k))
def r_ok (T A B C : Nat → Nat) : Prop := ∀ k, k < 30 → T k ≠ 0 → A k < 21 ∧ B k < 21 ∧ A k ≠ B k ∧ 1 ≤ C k ∧ C k ≤ 99
theorem r_E_sym {T A B C : Nat → Nat} (u v w : Nat) (h : r_E T A B C u v w) : r_E T A B C v u w := by
  obtain ⟨k, h1, h2, h3, h4⟩ := h
  exact ⟨k, h1, h2, h3, h4.elim (fun z => Or.inr ⟨z.2, z.1⟩) (fun z => Or.inl ⟨z.2, z.1⟩)⟩
theorem r_E_w {T A B C : Nat → Nat} (hr : r_ok T A B C) (u v w : Nat) (h : r_E T A B C u v w) : 1 ≤ w ∧ u < 21 ∧ v < 21 := by
  obtain ⟨k, h1, h2, h3, h4⟩ := h
  have := hr k h1 h2
  rcases h4 with ⟨rfl, rfl⟩ | ⟨rfl, rfl⟩ <;> omega
theorem r_ps_le {T A B C d : Nat → Nat} (v : Nat) : ∀ k, r_ps T A B C d (k + 1) v ≤ r_ps T A B C d k v := by
  intro k
  rw [r_ps]
  split
  · exact Nat.le_refl _
  · exact r_one_le _ _ _ _ _
theorem r_ps_mono {T A B C d : Nat → Nat} (v x : Nat) : ∀ y, r_ps T A B C d (x + y) v ≤ r_ps T A B C d x v := by
  intro y
  induction y with
  | zero => exact Nat.le_refl _
  | succ y ih => exact Nat.le_trans (r_ps_le v (x + y)) ih
theorem r_ps_edge {T A B C d : Nat → Nat} (hr : r_ok T A B C) {u v w : Nat} (h : r_E T A B C u v w) : r_ps T A B C d 30 v ≤ d u + w := by
  obtain ⟨k, h1, h2, h3, h4⟩ := h
  have e := (hr k h1 h2).2.2.1
  have o := r_one_edge (c := C k) (r_ps T A B C d k) e
  have m := r_ps_mono (T := T) (A := A) (B := B) (C := C) (d := d) v (k + 1) (30 - (k + 1))
  have l := r_ps_mono (T := T) (A := A) (B := B) (C := C) (d := d) u 0 k
  have q : r_ps T A B C d (k + 1) = r_one (A k) (B k) (C k) (r_ps T A B C d k) := by rw [r_ps, if_neg h2]
  rw [show k + 1 + (30 - (k + 1)) = 30 by omega, q] at m
  rw [Nat.zero_add, show r_ps T A B C d 0 u = d u from rfl] at l
  rcases h4 with ⟨rfl, rfl⟩ | ⟨rfl, rfl⟩ <;> omega
theorem r_ps_lo {T A B C d D : Nat → Nat} (hl : ∀ v, D v ≤ d v) (hs : ∀ u v w, r_E T A B C u v w → D v ≤ D u + w) : ∀ k, k ≤ 30 → ∀ v, D v ≤ r_ps T A B C d k v := by
  intro k
  induction k with
  | zero => intro _ v; exact hl v
  | succ k ih =>
    intro hk v
    rw [r_ps]
    by_cases c : T k = 0
    · rw [if_pos c]; exact ih (by omega) v
    · rw [if_neg c]
      exact r_one_lo (ih (by omega)) (hs _ _ _ ⟨k, by omega, c, rfl, Or.inl ⟨rfl, rfl⟩⟩) (hs _ _ _ ⟨k, by omega, c, rfl, Or.inr ⟨rfl, rfl⟩⟩) v
theorem r_ch_le {T A B C d : Nat → Nat} : ∀ k, r_ch T A B C d k ≤ 1 := by
  intro k
  induction k with
  | zero => exact Nat.zero_le _
  | succ k ih => rw [r_ch]; split <;> omega
/-- no street shortens: nothing changes -/
theorem r_ch_0 {T A B C d : Nat → Nat} : ∀ k, r_ch T A B C d k = 0 → r_ps T A B C d k = d := by
  intro k
  induction k with
  | zero => intro _; rfl
  | succ k ih =>
    intro h
    rw [r_ch] at h
    by_cases c : T k = 0
    · rw [if_neg (fun z => z.1 c)] at h
      rw [r_ps, if_pos c]; exact ih h
    · by_cases g : r_ps T A B C d k (A k) + C k < r_ps T A B C d k (B k) ∨ r_ps T A B C d k (B k) + C k < r_ps T A B C d k (A k)
      · rw [if_pos ⟨c, g⟩] at h; omega
      · rw [if_neg (fun z => g z.2)] at h
        have e := ih h
        rw [r_ps, if_neg c]
        funext v
        rw [r_one_keep (fun z => g (Or.inl z)) (fun z => g (Or.inr z)), e]
/-- stable ways: no street shortens -/
theorem r_ch_st {T A B C d : Nat → Nat} (hs : ∀ u v w, r_E T A B C u v w → d v ≤ d u + w) : ∀ k, k ≤ 30 → r_ch T A B C d k = 0 := by
  intro k
  induction k with
  | zero => intro _; rfl
  | succ k ih =>
    intro hk
    have e := r_ch_0 k (ih (by omega))
    rw [r_ch, e]
    rw [if_neg (fun z => by
      have h1 := hs _ _ _ ⟨k, by omega, z.1, rfl, Or.inl ⟨rfl, rfl⟩⟩
      have h2 := hs _ _ _ ⟨k, by omega, z.1, rfl, Or.inr ⟨rfl, rfl⟩⟩
      have := z.2
      omega)]
    exact ih (by omega)
/-- rounds -/
def r_it (T A B C : Nat → Nat) (d : Nat → Nat) : Nat → Nat → Nat
  | 0 => d
  | k + 1 => r_ps T A B C (r_it T A B C d k) 30
def r_0 (a v : Nat) : Nat := if v = a then 0 else 1000000
theorem r_it_le {T A B C d : Nat → Nat} (v : Nat) : ∀ k, r_it T A B C d k v ≤ d v := by
  intro k
  induction k with
  | zero => exact Nat.le_refl _
  | succ k ih =>
    have m := r_ps_mono (T := T) (A := A) (B := B) (C := C) (d := r_it T A B C d k) v 0 30
    exact Nat.le_trans m ih
theorem r_0_le (a v : Nat) : r_0 a v ≤ 1000000 := by rw [r_0]; split <;> omega
theorem r_it_lo {T A B C : Nat → Nat} {a : Nat} {D : Nat → Nat} (hD : g_Fin (r_E T A B C) 1000000 a D) : ∀ k v, D v ≤ r_it T A B C (r_0 a) k v := by
  intro k
  induction k with
  | zero =>
    intro v
    show D v ≤ r_0 a v
    rw [r_0]
    split
    · rename_i h; subst h; rw [hD.1]; exact Nat.le_refl _
    · exact hD.2.2.2 v
  | succ k ih => exact r_ps_lo ih hD.2.1 30 (Nat.le_refl _)
/-- after 20 rounds the ways are the shortest -/
theorem r_fin {T A B C : Nat → Nat} (hr : r_ok T A B C) {a : Nat} {D : Nat → Nat} (hD : g_Fin (r_E T A B C) 1000000 a D) (k : Nat) (hk : 20 ≤ k) (v : Nat) (hv : v < 21) : r_it T A B C (r_0 a) k v = D v := by
  have h0 : ∀ k, r_it T A B C (r_0 a) k a = 0 := fun k => by
    have := r_it_le (T := T) (A := A) (B := B) (C := C) (d := r_0 a) a k
    rw [r_0, if_pos rfl] at this
    omega
  exact g_cap hD (r_E_w hr) (fun k => r_it T A B C (r_0 a) k) h0 (fun k v _ => r_it_lo hD k v) (fun k v _ => Nat.le_trans (r_it_le v k) (r_0_le a v)) (fun k u v w he => r_ps_edge hr he) k (by omega) v hv
theorem r_stop {T A B C : Nat → Nat} (hr : r_ok T A B C) (a k : Nat) (hk : 20 ≤ k) : r_ch T A B C (r_it T A B C (r_0 a) k) 30 = 0 := by
  obtain ⟨D, hD⟩ := g_dist (r_E T A B C) 1000000 a (by omega)
  refine r_ch_st (fun u v w he => ?_) 30 (Nat.le_refl _)
  have hw := r_E_w hr u v w he
  rw [r_fin hr hD k hk v hw.2.2, r_fin hr hD k hk u hw.2.1]
  exact hD.2.1 u v w he
/-- once nothing changes, nothing changes -/
theorem r_stay {T A B C d : Nat → Nat} {k : Nat} (h : r_ch T A B C (r_it T A B C d k) 30 = 0) : ∀ j, r_it T A B C d (k + j) = r_it T A B C d k := by
  intro j
  induction j with
  | zero => rfl
  | succ j ih =>
    show r_ps T A B C (r_it T A B C d (k + j)) 30 = r_it T A B C d k
    rw [ih]
    exact r_ch_0 30 h
/-- the shortest ways from a -/
def r_D (T A B C : Nat → Nat) (a : Nat) : Nat → Nat := r_it T A B C (r_0 a) 21
theorem r_any {T A B C : Nat → Nat} (hr : r_ok T A B C) {a k : Nat} (hk : 20 ≤ k) : r_it T A B C (r_0 a) k = r_D T A B C a := by
  have h1 := r_stay (r_stop hr a 20 (by omega))
  have h2 := h1 (k - 20)
  have h3 := h1 1
  rw [show 20 + (k - 20) = k by omega] at h2
  rw [h2, r_D]
  exact h3.symm
theorem r_early {T A B C : Nat → Nat} (hr : r_ok T A B C) {a k : Nat} (h : r_ch T A B C (r_it T A B C (r_0 a) k) 30 = 0) : r_it T A B C (r_0 a) k = r_D T A B C a := by
  rw [← r_stay h 20, r_any hr (by omega)]
theorem r_D_sym {T A B C : Nat → Nat} (hr : r_ok T A B C) {a b : Nat} (ha : a < 21) (hb : b < 21) : r_D T A B C a b = r_D T A B C b a := by
  obtain ⟨D1, h1⟩ := g_dist (r_E T A B C) 1000000 a (by omega)
  obtain ⟨D2, h2⟩ := g_dist (r_E T A B C) 1000000 b (by omega)
  rw [r_D, r_D, r_fin hr h1 21 (by omega) b hb, r_fin hr h2 21 (by omega) a ha]
  exact g_sym (F := 1000000) r_E_sym h1.1 h2.1 h1.2.1 h2.2.1 (h1.2.2.1 b) (h2.2.2.1 a) (h1.2.2.2 b) (h2.2.2.2 a)

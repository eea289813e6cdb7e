/-! Shortest walks, of numbers alone: E a b w: a street of w metres from a to b. -/
def gw (E : Nat → Nat → Nat → Prop) : Nat → Nat → Nat → Nat → Prop
  | 0, a, b, l => a = b ∧ l = 0
  | k + 1, a, b, l => ∃ c w l', E a c w ∧ gw E k c b l' ∧ l = w + l'
theorem gw_snoc {E : Nat → Nat → Nat → Prop} {b c w : Nat} (h2 : E b c w) : ∀ (k a l : Nat), gw E k a b l → gw E (k + 1) a c (l + w) := by
  intro k
  induction k with
  | zero =>
    intro a l h
    obtain ⟨rfl, rfl⟩ := h
    exact ⟨c, w, 0, h2, ⟨rfl, rfl⟩, by omega⟩
  | succ k ih =>
    intro a l h
    obtain ⟨x, w1, l1, h1, h3, rfl⟩ := h
    exact ⟨x, w1, l1 + w, h1, ih x l1 h3, by omega⟩
theorem gw_rev {E : Nat → Nat → Nat → Prop} (hs : ∀ a b w, E a b w → E b a w) {b : Nat} : ∀ (k a l : Nat), gw E k a b l → gw E k b a l := by
  intro k
  induction k with
  | zero =>
    intro a l h
    exact ⟨h.1.symm, h.2⟩
  | succ k ih =>
    intro a l h
    obtain ⟨x, w1, l1, h1, h3, rfl⟩ := h
    have := gw_snoc (hs _ _ _ h1) k b l1 (ih x l1 h3)
    rwa [Nat.add_comm l1 w1] at this
theorem gw_le {E : Nat → Nat → Nat → Prop} {d : Nat → Nat} (hst : ∀ a b w, E a b w → d b ≤ d a + w) {b : Nat} : ∀ (k a l : Nat), gw E k a b l → d b ≤ d a + l := by
  intro k
  induction k with
  | zero =>
    intro a l h
    obtain ⟨rfl, rfl⟩ := h
    exact Nat.le_refl _
  | succ k ih =>
    intro a l h
    obtain ⟨x, w1, l1, h1, h3, rfl⟩ := h
    have h4 := ih x l1 h3
    have h5 := hst _ _ _ h1
    omega
/-- the way there is the way back -/
theorem g_sym {E : Nat → Nat → Nat → Prop} {F a b : Nat} {d1 d2 : Nat → Nat} (hs : ∀ a b w, E a b w → E b a w) (z1 : d1 a = 0) (z2 : d2 b = 0) (s1 : ∀ a b w, E a b w → d1 b ≤ d1 a + w) (s2 : ∀ a b w, E a b w → d2 b ≤ d2 a + w)
    (r1 : d1 b < F → ∃ k, gw E k a b (d1 b)) (r2 : d2 a < F → ∃ k, gw E k b a (d2 a)) (l1 : d1 b ≤ F) (l2 : d2 a ≤ F) : d1 b = d2 a := by
  have h1 : d1 b < F → d2 a ≤ d1 b := fun h => by
    obtain ⟨k, hk⟩ := r1 h
    have := gw_le s2 k b (d1 b) (gw_rev hs k a (d1 b) hk)
    omega
  have h2 : d2 a < F → d1 b ≤ d2 a := fun h => by
    obtain ⟨k, hk⟩ := r2 h
    have := gw_le s1 k a (d2 a) (gw_rev hs k b (d2 a) hk)
    omega
  by_cases c1 : d1 b < F
  · have := h1 c1
    have := h2 (by omega)
    omega
  · by_cases c2 : d2 a < F
    · have := h2 c2
      omega
    · omega
/-- how many corners below n are nearer than v -/
def g_rk (D : Nat → Nat) (v : Nat) : Nat → Nat
  | 0 => 0
  | n + 1 => g_rk D v n + (if D n < D v then 1 else 0)
theorem g_rk_le {D : Nat → Nat} {u v : Nat} (h : D u ≤ D v) : ∀ n, g_rk D u n ≤ g_rk D v n := by
  intro n
  induction n with
  | zero => exact Nat.le_refl _
  | succ n ih =>
    show g_rk D u n + (if D n < D u then 1 else 0) ≤ g_rk D v n + (if D n < D v then 1 else 0)
    by_cases c1 : D n < D u
    · rw [if_pos c1, if_pos (by omega)]; omega
    · rw [if_neg c1]; omega
theorem g_rk_lt {D : Nat → Nat} {u v : Nat} (h : D u < D v) : ∀ n, u < n → g_rk D u n < g_rk D v n := by
  intro n
  induction n with
  | zero => intro h; omega
  | succ n ih =>
    intro hu
    show g_rk D u n + (if D n < D u then 1 else 0) < g_rk D v n + (if D n < D v then 1 else 0)
    by_cases c0 : u = n
    · subst c0
      rw [if_neg (Nat.lt_irrefl _), if_pos h]
      have := g_rk_le (D := D) (Nat.le_of_lt h) u
      omega
    · have := ih (by omega)
      by_cases c1 : D n < D u
      · rw [if_pos c1, if_pos (by omega)]; omega
      · rw [if_neg c1]; omega
theorem g_rk_n {D : Nat → Nat} {v : Nat} : ∀ n, g_rk D v n ≤ n ∧ (v < n → g_rk D v n + 1 ≤ n) := by
  intro n
  induction n with
  | zero => exact ⟨Nat.le_refl _, fun h => by omega⟩
  | succ n ih =>
    show g_rk D v n + (if D n < D v then 1 else 0) ≤ n + 1 ∧ (v < n + 1 → g_rk D v n + (if D n < D v then 1 else 0) + 1 ≤ n + 1)
    by_cases c0 : v = n
    · subst c0
      rw [if_neg (Nat.lt_irrefl _)]
      exact ⟨by omega, fun _ => by omega⟩
    · by_cases c1 : D n < D v
      · rw [if_pos c1]
        exact ⟨by omega, fun h => by have := ih.2 (by omega); omega⟩
      · rw [if_neg c1]
        exact ⟨by omega, fun h => by have := ih.2 (by omega); omega⟩
/-- a corner that isn't the first one's has one before it that is nearer -/
def g_Pre (E : Nat → Nat → Nat → Prop) (F a N : Nat) (D : Nat → Nat) : Prop := ∀ v, v < N → v ≠ a → D v < F → ∃ u w, u < N ∧ E u v w ∧ D v = D u + w ∧ D u < D v
/-- after k rounds of shortening every corner with at most k nearer ones is final -/
theorem g_rounds {E : Nat → Nat → Nat → Prop} {F a N : Nat} {D : Nat → Nat} (hp : g_Pre E F a N D) (d : Nat → Nat → Nat) (h0 : ∀ k, d k a = D a) (hlo : ∀ k v, v < N → D v ≤ d k v) (hF : ∀ k v, v < N → d k v ≤ F) (hr : ∀ k u v w, E u v w → u < N → v < N → d (k + 1) v ≤ d k u + w) : ∀ k v, v < N → g_rk D v N ≤ k → d k v = D v := by
  intro k
  induction k with
  | zero =>
    intro v hv hk
    by_cases ca : v = a
    · subst ca; exact h0 0
    · by_cases cf : D v < F
      · obtain ⟨u, w, hu, -, -, hlt⟩ := hp v hv ca cf
        have := g_rk_lt (D := D) hlt N hu
        omega
      · have := hlo 0 v hv
        have := hF 0 v hv
        omega
  | succ k ih =>
    intro v hv hk
    by_cases ca : v = a
    · subst ca; exact h0 (k + 1)
    · by_cases cf : D v < F
      · obtain ⟨u, w, hu, he, hd, hlt⟩ := hp v hv ca cf
        have h1 := g_rk_lt (D := D) hlt N hu
        have h2 := ih u hu (by omega)
        have h3 := hr k u v w he hu hv
        have h4 := hlo (k + 1) v hv
        omega
      · have := hlo (k + 1) v hv
        have := hF (k + 1) v hv
        omega

/-! Skills brought along the streets: where they come, a way is there. -/
theorem g_bound {E : Nat → Nat → Nat → Prop} {F a N W : Nat} {D : Nat → Nat} (hp : g_Pre E F a N D) (h0 : D a = 0) (hW : ∀ u v w, E u v w → w ≤ W) : ∀ r v, v < N → D v < F → g_rk D v N ≤ r → D v ≤ W * r := by
  intro r
  induction r with
  | zero =>
    intro v hv hF hr
    by_cases c : v = a
    · subst c; omega
    · obtain ⟨u, w, hu, he, e1, e2⟩ := hp v hv c hF
      have := g_rk_lt e2 N hu
      omega
  | succ r ih =>
    intro v hv hF hr
    by_cases c : v = a
    · subst c; omega
    · obtain ⟨u, w, hu, he, e1, e2⟩ := hp v hv c hF
      have h1 := g_rk_lt e2 N hu
      have h2 := ih u hu (by omega) (by omega)
      have h3 := hW u v w he
      rw [Nat.mul_succ]
      omega
theorem r_short {T A B C : Nat → Nat} (hr : r_ok T A B C) {a : Nat} (v : Nat) (hv : v < 21) (h : r_D T A B C a v < 1000000) : r_D T A B C a v ≤ 1980 := by
  obtain ⟨D, hD⟩ := g_dist (r_E T A B C) 1000000 a (by omega)
  have e : r_D T A B C a v = D v := by rw [r_D, r_fin hr hD 21 (by omega) v hv]
  have b := g_bound (W := 99) (g_pre hD (r_E_w hr)) hD.1 (fun u v w he => by
    obtain ⟨k, h1, h2, h3, _⟩ := he
    have := hr k h1 h2
    omega) 20 v hv (by omega) (by have := (g_rk_n (D := D) (v := v) 21).2 hv; omega)
  omega
theorem r_D_st {T A B C : Nat → Nat} (hr : r_ok T A B C) {a u v w : Nat} (he : r_E T A B C u v w) : r_D T A B C a v ≤ r_D T A B C a u + w := by
  obtain ⟨D, hD⟩ := g_dist (r_E T A B C) 1000000 a (by omega)
  have hw := r_E_w hr u v w he
  rw [r_D, r_fin hr hD 21 (by omega) v hw.2.2, r_fin hr hD 21 (by omega) u hw.2.1]
  exact hD.2.1 u v w he
theorem r_D_on {T A B C : Nat → Nat} (hr : r_ok T A B C) {a u v w : Nat} (he : r_E T A B C u v w) (h : r_D T A B C a u < 1000000) : r_D T A B C a v < 1000000 := by
  have hw := r_E_w hr u v w he
  have h1 := r_short hr u hw.2.1 h
  have h2 := r_D_st hr (a := a) he
  have h3 : w ≤ 99 := by
    obtain ⟨k, q1, q2, q3, _⟩ := he
    have := hr k q1 q2
    omega
  omega
theorem r_D_0 {T A B C : Nat → Nat} (a : Nat) : r_D T A B C a a = 0 := by
  have := r_it_le (T := T) (A := A) (B := B) (C := C) (d := r_0 a) a 21
  rw [r_0, if_pos rfl] at this
  rw [r_D]; omega
/-- one street -/
def s_one (a b : Nat) (m : Nat → Nat) (v : Nat) : Nat := if v = a ∨ v = b then m a ||| m b else m v
def s_ps (T A B : Nat → Nat) (m : Nat → Nat) : Nat → Nat → Nat
  | 0 => m
  | k + 1 => if T k = 0 then s_ps T A B m k else s_one (A k) (B k) (s_ps T A B m k)
def s_ch (T A B : Nat → Nat) (m : Nat → Nat) : Nat → Nat
  | 0 => 0
  | k + 1 => if T k ≠ 0 ∧ s_ps T A B m k (A k) ≠ s_ps T A B m k (B k) then 1 else s_ch T A B m k
def s_it (T A B : Nat → Nat) (m : Nat → Nat) : Nat → Nat → Nat
  | 0 => m
  | k + 1 => s_ps T A B (s_it T A B m k) 30
/-- the skills of the first j units -/
def s_u (T A B : Nat → Nat) : Nat → Nat → Nat
  | 0, _ => 0
  | j + 1, v => if T (30 + j) = 0 then s_u T A B j v else if v = A (30 + j) then s_u T A B j v ||| B (30 + j) else s_u T A B j v
theorem s_one_sub {a b s v : Nat} {m : Nat → Nat} (h : (m v).testBit s = true) : (s_one a b m v).testBit s = true := by
  rw [s_one]
  split
  · rename_i c
    rw [Nat.testBit_or]
    rcases c with rfl | rfl
    · rw [h]; rfl
    · rw [h, Bool.or_true]
  · exact h
theorem s_one_edge {a b s : Nat} {m : Nat → Nat} : ((m a).testBit s = true → (s_one a b m b).testBit s = true) ∧ ((m b).testBit s = true → (s_one a b m a).testBit s = true) := by
  constructor
  · intro h; rw [s_one, if_pos (Or.inr rfl), Nat.testBit_or, h]; rfl
  · intro h; rw [s_one, if_pos (Or.inl rfl), Nat.testBit_or, h, Bool.or_true]
theorem s_ps_sub {T A B m : Nat → Nat} {s v : Nat} (x : Nat) : ∀ y, (s_ps T A B m x v).testBit s = true → (s_ps T A B m (x + y) v).testBit s = true := by
  intro y
  induction y with
  | zero => exact id
  | succ y ih =>
    intro h
    have h2 := ih h
    show (s_ps T A B m (x + y + 1) v).testBit s = true
    rw [s_ps]
    split
    · exact h2
    · exact s_one_sub h2
theorem s_ps_edge {T A B C m : Nat → Nat} {s u v w : Nat} (he : r_E T A B C u v w) (h : (m u).testBit s = true) : (s_ps T A B m 30 v).testBit s = true := by
  obtain ⟨k, h1, h2, _, h4⟩ := he
  have a1 : (s_ps T A B m k u).testBit s = true := by
    have := s_ps_sub (T := T) (A := A) (B := B) (m := m) (s := s) (v := u) 0 k h
    rw [Nat.zero_add] at this
    exact this
  have q : s_ps T A B m (k + 1) = s_one (A k) (B k) (s_ps T A B m k) := by rw [s_ps, if_neg h2]
  have a2 : (s_ps T A B m (k + 1) v).testBit s = true := by
    rw [q]
    rcases h4 with ⟨rfl, rfl⟩ | ⟨rfl, rfl⟩
    · exact s_one_edge.1 a1
    · exact s_one_edge.2 a1
  have a3 := s_ps_sub (T := T) (A := A) (B := B) (m := m) (s := s) (v := v) (k + 1) (30 - (k + 1)) a2
  rw [show k + 1 + (30 - (k + 1)) = 30 by omega] at a3
  exact a3
theorem s_ch_0 {T A B m : Nat → Nat} : ∀ k, s_ch T A B m k = 0 → s_ps T A B m k = m := by
  intro k
  induction k with
  | zero => intro _; rfl
  | succ k ih =>
    intro h
    rw [s_ch] at h
    by_cases c : T k = 0
    · rw [if_neg (fun z => z.1 c)] at h
      rw [s_ps, if_pos c]; exact ih h
    · by_cases g : s_ps T A B m k (A k) = s_ps T A B m k (B k)
      · rw [if_neg (fun z => z.2 g)] at h
        have e := ih h
        rw [s_ps, if_neg c]
        rw [e] at g ⊢
        funext v
        rw [s_one]
        split
        · rename_i q
          rcases q with rfl | rfl
          · rw [← g, Nat.or_self]
          · rw [g, Nat.or_self]
        · rfl
      · rw [if_pos ⟨c, g⟩] at h; omega
theorem s_stay {T A B m : Nat → Nat} {k : Nat} (h : s_ch T A B (s_it T A B m k) 30 = 0) : ∀ j, s_it T A B m (k + j) = s_it T A B m k := by
  intro j
  induction j with
  | zero => rfl
  | succ j ih =>
    show s_ps T A B (s_it T A B m (k + j)) 30 = s_it T A B m k
    rw [ih]
    exact s_ch_0 30 h
theorem s_it_sub {T A B m : Nat → Nat} {s v : Nat} (h : (m v).testBit s = true) : ∀ k, (s_it T A B m k v).testBit s = true := by
  intro k
  induction k with
  | zero => exact h
  | succ k ih =>
    have := s_ps_sub (T := T) (A := A) (B := B) (m := s_it T A B m k) (s := s) (v := v) 0 30 ih
    exact this
/-- a skill comes where a way is there -/
theorem s_comes {T A B C m : Nat → Nat} (hr : r_ok T A B C) {s a v : Nat} (hv : v < 21) (ha : (m a).testBit s = true) (h : r_D T A B C a v < 1000000) : (s_it T A B m 21 v).testBit s = true := by
  obtain ⟨D, hD⟩ := g_dist (r_E T A B C) 1000000 a (by omega)
  have e : r_D T A B C a v = D v := by rw [r_D, r_fin hr hD 21 (by omega) v hv]
  have key := g_cap hD (r_E_w hr) (fun k v => if (s_it T A B m k v).testBit s = true then D v else 1000000) (fun k => by
      show (if (s_it T A B m k a).testBit s = true then D a else 1000000) = 0
      rw [if_pos (s_it_sub ha k)]; exact hD.1)
    (fun k v _ => by
      show D v ≤ (if (s_it T A B m k v).testBit s = true then D v else 1000000)
      split
      · exact Nat.le_refl _
      · exact hD.2.2.2 v)
    (fun k v _ => by
      show (if (s_it T A B m k v).testBit s = true then D v else 1000000) ≤ 1000000
      split
      · exact hD.2.2.2 v
      · exact Nat.le_refl _)
    (fun k u v w he => by
      show (if (s_it T A B m (k + 1) v).testBit s = true then D v else 1000000) ≤ (if (s_it T A B m k u).testBit s = true then D u else 1000000) + w
      by_cases c : (s_it T A B m k u).testBit s = true
      · have y : (s_it T A B m (k + 1) v).testBit s = true := s_ps_edge he c
        rw [if_pos c, if_pos y]
        exact hD.2.1 u v w he
      · rw [if_neg c]
        split
        · have := hD.2.2.2 v; omega
        · omega) 21 (by omega) v hv
  by_cases c : (s_it T A B m 21 v).testBit s = true
  · exact c
  · have k2 : (if (s_it T A B m 21 v).testBit s = true then D v else 1000000) = D v := key
    rw [if_neg c] at k2
    omega
/-- whence a skill comes -/
theorem s_whence {T A B C m : Nat → Nat} (hr : r_ok T A B C) {s : Nat} (P : Nat → Prop) (hm : ∀ v, (m v).testBit s = true → ∃ a, P a ∧ r_D T A B C a v < 1000000) : ∀ k, k ≤ 30 → ∀ v, (s_ps T A B m k v).testBit s = true → ∃ a, P a ∧ r_D T A B C a v < 1000000 := by
  intro k
  induction k with
  | zero => intro _ v h; exact hm v h
  | succ k ih =>
    intro hk v h
    rw [s_ps] at h
    by_cases c : T k = 0
    · rw [if_pos c] at h; exact ih (by omega) v h
    · rw [if_neg c, s_one] at h
      by_cases q : v = A k ∨ v = B k
      · rw [if_pos q, Nat.testBit_or] at h
        have e1 : r_E T A B C (A k) (B k) (C k) := ⟨k, by omega, c, rfl, Or.inl ⟨rfl, rfl⟩⟩
        have e2 : r_E T A B C (B k) (A k) (C k) := ⟨k, by omega, c, rfl, Or.inr ⟨rfl, rfl⟩⟩
        cases x : (s_ps T A B m k (A k)).testBit s with
        | true =>
          obtain ⟨a, p1, p2⟩ := ih (by omega) _ x
          rcases q with rfl | rfl
          · exact ⟨a, p1, p2⟩
          · exact ⟨a, p1, r_D_on hr e1 p2⟩
        | false =>
          rw [x, Bool.false_or] at h
          obtain ⟨a, p1, p2⟩ := ih (by omega) _ h
          rcases q with rfl | rfl
          · exact ⟨a, p1, r_D_on hr e2 p2⟩
          · exact ⟨a, p1, p2⟩
      · rw [if_neg q] at h; exact ih (by omega) v h
theorem s_whence2 {T A B C m : Nat → Nat} (hr : r_ok T A B C) {s : Nat} (P : Nat → Prop) (hm : ∀ v, (m v).testBit s = true → ∃ a, P a ∧ r_D T A B C a v < 1000000) : ∀ k v, (s_it T A B m k v).testBit s = true → ∃ a, P a ∧ r_D T A B C a v < 1000000 := by
  intro k
  induction k with
  | zero => exact hm
  | succ k ih => intro v h; exact s_whence hr P ih 30 (Nat.le_refl _) v h
theorem s_u_y {T A B : Nat → Nat} {s v : Nat} : ∀ j, (s_u T A B j v).testBit s = true ↔ ∃ i, i < j ∧ T (30 + i) ≠ 0 ∧ v = A (30 + i) ∧ (B (30 + i)).testBit s = true := by
  intro j
  induction j with
  | zero =>
    rw [s_u, Nat.zero_testBit]
    exact ⟨fun z => by simp at z, fun ⟨i, z, _⟩ => by omega⟩
  | succ j ih =>
    have up : (∃ i, i < j ∧ T (30 + i) ≠ 0 ∧ v = A (30 + i) ∧ (B (30 + i)).testBit s = true) → ∃ i, i < j + 1 ∧ T (30 + i) ≠ 0 ∧ v = A (30 + i) ∧ (B (30 + i)).testBit s = true := fun ⟨i, z1, z2⟩ => ⟨i, by omega, z2⟩
    rw [s_u]
    by_cases c : T (30 + j) = 0
    · rw [if_pos c, ih]
      refine ⟨up, fun ⟨i, z1, z2, z3⟩ => ?_⟩
      by_cases q : i = j
      · subst q; exact absurd c z2
      · exact ⟨i, by omega, z2, z3⟩
    · rw [if_neg c]
      by_cases c2 : v = A (30 + j)
      · rw [if_pos c2, Nat.testBit_or, Bool.or_eq_true, ih]
        constructor
        · intro z
          rcases z with z | z
          · exact up z
          · exact ⟨j, by omega, c, c2, z⟩
        · intro ⟨i, z1, z2, z3, z4⟩
          by_cases q : i = j
          · subst q; exact Or.inr z4
          · exact Or.inl ⟨i, by omega, z2, z3, z4⟩
      · rw [if_neg c2, ih]
        refine ⟨up, fun ⟨i, z1, z2, z3, z4⟩ => ?_⟩
        by_cases q : i = j
        · subst q; exact absurd z3 c2
        · exact ⟨i, by omega, z2, z3, z4⟩
/-- the skill s is at v in the end, if and only if a unit with it can come there -/
theorem s_final {T A B C : Nat → Nat} (hr : r_ok T A B C) {s v : Nat} (hv : v < 21) : (s_it T A B (s_u T A B 11) 21 v).testBit s = true ↔ ∃ i, i < 11 ∧ T (30 + i) ≠ 0 ∧ (B (30 + i)).testBit s = true ∧ r_D T A B C (A (30 + i)) v < 1000000 := by
  constructor
  · intro h
    obtain ⟨a, ⟨i, p1, p2, p3, p4⟩, p5⟩ := s_whence2 hr (fun a => ∃ i, i < 11 ∧ T (30 + i) ≠ 0 ∧ a = A (30 + i) ∧ (B (30 + i)).testBit s = true) (fun v h => ⟨v, (s_u_y 11).mp h, by rw [r_D_0]; omega⟩) 21 v h
    exact ⟨i, p1, p2, p4, p3 ▸ p5⟩
  · intro ⟨i, p1, p2, p3, p4⟩
    exact s_comes hr hv ((s_u_y 11).mpr ⟨i, p1, p2, rfl, p3⟩) p4

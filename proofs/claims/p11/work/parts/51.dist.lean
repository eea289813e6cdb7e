theorem gw_unsnoc {E : Nat → Nat → Nat → Prop} {b : Nat} : ∀ (k a l : Nat), gw E (k + 1) a b l → ∃ u w l', gw E k a u l' ∧ E u b w ∧ l = l' + w := by
  intro k
  induction k with
  | zero =>
    intro a l h
    obtain ⟨x, w1, l1, h1, ⟨hx, hl⟩, hs⟩ := h
    rw [hx] at h1
    exact ⟨a, w1, 0, ⟨rfl, rfl⟩, h1, by omega⟩
  | succ k ih =>
    intro a l h
    obtain ⟨x, w1, l1, h1, h3, rfl⟩ := h
    obtain ⟨u, w, l', h4, h5, rfl⟩ := ih x l1 h3
    exact ⟨u, w, w1 + l', ⟨x, w1, l', h1, h4, rfl⟩, h5, by omega⟩
/-- what a finished table of ways is -/
def g_Fin (E : Nat → Nat → Nat → Prop) (F a : Nat) (d : Nat → Nat) : Prop := d a = 0 ∧ (∀ u v w, E u v w → d v ≤ d u + w) ∧ (∀ v, d v < F → ∃ k, gw E k a v (d v)) ∧ ∀ v, d v ≤ F
theorem g_uniq {E : Nat → Nat → Nat → Prop} {F a : Nat} {d D : Nat → Nat} (h1 : g_Fin E F a d) (h2 : g_Fin E F a D) (v : Nat) : d v = D v := by
  obtain ⟨z1, s1, r1, l1⟩ := h1
  obtain ⟨z2, s2, r2, l2⟩ := h2
  have q1 : d v < F → D v ≤ d v := fun h => by
    obtain ⟨k, hk⟩ := r1 v h
    have := gw_le s2 k a _ hk
    omega
  have q2 : D v < F → d v ≤ D v := fun h => by
    obtain ⟨k, hk⟩ := r2 v h
    have := gw_le s1 k a _ hk
    omega
  have := l1 v
  have := l2 v
  by_cases c1 : d v < F
  · have := q1 c1
    have := q2 (by omega)
    omega
  · by_cases c2 : D v < F
    · have := q2 c2
      omega
    · omega
theorem g_dist (E : Nat → Nat → Nat → Prop) (F a : Nat) (hF : 0 < F) : ∃ D : Nat → Nat, g_Fin E F a D := by
  have h0 : ∀ v : Nat, ∃ x : Nat, x ≤ F ∧ (x < F → ∃ k, gw E k a v x) ∧ ∀ k l, gw E k a v l → x ≤ l := by
    intro v
    by_cases h : ∃ l, ∃ k, gw E k a v l
    · obtain ⟨l, ⟨k, hk⟩, hl⟩ := pk_least _ h
      by_cases c : l < F
      · refine ⟨l, Nat.le_of_lt c, fun _ => ⟨k, hk⟩, fun k2 l2 h2 => ?_⟩
        rcases Nat.lt_or_ge l2 l with q | q
        · exact absurd ⟨k2, h2⟩ (hl l2 q)
        · exact q
      · refine ⟨F, Nat.le_refl _, fun q => absurd q (Nat.lt_irrefl _), fun k2 l2 h2 => ?_⟩
        rcases Nat.lt_or_ge l2 l with q | q
        · exact absurd ⟨k2, h2⟩ (hl l2 q)
        · omega
    · exact ⟨F, Nat.le_refl _, fun q => absurd q (Nat.lt_irrefl _), fun k l h2 => absurd ⟨l, k, h2⟩ h⟩
  obtain ⟨D, hD⟩ := Classical.axiomOfChoice h0
  refine ⟨D, ?_, fun u v w he => ?_, fun v => (hD v).2.1, fun v => (hD v).1⟩
  · have := (hD a).2.2 0 0 ⟨rfl, rfl⟩
    omega
  · by_cases c : D u < F
    · obtain ⟨k, hk⟩ := (hD u).2.1 c
      exact (hD v).2.2 _ _ (gw_snoc he k a _ hk)
    · have := (hD v).1
      omega
theorem g_pre {E : Nat → Nat → Nat → Prop} {F a N : Nat} {D : Nat → Nat} (h : g_Fin E F a D) (hw : ∀ u v w, E u v w → 1 ≤ w ∧ u < N ∧ v < N) : g_Pre E F a N D := by
  obtain ⟨z, s, r, l⟩ := h
  intro v hv hva hf
  obtain ⟨k, hk⟩ := r v hf
  cases k with
  | zero => exact absurd hk.1.symm hva
  | succ k =>
    obtain ⟨u, w, l', h1, h2, h3⟩ := gw_unsnoc k a _ hk
    have h4 := gw_le s k a l' h1
    have h5 := s _ _ _ h2
    have h6 := hw _ _ _ h2
    exact ⟨u, w, h6.2.1, h2, by omega, by omega⟩
/-- so after 21 rounds, of 21 corners, the table is finished -/
theorem g_cap {E : Nat → Nat → Nat → Prop} {F a N : Nat} {D : Nat → Nat} (hD : g_Fin E F a D) (hw : ∀ u v w, E u v w → 1 ≤ w ∧ u < N ∧ v < N) (d : Nat → Nat → Nat) (h0 : ∀ k, d k a = 0) (hlo : ∀ k v, v < N → D v ≤ d k v) (hF : ∀ k v, v < N → d k v ≤ F) (hr : ∀ k u v w, E u v w → d (k + 1) v ≤ d k u + w) : ∀ k, N ≤ k + 1 → ∀ v, v < N → d k v = D v := by
  intro k hk v hv
  refine g_rounds (g_pre hD hw) d (fun k => by rw [h0, hD.1]) hlo hF (fun k u v w he _ _ => hr k u v w he) k v hv ?_
  have := (g_rk_n (D := D) (v := v) N).2 hv
  omega
